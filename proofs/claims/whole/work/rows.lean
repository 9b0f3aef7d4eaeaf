section
-- ===== PART A: goes FIRST, ahead of the names: the tables' words, and 'selects' of the private methods out of them =====
/-- a private method of a class that the tables say can be made, by its rows of tables_1 -/
def lw_okq (q : MethodName × Nat) : Prop := (q.1.cls ≠ "java/lang/invoke/MethodHandle" ∧ q.1.cls ≠ "java/lang/invoke/VarHandle") ∧ Cond.instantiable q.1.cls q.2 ∈ tables_1 ∧ Cond.privateMethod q.1 ∈ tables_1 ∧ Cond.instanceMethod q.1 ∈ tables_1
theorem lw_p0 : lw_okq (⟨"TrunkReserveModel", "builds", "(I)V"⟩, 15) := ⟨⟨by decide +kernel, by decide +kernel⟩, List.mem_of_getElem? (i := 626) (by decide +kernel), List.mem_of_getElem? (i := 632) (by decide +kernel), List.mem_of_getElem? (i := 633) (by decide +kernel)⟩
theorem lw_p1 : lw_okq (⟨"TrunkReserveModel", "put", "(III)V"⟩, 15) := ⟨⟨by decide +kernel, by decide +kernel⟩, List.mem_of_getElem? (i := 626) (by decide +kernel), List.mem_of_getElem? (i := 636) (by decide +kernel), List.mem_of_getElem? (i := 637) (by decide +kernel)⟩
theorem lw_p2 : lw_okq (⟨"TrunkReserveModel", "frees", "(I)V"⟩, 15) := ⟨⟨by decide +kernel, by decide +kernel⟩, List.mem_of_getElem? (i := 626) (by decide +kernel), List.mem_of_getElem? (i := 640) (by decide +kernel), List.mem_of_getElem? (i := 641) (by decide +kernel)⟩
theorem lw_p3 : lw_okq (⟨"TrunkReserveModel", "putL", "(IIIIII)V"⟩, 15) := ⟨⟨by decide +kernel, by decide +kernel⟩, List.mem_of_getElem? (i := 626) (by decide +kernel), List.mem_of_getElem? (i := 644) (by decide +kernel), List.mem_of_getElem? (i := 645) (by decide +kernel)⟩
theorem lw_p4 : lw_okq (⟨"TrunkReserveModel", "held", "()I"⟩, 15) := ⟨⟨by decide +kernel, by decide +kernel⟩, List.mem_of_getElem? (i := 626) (by decide +kernel), List.mem_of_getElem? (i := 699) (by decide +kernel), List.mem_of_getElem? (i := 700) (by decide +kernel)⟩
theorem lw_p5 : lw_okq (⟨"TrunkReserveModel", "setOf", "(II)I"⟩, 15) := ⟨⟨by decide +kernel, by decide +kernel⟩, List.mem_of_getElem? (i := 626) (by decide +kernel), List.mem_of_getElem? (i := 703) (by decide +kernel), List.mem_of_getElem? (i := 704) (by decide +kernel)⟩
theorem lw_p6 : lw_okq (⟨"TrunkReserveModel", "of", "(II)I"⟩, 15) := ⟨⟨by decide +kernel, by decide +kernel⟩, List.mem_of_getElem? (i := 626) (by decide +kernel), List.mem_of_getElem? (i := 707) (by decide +kernel), List.mem_of_getElem? (i := 708) (by decide +kernel)⟩
theorem lw_p7 : lw_okq (⟨"TrunkReserveModel", "ofL", "(III)I"⟩, 15) := ⟨⟨by decide +kernel, by decide +kernel⟩, List.mem_of_getElem? (i := 626) (by decide +kernel), List.mem_of_getElem? (i := 711) (by decide +kernel), List.mem_of_getElem? (i := 712) (by decide +kernel)⟩
theorem lw_p8 : lw_okq (⟨"TrunkReserveModel", "lost", "()I"⟩, 15) := ⟨⟨by decide +kernel, by decide +kernel⟩, List.mem_of_getElem? (i := 626) (by decide +kernel), List.mem_of_getElem? (i := 718) (by decide +kernel), List.mem_of_getElem? (i := 719) (by decide +kernel)⟩
theorem lw_p9 : lw_okq (⟨"TrunkReserveModel", "together", "()V"⟩, 15) := ⟨⟨by decide +kernel, by decide +kernel⟩, List.mem_of_getElem? (i := 626) (by decide +kernel), List.mem_of_getElem? (i := 722) (by decide +kernel), List.mem_of_getElem? (i := 723) (by decide +kernel)⟩
theorem lw_p10 : lw_okq (⟨"TrunkReserveModel", "loses", "()V"⟩, 15) := ⟨⟨by decide +kernel, by decide +kernel⟩, List.mem_of_getElem? (i := 626) (by decide +kernel), List.mem_of_getElem? (i := 726) (by decide +kernel), List.mem_of_getElem? (i := 727) (by decide +kernel)⟩
theorem lw_p11 : lw_okq (⟨"TrunkReserveModel", "wrong", "()I"⟩, 15) := ⟨⟨by decide +kernel, by decide +kernel⟩, List.mem_of_getElem? (i := 626) (by decide +kernel), List.mem_of_getElem? (i := 732) (by decide +kernel), List.mem_of_getElem? (i := 733) (by decide +kernel)⟩
theorem lw_p12 : lw_okq (⟨"TrunkReserveModel", "isLine", "(II)Z"⟩, 15) := ⟨⟨by decide +kernel, by decide +kernel⟩, List.mem_of_getElem? (i := 626) (by decide +kernel), List.mem_of_getElem? (i := 736) (by decide +kernel), List.mem_of_getElem? (i := 737) (by decide +kernel)⟩
theorem lw_p13 : lw_okq (⟨"TrunkReserveModel", "isGroup", "(I)Z"⟩, 15) := ⟨⟨by decide +kernel, by decide +kernel⟩, List.mem_of_getElem? (i := 626) (by decide +kernel), List.mem_of_getElem? (i := 740) (by decide +kernel), List.mem_of_getElem? (i := 741) (by decide +kernel)⟩
theorem lw_p14 : lw_okq (⟨"TrunkReserveModel", "goesTo", "(I)I"⟩, 15) := ⟨⟨by decide +kernel, by decide +kernel⟩, List.mem_of_getElem? (i := 626) (by decide +kernel), List.mem_of_getElem? (i := 753) (by decide +kernel), List.mem_of_getElem? (i := 754) (by decide +kernel)⟩
theorem lw_p15 : lw_okq (⟨"TrunkReserveModel", "choice", "(I)I"⟩, 15) := ⟨⟨by decide +kernel, by decide +kernel⟩, List.mem_of_getElem? (i := 626) (by decide +kernel), List.mem_of_getElem? (i := 757) (by decide +kernel), List.mem_of_getElem? (i := 758) (by decide +kernel)⟩
def lw_privs_1 : List (MethodName × Nat) := [(⟨"TrunkReserveModel", "builds", "(I)V"⟩, 15), (⟨"TrunkReserveModel", "put", "(III)V"⟩, 15), (⟨"TrunkReserveModel", "frees", "(I)V"⟩, 15), (⟨"TrunkReserveModel", "putL", "(IIIIII)V"⟩, 15), (⟨"TrunkReserveModel", "held", "()I"⟩, 15), (⟨"TrunkReserveModel", "setOf", "(II)I"⟩, 15), (⟨"TrunkReserveModel", "of", "(II)I"⟩, 15), (⟨"TrunkReserveModel", "ofL", "(III)I"⟩, 15), (⟨"TrunkReserveModel", "lost", "()I"⟩, 15), (⟨"TrunkReserveModel", "together", "()V"⟩, 15), (⟨"TrunkReserveModel", "loses", "()V"⟩, 15), (⟨"TrunkReserveModel", "wrong", "()I"⟩, 15), (⟨"TrunkReserveModel", "isLine", "(II)Z"⟩, 15), (⟨"TrunkReserveModel", "isGroup", "(I)Z"⟩, 15), (⟨"TrunkReserveModel", "goesTo", "(I)I"⟩, 15), (⟨"TrunkReserveModel", "choice", "(I)I"⟩, 15)]
theorem lw_r1 : ∀ q ∈ lw_privs_1, lw_okq q := List.forall_mem_cons.mpr ⟨lw_p0, List.forall_mem_cons.mpr ⟨lw_p1, List.forall_mem_cons.mpr ⟨lw_p2, List.forall_mem_cons.mpr ⟨lw_p3, List.forall_mem_cons.mpr ⟨lw_p4, List.forall_mem_cons.mpr ⟨lw_p5, List.forall_mem_cons.mpr ⟨lw_p6, List.forall_mem_cons.mpr ⟨lw_p7, List.forall_mem_cons.mpr ⟨lw_p8, List.forall_mem_cons.mpr ⟨lw_p9, List.forall_mem_cons.mpr ⟨lw_p10, List.forall_mem_cons.mpr ⟨lw_p11, List.forall_mem_cons.mpr ⟨lw_p12, List.forall_mem_cons.mpr ⟨lw_p13, List.forall_mem_cons.mpr ⟨lw_p14, List.forall_mem_cons.mpr ⟨lw_p15, fun _ h => absurd h List.not_mem_nil⟩⟩⟩⟩⟩⟩⟩⟩⟩⟩⟩⟩⟩⟩⟩⟩
theorem lw_p16 : lw_okq (⟨"TrunkReserveModel", "notes", "()V"⟩, 15) := ⟨⟨by decide +kernel, by decide +kernel⟩, List.mem_of_getElem? (i := 626) (by decide +kernel), List.mem_of_getElem? (i := 769) (by decide +kernel), List.mem_of_getElem? (i := 770) (by decide +kernel)⟩
theorem lw_p17 : lw_okq (⟨"TrunkReserveModel", "comes", "(I)I"⟩, 15) := ⟨⟨by decide +kernel, by decide +kernel⟩, List.mem_of_getElem? (i := 626) (by decide +kernel), List.mem_of_getElem? (i := 781) (by decide +kernel), List.mem_of_getElem? (i := 782) (by decide +kernel)⟩
theorem lw_p18 : lw_okq (⟨"TrunkReserveModel", "ends", "(II)I"⟩, 15) := ⟨⟨by decide +kernel, by decide +kernel⟩, List.mem_of_getElem? (i := 626) (by decide +kernel), List.mem_of_getElem? (i := 790) (by decide +kernel), List.mem_of_getElem? (i := 791) (by decide +kernel)⟩
theorem lw_p19 : lw_okq (⟨"TrunkReserveModel", "drawOf", "(I)I"⟩, 15) := ⟨⟨by decide +kernel, by decide +kernel⟩, List.mem_of_getElem? (i := 626) (by decide +kernel), List.mem_of_getElem? (i := 806) (by decide +kernel), List.mem_of_getElem? (i := 807) (by decide +kernel)⟩
theorem lw_p20 : lw_okq (⟨"TrunkReserveModel", "weighs", "(IIII)V"⟩, 15) := ⟨⟨by decide +kernel, by decide +kernel⟩, List.mem_of_getElem? (i := 626) (by decide +kernel), List.mem_of_getElem? (i := 824) (by decide +kernel), List.mem_of_getElem? (i := 825) (by decide +kernel)⟩
def lw_privs_2 : List (MethodName × Nat) := [(⟨"TrunkReserveModel", "notes", "()V"⟩, 15), (⟨"TrunkReserveModel", "comes", "(I)I"⟩, 15), (⟨"TrunkReserveModel", "ends", "(II)I"⟩, 15), (⟨"TrunkReserveModel", "drawOf", "(I)I"⟩, 15), (⟨"TrunkReserveModel", "weighs", "(IIII)V"⟩, 15)]
theorem lw_r2 : ∀ q ∈ lw_privs_2, lw_okq q := List.forall_mem_cons.mpr ⟨lw_p16, List.forall_mem_cons.mpr ⟨lw_p17, List.forall_mem_cons.mpr ⟨lw_p18, List.forall_mem_cons.mpr ⟨lw_p19, List.forall_mem_cons.mpr ⟨lw_p20, fun _ h => absurd h List.not_mem_nil⟩⟩⟩⟩⟩
def lw_privs : List (MethodName × Nat) := lw_privs_1 ++ (lw_privs_2)
def lw_tbl : List Cond := k2_sels lw_privs ++ tables_1
theorem lw_privs_ok : ∀ q ∈ lw_privs, lw_okq q := by
  show ∀ q ∈ lw_privs_1 ++ (lw_privs_2), lw_okq q
  exact List.forall_mem_append.mpr ⟨lw_r1, lw_r2⟩
def RX0 : String := "TrunkReserve$Book"
def TX0 : u_T := fun k => match k with
  | 0 => ("TrunkReserve$Book", "groups", "[I", true)
  | 1 => ("TrunkReserve$Book", "lines", "[I", true)
  | 2 => ("TrunkReserve$Book", "states", "[I", true)
  | _ => ("TrunkReserve$Book", "size", "I", false)
def tyX0 : Nat → FieldType := fun k => match k with
  | 0 => .array .int
  | 1 => .array .int
  | 2 => .array .int
  | _ => .int
abbrev wsX00 : List Cond := u_ws RX0 TX0 4
theorem nmX0 : ∀ a, a < 4 → ∀ b, b < 4 → a ≠ b → (TX0 a).2.1 ≠ (TX0 b).2.1 := by decide +kernel
theorem tyX0_ok : ∀ k, k < 4 → parseFieldDescriptor (TX0 k).2.2.1 = some (tyX0 k) := by decide +kernel
abbrev cX0_init : ByteArray := prog_2_method_1_code
def yX0_init : MethodName := ⟨RX0, "<init>", "()V"⟩
abbrev cX0_enter : ByteArray := prog_2_method_2_code
def yX0_enter : MethodName := ⟨RX0, "enter", "(III)V"⟩
abbrev cX0_clear : ByteArray := prog_2_method_3_code
def yX0_clear : MethodName := ⟨RX0, "clear", "()V"⟩
abbrev cX0_firstWrong : ByteArray := prog_2_method_4_code
def yX0_firstWrong : MethodName := ⟨RX0, "firstWrong", "(LTrunkReserve$Net;)I"⟩
abbrev cX0_isWrong : ByteArray := prog_2_method_5_code
def yX0_isWrong : MethodName := ⟨RX0, "isWrong", "(ILTrunkReserve$Net;)Z"⟩
def RX1 : String := "TrunkReserve$Draws"
def TX1 : u_T := fun k => match k with
  | _ => ("TrunkReserve$Draws", "seedNow", "I", false)
def tyX1 : Nat → FieldType := fun k => match k with
  | _ => .int
abbrev wsX10 : List Cond := u_ws RX1 TX1 1
theorem nmX1 : ∀ a, a < 1 → ∀ b, b < 1 → a ≠ b → (TX1 a).2.1 ≠ (TX1 b).2.1 := by decide +kernel
theorem tyX1_ok : ∀ k, k < 1 → parseFieldDescriptor (TX1 k).2.2.1 = some (tyX1 k) := by decide +kernel
abbrev cX1_init : ByteArray := prog_3_method_1_code
def yX1_init : MethodName := ⟨RX1, "<init>", "()V"⟩
abbrev cX1_draw : ByteArray := prog_3_method_2_code
def yX1_draw : MethodName := ⟨RX1, "draw", "(I)I"⟩
abbrev cX1_driftOnce : ByteArray := prog_3_method_3_code
def yX1_driftOnce : MethodName := ⟨RX1, "driftOnce", "(LTrunkReserve$Net;)V"⟩
def RX2 : String := "TrunkReserve$Fraction"
def TX2 : u_T := fun k => match k with
  | 0 => ("TrunkReserve$Fraction", "above", "J", false)
  | _ => ("TrunkReserve$Fraction", "below", "J", false)
def tyX2 : Nat → FieldType := fun k => match k with
  | 0 => .long
  | _ => .long
abbrev wsX20 : List Cond := u_ws RX2 TX2 2
theorem nmX2 : ∀ a, a < 2 → ∀ b, b < 2 → a ≠ b → (TX2 a).2.1 ≠ (TX2 b).2.1 := by decide +kernel
theorem tyX2_ok : ∀ k, k < 2 → parseFieldDescriptor (TX2 k).2.2.1 = some (tyX2 k) := by decide +kernel
abbrev cX2_init : ByteArray := prog_4_method_1_code
def yX2_init : MethodName := ⟨RX2, "<init>", "()V"⟩
abbrev cX2_become : ByteArray := prog_4_method_2_code
def yX2_become : MethodName := ⟨RX2, "become", "(JJ)V"⟩
abbrev cX2_commonDivisor : ByteArray := prog_4_method_3_code
def yX2_commonDivisor : MethodName := ⟨RX2, "commonDivisor", "(JJ)J"⟩
abbrev cX2_part : ByteArray := prog_4_method_4_code
def yX2_part : MethodName := ⟨RX2, "part", "(I)J"⟩
abbrev cX2_spreadFromMean : ByteArray := prog_4_method_5_code
def yX2_spreadFromMean : MethodName := ⟨RX2, "spreadFromMean", "(II)V"⟩
def RX3 : String := "TrunkReserve$Group"
def TX3 : u_T := fun k => match k with
  | 0 => ("TrunkReserve$Group", "lines", "I", false)
  | 1 => ("TrunkReserve$Group", "load", "I", false)
  | 2 => ("TrunkReserve$Group", "reserve", "I", false)
  | 3 => ("TrunkReserve$Group", "goesOver", "I", false)
  | 4 => ("TrunkReserve$Group", "choice", "I", false)
  | 5 => ("TrunkReserve$Group", "offered", "I", false)
  | 6 => ("TrunkReserve$Group", "taken", "I", false)
  | 7 => ("TrunkReserve$Group", "wentOver", "I", false)
  | 8 => ("TrunkReserve$Group", "lost", "I", false)
  | 9 => ("TrunkReserve$Group", "ringStart", "I", false)
  | 10 => ("TrunkReserve$Group", "state", "[I", true)
  | 11 => ("TrunkReserve$Group", "holder", "[I", true)
  | 12 => ("TrunkReserve$Group", "cameFor", "[I", true)
  | _ => ("TrunkReserve$Group", "freeSince", "[I", true)
def tyX3 : Nat → FieldType := fun k => match k with
  | 0 => .int
  | 1 => .int
  | 2 => .int
  | 3 => .int
  | 4 => .int
  | 5 => .int
  | 6 => .int
  | 7 => .int
  | 8 => .int
  | 9 => .int
  | 10 => .array .int
  | 11 => .array .int
  | 12 => .array .int
  | _ => .array .int
abbrev wsX30 : List Cond := u_ws RX3 TX3 14
theorem nmX3 : ∀ a, a < 14 → ∀ b, b < 14 → a ≠ b → (TX3 a).2.1 ≠ (TX3 b).2.1 := by decide +kernel
theorem tyX3_ok : ∀ k, k < 14 → parseFieldDescriptor (TX3 k).2.2.1 = some (tyX3 k) := by decide +kernel
abbrev cX3_init : ByteArray := prog_5_method_1_code
def yX3_init : MethodName := ⟨RX3, "<init>", "()V"⟩
abbrev cX3_begin : ByteArray := prog_5_method_2_code
def yX3_begin : MethodName := ⟨RX3, "begin", "()V"⟩
abbrev cX3_freeAllLines : ByteArray := prog_5_method_3_code
def yX3_freeAllLines : MethodName := ⟨RX3, "freeAllLines", "()V"⟩
abbrev cX3_copyFrom : ByteArray := prog_5_method_4_code
def yX3_copyFrom : MethodName := ⟨RX3, "copyFrom", "(LTrunkReserve$Group;)V"⟩
abbrev cX3_hasLine : ByteArray := prog_5_method_5_code
def yX3_hasLine : MethodName := ⟨RX3, "hasLine", "(I)Z"⟩
abbrev cX3_setOf : ByteArray := prog_5_method_6_code
def yX3_setOf : MethodName := ⟨RX3, "setOf", "(I)I"⟩
abbrev cX3_count : ByteArray := prog_5_method_7_code
def yX3_count : MethodName := ⟨RX3, "count", "(I)I"⟩
abbrev cX3_chosenLine : ByteArray := prog_5_method_8_code
def yX3_chosenLine : MethodName := ⟨RX3, "chosenLine", "()I"⟩
abbrev cX3_firstFreeFrom : ByteArray := prog_5_method_9_code
def yX3_firstFreeFrom : MethodName := ⟨RX3, "firstFreeFrom", "(I)I"⟩
abbrev cX3_lastFree : ByteArray := prog_5_method_10_code
def yX3_lastFree : MethodName := ⟨RX3, "lastFree", "()I"⟩
abbrev cX3_longestFree : ByteArray := prog_5_method_11_code
def yX3_longestFree : MethodName := ⟨RX3, "longestFree", "()I"⟩
abbrev cX3_hold : ByteArray := prog_5_method_12_code
def yX3_hold : MethodName := ⟨RX3, "hold", "(III)V"⟩
abbrev cX3_letGo : ByteArray := prog_5_method_13_code
def yX3_letGo : MethodName := ⟨RX3, "letGo", "(III)V"⟩
def RX4 : String := "TrunkReserve$History"
def TX4 : u_T := fun k => match k with
  | 0 => ("TrunkReserve$History", "rows", "[LTrunkReserve$Net;", true)
  | 1 => ("TrunkReserve$History", "next", "I", false)
  | _ => ("TrunkReserve$History", "size", "I", false)
def tyX4 : Nat → FieldType := fun k => match k with
  | 0 => .array (.object "TrunkReserve$Net")
  | 1 => .int
  | _ => .int
abbrev wsX40 : List Cond := u_ws RX4 TX4 3
theorem nmX4 : ∀ a, a < 3 → ∀ b, b < 3 → a ≠ b → (TX4 a).2.1 ≠ (TX4 b).2.1 := by decide +kernel
theorem tyX4_ok : ∀ k, k < 3 → parseFieldDescriptor (TX4 k).2.2.1 = some (tyX4 k) := by decide +kernel
abbrev cX4_init : ByteArray := prog_6_method_1_code
def yX4_init : MethodName := ⟨RX4, "<init>", "()V"⟩
abbrev cX4_remember : ByteArray := prog_6_method_2_code
def yX4_remember : MethodName := ⟨RX4, "remember", "(LTrunkReserve$Net;)V"⟩
abbrev cX4_forget : ByteArray := prog_6_method_3_code
def yX4_forget : MethodName := ⟨RX4, "forget", "()V"⟩
abbrev cX4_takeBack : ByteArray := prog_6_method_4_code
def yX4_takeBack : MethodName := ⟨RX4, "takeBack", "(ILTrunkReserve$Net;)V"⟩
def RX5 : String := "TrunkReserve$Image"
def TX5 : u_T := fun k => match k with
  | 0 => ("TrunkReserve$Image", "net", "LTrunkReserve$Net;", true)
  | 1 => ("TrunkReserve$Image", "seedThen", "I", false)
  | _ => ("TrunkReserve$Image", "kept", "Z", false)
def tyX5 : Nat → FieldType := fun k => match k with
  | 0 => .object "TrunkReserve$Net"
  | 1 => .int
  | _ => .boolean
abbrev wsX50 : List Cond := u_ws RX5 TX5 3
theorem nmX5 : ∀ a, a < 3 → ∀ b, b < 3 → a ≠ b → (TX5 a).2.1 ≠ (TX5 b).2.1 := by decide +kernel
theorem tyX5_ok : ∀ k, k < 3 → parseFieldDescriptor (TX5 k).2.2.1 = some (tyX5 k) := by decide +kernel
abbrev cX5_init : ByteArray := prog_7_method_1_code
def yX5_init : MethodName := ⟨RX5, "<init>", "()V"⟩
abbrev cX5_take : ByteArray := prog_7_method_2_code
def yX5_take : MethodName := ⟨RX5, "take", "(LTrunkReserve$Net;LTrunkReserve$Draws;)V"⟩
abbrev cX5_give : ByteArray := prog_7_method_3_code
def yX5_give : MethodName := ⟨RX5, "give", "(LTrunkReserve$Net;LTrunkReserve$Draws;)V"⟩
def RX6 : String := "TrunkReserve$Net"
def TX6 : u_T := fun k => match k with
  | 0 => ("TrunkReserve$Net", "size", "I", false)
  | 1 => ("TrunkReserve$Net", "time", "I", false)
  | 2 => ("TrunkReserve$Net", "calls", "I", false)
  | _ => ("TrunkReserve$Net", "groups", "[LTrunkReserve$Group;", true)
def tyX6 : Nat → FieldType := fun k => match k with
  | 0 => .int
  | 1 => .int
  | 2 => .int
  | _ => .array (.object "TrunkReserve$Group")
abbrev wsX60 : List Cond := u_ws RX6 TX6 4
theorem nmX6 : ∀ a, a < 4 → ∀ b, b < 4 → a ≠ b → (TX6 a).2.1 ≠ (TX6 b).2.1 := by decide +kernel
theorem tyX6_ok : ∀ k, k < 4 → parseFieldDescriptor (TX6 k).2.2.1 = some (tyX6 k) := by decide +kernel
abbrev cX6_init : ByteArray := prog_8_method_1_code
def yX6_init : MethodName := ⟨RX6, "<init>", "()V"⟩
abbrev cX6_begin : ByteArray := prog_8_method_2_code
def yX6_begin : MethodName := ⟨RX6, "begin", "(I)V"⟩
abbrev cX6_copyFrom : ByteArray := prog_8_method_3_code
def yX6_copyFrom : MethodName := ⟨RX6, "copyFrom", "(LTrunkReserve$Net;)V"⟩
abbrev cX6_groupAt : ByteArray := prog_8_method_4_code
def yX6_groupAt : MethodName := ⟨RX6, "groupAt", "(I)LTrunkReserve$Group;"⟩
abbrev cX6_groupWithLine : ByteArray := prog_8_method_5_code
def yX6_groupWithLine : MethodName := ⟨RX6, "groupWithLine", "(II)LTrunkReserve$Group;"⟩
abbrev cX6_heldLines : ByteArray := prog_8_method_6_code
def yX6_heldLines : MethodName := ⟨RX6, "heldLines", "()I"⟩
abbrev cX6_lostCalls : ByteArray := prog_8_method_7_code
def yX6_lostCalls : MethodName := ⟨RX6, "lostCalls", "()I"⟩
abbrev cX6_nextPlace : ByteArray := prog_8_method_8_code
def yX6_nextPlace : MethodName := ⟨RX6, "nextPlace", "(I)I"⟩
abbrev cX6_placeCall : ByteArray := prog_8_method_9_code
def yX6_placeCall : MethodName := ⟨RX6, "placeCall", "(I)I"⟩
abbrev cX6_endCall : ByteArray := prog_8_method_10_code
def yX6_endCall : MethodName := ⟨RX6, "endCall", "(LTrunkReserve$Group;I)I"⟩
abbrev cX6_breakLine : ByteArray := prog_8_method_11_code
def yX6_breakLine : MethodName := ⟨RX6, "breakLine", "(LTrunkReserve$Group;I)I"⟩
abbrev cX6_mendLine : ByteArray := prog_8_method_12_code
def yX6_mendLine : MethodName := ⟨RX6, "mendLine", "(LTrunkReserve$Group;I)V"⟩
def RX7 : String := "TrunkReserve$Together"
def TX7 : u_T := fun k => match k with
  | 0 => ("TrunkReserve$Together", "loads", "[I", true)
  | 1 => ("TrunkReserve$Together", "newLoads", "[I", true)
  | 2 => ("TrunkReserve$Together", "losses", "[I", true)
  | _ => ("TrunkReserve$Together", "rounds", "I", false)
def tyX7 : Nat → FieldType := fun k => match k with
  | 0 => .array .int
  | 1 => .array .int
  | 2 => .array .int
  | _ => .int
abbrev wsX70 : List Cond := u_ws RX7 TX7 4
theorem nmX7 : ∀ a, a < 4 → ∀ b, b < 4 → a ≠ b → (TX7 a).2.1 ≠ (TX7 b).2.1 := by decide +kernel
theorem tyX7_ok : ∀ k, k < 4 → parseFieldDescriptor (TX7 k).2.2.1 = some (tyX7 k) := by decide +kernel
abbrev cX7_init : ByteArray := prog_9_method_1_code
def yX7_init : MethodName := ⟨RX7, "<init>", "()V"⟩
abbrev cX7_loadOver : ByteArray := prog_9_method_2_code
def yX7_loadOver : MethodName := ⟨RX7, "loadOver", "(I)I"⟩
abbrev cX7_lossOf : ByteArray := prog_9_method_3_code
def yX7_lossOf : MethodName := ⟨RX7, "lossOf", "(I)I"⟩
abbrev cX7_settle : ByteArray := prog_9_method_4_code
def yX7_settle : MethodName := ⟨RX7, "settle", "(LTrunkReserve$Net;LTrunkReserve$Weights;)V"⟩
abbrev cX7_loseEach : ByteArray := prog_9_method_5_code
def yX7_loseEach : MethodName := ⟨RX7, "loseEach", "(LTrunkReserve$Net;LTrunkReserve$Weights;)V"⟩
abbrev cX7_sendOver : ByteArray := prog_9_method_6_code
def yX7_sendOver : MethodName := ⟨RX7, "sendOver", "(LTrunkReserve$Net;)V"⟩
abbrev cX7_takeNewLoads : ByteArray := prog_9_method_7_code
def yX7_takeNewLoads : MethodName := ⟨RX7, "takeNewLoads", "()Z"⟩
def RX8 : String := "TrunkReserve$Weights"
def TX8 : u_T := fun k => match k with
  | 0 => ("TrunkReserve$Weights", "weight", "[J", true)
  | 1 => ("TrunkReserve$Weights", "lines", "I", false)
  | _ => ("TrunkReserve$Weights", "reserve", "I", false)
def tyX8 : Nat → FieldType := fun k => match k with
  | 0 => .array .long
  | 1 => .int
  | _ => .int
abbrev wsX80 : List Cond := u_ws RX8 TX8 3
theorem nmX8 : ∀ a, a < 3 → ∀ b, b < 3 → a ≠ b → (TX8 a).2.1 ≠ (TX8 b).2.1 := by decide +kernel
theorem tyX8_ok : ∀ k, k < 3 → parseFieldDescriptor (TX8 k).2.2.1 = some (tyX8 k) := by decide +kernel
abbrev cX8_init : ByteArray := prog_10_method_1_code
def yX8_init : MethodName := ⟨RX8, "<init>", "()V"⟩
abbrev cX8_weighExactly : ByteArray := prog_10_method_2_code
def yX8_weighExactly : MethodName := ⟨RX8, "weighExactly", "(IIII)V"⟩
abbrev cX8_weigh : ByteArray := prog_10_method_3_code
def yX8_weigh : MethodName := ⟨RX8, "weigh", "(JIIIII)V"⟩
abbrev cX8_takesOver : ByteArray := prog_10_method_4_code
def yX8_takesOver : MethodName := ⟨RX8, "takesOver", "(I)Z"⟩
abbrev cX8_all : ByteArray := prog_10_method_5_code
def yX8_all : MethodName := ⟨RX8, "all", "()J"⟩
abbrev cX8_ofAllHeld : ByteArray := prog_10_method_6_code
def yX8_ofAllHeld : MethodName := ⟨RX8, "ofAllHeld", "()J"⟩
abbrev cX8_ofRefusing : ByteArray := prog_10_method_7_code
def yX8_ofRefusing : MethodName := ⟨RX8, "ofRefusing", "()J"⟩
abbrev cX8_timesHeld : ByteArray := prog_10_method_8_code
def yX8_timesHeld : MethodName := ⟨RX8, "timesHeld", "()J"⟩
abbrev cX8_losesAtMost : ByteArray := prog_10_method_9_code
def yX8_losesAtMost : MethodName := ⟨RX8, "losesAtMost", "(I)Z"⟩
def RX9 : String := "TrunkReserve"
def TX9 : u_T := fun k => match k with
  | 0 => ("TrunkReserve", "net", "LTrunkReserve$Net;", true)
  | 1 => ("TrunkReserve", "history", "LTrunkReserve$History;", true)
  | 2 => ("TrunkReserve", "images", "[LTrunkReserve$Image;", true)
  | 3 => ("TrunkReserve", "book", "LTrunkReserve$Book;", true)
  | 4 => ("TrunkReserve", "draws", "LTrunkReserve$Draws;", true)
  | 5 => ("TrunkReserve", "weights", "LTrunkReserve$Weights;", true)
  | 6 => ("TrunkReserve", "fraction", "LTrunkReserve$Fraction;", true)
  | _ => ("TrunkReserve", "together", "LTrunkReserve$Together;", true)
def tyX9 : Nat → FieldType := fun k => match k with
  | 0 => .object "TrunkReserve$Net"
  | 1 => .object "TrunkReserve$History"
  | 2 => .array (.object "TrunkReserve$Image")
  | 3 => .object "TrunkReserve$Book"
  | 4 => .object "TrunkReserve$Draws"
  | 5 => .object "TrunkReserve$Weights"
  | 6 => .object "TrunkReserve$Fraction"
  | _ => .object "TrunkReserve$Together"
abbrev wsX90 : List Cond := u_ws RX9 TX9 8
theorem nmX9 : ∀ a, a < 8 → ∀ b, b < 8 → a ≠ b → (TX9 a).2.1 ≠ (TX9 b).2.1 := by decide +kernel
theorem tyX9_ok : ∀ k, k < 8 → parseFieldDescriptor (TX9 k).2.2.1 = some (tyX9 k) := by decide +kernel
abbrev cX9_init : ByteArray := prog_1_method_1_code
def yX9_init : MethodName := ⟨RX9, "<init>", "()V"⟩
abbrev cX9_told : ByteArray := prog_1_method_2_code
def yX9_told : MethodName := ⟨RX9, "told", "(I)I"⟩
abbrev cX9_group : ByteArray := prog_1_method_3_code
def yX9_group : MethodName := ⟨RX9, "group", "(II)I"⟩
abbrev cX9_line : ByteArray := prog_1_method_4_code
def yX9_line : MethodName := ⟨RX9, "line", "(III)I"⟩
abbrev cX9_build : ByteArray := prog_1_method_5_code
def yX9_build : MethodName := ⟨RX9, "build", "(I)I"⟩
abbrev cX9_shape : ByteArray := prog_1_method_6_code
def yX9_shape : MethodName := ⟨RX9, "shape", "(IIIIII)I"⟩
abbrev cX9_call : ByteArray := prog_1_method_7_code
def yX9_call : MethodName := ⟨RX9, "call", "(I)I"⟩
abbrev cX9_end : ByteArray := prog_1_method_8_code
def yX9_end : MethodName := ⟨RX9, "end", "(II)I"⟩
abbrev cX9_damage : ByteArray := prog_1_method_9_code
def yX9_damage : MethodName := ⟨RX9, "damage", "(II)I"⟩
abbrev cX9_mend : ByteArray := prog_1_method_10_code
def yX9_mend : MethodName := ⟨RX9, "mend", "(II)I"⟩
abbrev cX9_drift : ByteArray := prog_1_method_11_code
def yX9_drift : MethodName := ⟨RX9, "drift", "(I)I"⟩
abbrev cX9_undo : ByteArray := prog_1_method_12_code
def yX9_undo : MethodName := ⟨RX9, "undo", "(I)I"⟩
abbrev cX9_run : ByteArray := prog_1_method_13_code
def yX9_run : MethodName := ⟨RX9, "run", "(III)J"⟩
abbrev cX9_over : ByteArray := prog_1_method_14_code
def yX9_over : MethodName := ⟨RX9, "over", "(II)J"⟩
abbrev cX9_linesFor : ByteArray := prog_1_method_15_code
def yX9_linesFor : MethodName := ⟨RX9, "linesFor", "(III)I"⟩
abbrev cX9_bestReserve : ByteArray := prog_1_method_16_code
def yX9_bestReserve : MethodName := ⟨RX9, "bestReserve", "(III)I"⟩
abbrev cX9_write : ByteArray := prog_1_method_17_code
def yX9_write : MethodName := ⟨RX9, "write", "(III)I"⟩
abbrev cX9_tear : ByteArray := prog_1_method_18_code
def yX9_tear : MethodName := ⟨RX9, "tear", "()I"⟩
abbrev cX9_seed : ByteArray := prog_1_method_19_code
def yX9_seed : MethodName := ⟨RX9, "seed", "(I)I"⟩
abbrev cX9_keep : ByteArray := prog_1_method_20_code
def yX9_keep : MethodName := ⟨RX9, "keep", "(I)I"⟩
abbrev cX9_goBack : ByteArray := prog_1_method_21_code
def yX9_goBack : MethodName := ⟨RX9, "goBack", "(I)I"⟩
abbrev cX9_isWithin : ByteArray := prog_1_method_22_code
def yX9_isWithin : MethodName := ⟨RX9, "isWithin", "(III)Z"⟩
def RX10 : String := "TrunkReserveModel"
def TX10 : u_T := fun k => match k with
  | 0 => ("TrunkReserveModel", "now", "[I", true)
  | 1 => ("TrunkReserveModel", "past", "[I", true)
  | 2 => ("TrunkReserveModel", "deeds", "I", false)
  | 3 => ("TrunkReserveModel", "images", "[I", true)
  | 4 => ("TrunkReserveModel", "seeds", "[J", true)
  | 5 => ("TrunkReserveModel", "kept", "[Z", true)
  | 6 => ("TrunkReserveModel", "seed", "J", false)
  | 7 => ("TrunkReserveModel", "book", "[I", true)
  | 8 => ("TrunkReserveModel", "entries", "I", false)
  | 9 => ("TrunkReserveModel", "weights", "[J", true)
  | 10 => ("TrunkReserveModel", "whole", "J", false)
  | 11 => ("TrunkReserveModel", "coming", "[I", true)
  | 12 => ("TrunkReserveModel", "losing", "[I", true)
  | 13 => ("TrunkReserveModel", "next", "[I", true)
  | _ => ("TrunkReserveModel", "rounds", "I", false)
def tyX10 : Nat → FieldType := fun k => match k with
  | 0 => .array .int
  | 1 => .array .int
  | 2 => .int
  | 3 => .array .int
  | 4 => .array .long
  | 5 => .array .boolean
  | 6 => .long
  | 7 => .array .int
  | 8 => .int
  | 9 => .array .long
  | 10 => .long
  | 11 => .array .int
  | 12 => .array .int
  | 13 => .array .int
  | _ => .int
abbrev wsX100 : List Cond := u_ws RX10 TX10 15
theorem nmX10 : ∀ a, a < 15 → ∀ b, b < 15 → a ≠ b → (TX10 a).2.1 ≠ (TX10 b).2.1 := by decide +kernel
theorem tyX10_ok : ∀ k, k < 15 → parseFieldDescriptor (TX10 k).2.2.1 = some (tyX10 k) := by decide +kernel
abbrev cX10_init : ByteArray := prog_12_method_1_code
def yX10_init : MethodName := ⟨RX10, "<init>", "()V"⟩
abbrev cX10_in : ByteArray := prog_12_method_3_code
def yX10_in : MethodName := ⟨RX10, "in", "(III)Z"⟩
abbrev cX10_isGroup : ByteArray := prog_12_method_4_code
def yX10_isGroup : MethodName := ⟨RX10, "isGroup", "(I)Z"⟩
abbrev cX10_of : ByteArray := prog_12_method_5_code
def yX10_of : MethodName := ⟨RX10, "of", "(II)I"⟩
abbrev cX10_put : ByteArray := prog_12_method_6_code
def yX10_put : MethodName := ⟨RX10, "put", "(III)V"⟩
abbrev cX10_isLine : ByteArray := prog_12_method_7_code
def yX10_isLine : MethodName := ⟨RX10, "isLine", "(II)Z"⟩
abbrev cX10_ofL : ByteArray := prog_12_method_8_code
def yX10_ofL : MethodName := ⟨RX10, "ofL", "(III)I"⟩
abbrev cX10_putL : ByteArray := prog_12_method_9_code
def yX10_putL : MethodName := ⟨RX10, "putL", "(IIIIII)V"⟩
abbrev cX10_frees : ByteArray := prog_12_method_10_code
def yX10_frees : MethodName := ⟨RX10, "frees", "(I)V"⟩
abbrev cX10_builds : ByteArray := prog_12_method_11_code
def yX10_builds : MethodName := ⟨RX10, "builds", "(I)V"⟩
abbrev cX10_notes : ByteArray := prog_12_method_12_code
def yX10_notes : MethodName := ⟨RX10, "notes", "()V"⟩
abbrev cX10_setOf : ByteArray := prog_12_method_13_code
def yX10_setOf : MethodName := ⟨RX10, "setOf", "(II)I"⟩
abbrev cX10_ones : ByteArray := prog_12_method_14_code
def yX10_ones : MethodName := ⟨RX10, "ones", "(I)I"⟩
abbrev cX10_choice : ByteArray := prog_12_method_15_code
def yX10_choice : MethodName := ⟨RX10, "choice", "(I)I"⟩
abbrev cX10_goesTo : ByteArray := prog_12_method_16_code
def yX10_goesTo : MethodName := ⟨RX10, "goesTo", "(I)I"⟩
abbrev cX10_held : ByteArray := prog_12_method_17_code
def yX10_held : MethodName := ⟨RX10, "held", "()I"⟩
abbrev cX10_lost : ByteArray := prog_12_method_18_code
def yX10_lost : MethodName := ⟨RX10, "lost", "()I"⟩
abbrev cX10_wrong : ByteArray := prog_12_method_19_code
def yX10_wrong : MethodName := ⟨RX10, "wrong", "()I"⟩
abbrev cX10_loses : ByteArray := prog_12_method_20_code
def yX10_loses : MethodName := ⟨RX10, "loses", "()V"⟩
abbrev cX10_together : ByteArray := prog_12_method_21_code
def yX10_together : MethodName := ⟨RX10, "together", "()V"⟩
abbrev cX10_told : ByteArray := prog_12_method_22_code
def yX10_told : MethodName := ⟨RX10, "told", "(I)I"⟩
abbrev cX10_group : ByteArray := prog_12_method_23_code
def yX10_group : MethodName := ⟨RX10, "group", "(II)I"⟩
abbrev cX10_line : ByteArray := prog_12_method_24_code
def yX10_line : MethodName := ⟨RX10, "line", "(III)I"⟩
abbrev cX10_build : ByteArray := prog_12_method_25_code
def yX10_build : MethodName := ⟨RX10, "build", "(I)I"⟩
abbrev cX10_shape : ByteArray := prog_12_method_26_code
def yX10_shape : MethodName := ⟨RX10, "shape", "(IIIIII)I"⟩
abbrev cX10_comes : ByteArray := prog_12_method_27_code
def yX10_comes : MethodName := ⟨RX10, "comes", "(I)I"⟩
abbrev cX10_call : ByteArray := prog_12_method_28_code
def yX10_call : MethodName := ⟨RX10, "call", "(I)I"⟩
abbrev cX10_ends : ByteArray := prog_12_method_29_code
def yX10_ends : MethodName := ⟨RX10, "ends", "(II)I"⟩
abbrev cX10_end : ByteArray := prog_12_method_30_code
def yX10_end : MethodName := ⟨RX10, "end", "(II)I"⟩
abbrev cX10_damage : ByteArray := prog_12_method_31_code
def yX10_damage : MethodName := ⟨RX10, "damage", "(II)I"⟩
abbrev cX10_mend : ByteArray := prog_12_method_32_code
def yX10_mend : MethodName := ⟨RX10, "mend", "(II)I"⟩
abbrev cX10_drawOf : ByteArray := prog_12_method_33_code
def yX10_drawOf : MethodName := ⟨RX10, "drawOf", "(I)I"⟩
abbrev cX10_drift : ByteArray := prog_12_method_34_code
def yX10_drift : MethodName := ⟨RX10, "drift", "(I)I"⟩
abbrev cX10_undo : ByteArray := prog_12_method_35_code
def yX10_undo : MethodName := ⟨RX10, "undo", "(I)I"⟩
abbrev cX10_weighs : ByteArray := prog_12_method_36_code
def yX10_weighs : MethodName := ⟨RX10, "weighs", "(IIII)V"⟩
abbrev cX10_gcd : ByteArray := prog_12_method_37_code
def yX10_gcd : MethodName := ⟨RX10, "gcd", "(JJ)J"⟩
abbrev cX10_part : ByteArray := prog_12_method_38_code
def yX10_part : MethodName := ⟨RX10, "part", "(JJI)J"⟩
abbrev cX10_run : ByteArray := prog_12_method_39_code
def yX10_run : MethodName := ⟨RX10, "run", "(III)J"⟩
abbrev cX10_over : ByteArray := prog_12_method_40_code
def yX10_over : MethodName := ⟨RX10, "over", "(II)J"⟩
abbrev cX10_linesFor : ByteArray := prog_12_method_41_code
def yX10_linesFor : MethodName := ⟨RX10, "linesFor", "(III)I"⟩
abbrev cX10_bestReserve : ByteArray := prog_12_method_42_code
def yX10_bestReserve : MethodName := ⟨RX10, "bestReserve", "(III)I"⟩
abbrev cX10_write : ByteArray := prog_12_method_43_code
def yX10_write : MethodName := ⟨RX10, "write", "(III)I"⟩
abbrev cX10_tear : ByteArray := prog_12_method_44_code
def yX10_tear : MethodName := ⟨RX10, "tear", "()I"⟩
abbrev cX10_seed : ByteArray := prog_12_method_45_code
def yX10_seed : MethodName := ⟨RX10, "seed", "(I)I"⟩
abbrev cX10_keep : ByteArray := prog_12_method_46_code
def yX10_keep : MethodName := ⟨RX10, "keep", "(I)I"⟩
abbrev cX10_goBack : ByteArray := prog_12_method_47_code
def yX10_goBack : MethodName := ⟨RX10, "goBack", "(I)I"⟩
def RJ6 : String := "java/lang/Integer"
def TJ6 : u_T := fun k => match k with
  | _ => ("", "", "", false)
def tyJ6 : Nat → FieldType := fun k => match k with
  | _ => .int
abbrev wsJ60 : List Cond := u_ws RJ6 TJ6 0
theorem nmJ6 : ∀ a, a < 0 → ∀ b, b < 0 → a ≠ b → (TJ6 a).2.1 ≠ (TJ6 b).2.1 := by decide +kernel
theorem tyJ6_ok : ∀ k, k < 0 → parseFieldDescriptor (TJ6 k).2.2.1 = some (tyJ6 k) := by decide +kernel
abbrev cJ6_bitCount_0f7a4 : ByteArray := prog_13_method_49_code
def yJ6_bitCount_0f7a4 : MethodName := ⟨RJ6, "bitCount", "(I)I"⟩
def RJ9 : String := "java/lang/Math"
def TJ9 : u_T := fun k => match k with
  | _ => ("", "", "", false)
def tyJ9 : Nat → FieldType := fun k => match k with
  | _ => .int
abbrev wsJ90 : List Cond := u_ws RJ9 TJ9 0
theorem nmJ9 : ∀ a, a < 0 → ∀ b, b < 0 → a ≠ b → (TJ9 a).2.1 ≠ (TJ9 b).2.1 := by decide +kernel
theorem tyJ9_ok : ∀ k, k < 0 → parseFieldDescriptor (TJ9 k).2.2.1 = some (tyJ9 k) := by decide +kernel
abbrev cJ9_floorMod_7cf53 : ByteArray := prog_14_method_50_code
def yJ9_floorMod_7cf53 : MethodName := ⟨RJ9, "floorMod", "(II)I"⟩
abbrev cJ9_abs_067f4 : ByteArray := prog_14_method_61_code
def yJ9_abs_067f4 : MethodName := ⟨RJ9, "abs", "(J)J"⟩
abbrev cJ9_max_7cf53 : ByteArray := prog_14_method_65_code
def yJ9_max_7cf53 : MethodName := ⟨RJ9, "max", "(II)I"⟩
abbrev cJ9_max_f86c9 : ByteArray := prog_14_method_66_code
def yJ9_max_f86c9 : MethodName := ⟨RJ9, "max", "(JJ)J"⟩
abbrev cJ9_min_7cf53 : ByteArray := prog_14_method_69_code
def yJ9_min_7cf53 : MethodName := ⟨RJ9, "min", "(II)I"⟩
def RJ10 : String := "java/lang/System"
def TJ10 : u_T := fun k => match k with
  | _ => ("", "", "", false)
def tyJ10 : Nat → FieldType := fun k => match k with
  | _ => .int
abbrev wsJ100 : List Cond := u_ws RJ10 TJ10 0
theorem nmJ10 : ∀ a, a < 0 → ∀ b, b < 0 → a ≠ b → (TJ10 a).2.1 ≠ (TJ10 b).2.1 := by decide +kernel
theorem tyJ10_ok : ∀ k, k < 0 → parseFieldDescriptor (TJ10 k).2.2.1 = some (tyJ10 k) := by decide +kernel
def RJ7 : String := "java/util/Arrays"
def TJ7 : u_T := fun k => match k with
  | _ => ("", "", "", false)
def tyJ7 : Nat → FieldType := fun k => match k with
  | _ => .int
abbrev wsJ70 : List Cond := u_ws RJ7 TJ7 0
theorem nmJ7 : ∀ a, a < 0 → ∀ b, b < 0 → a ≠ b → (TJ7 a).2.1 ≠ (TJ7 b).2.1 := by decide +kernel
theorem tyJ7_ok : ∀ k, k < 0 → parseFieldDescriptor (TJ7 k).2.2.1 = some (tyJ7 k) := by decide +kernel
abbrev cJ7_fill_53178 : ByteArray := prog_16_method_103_code
def yJ7_fill_53178 : MethodName := ⟨RJ7, "fill", "([II)V"⟩
def RL : String := "TrunkReserveLaw"
abbrev cL_law : ByteArray := code
def yL_law : MethodName := ⟨RL, "law", "([I)Z"⟩
/-- the words that hold at every state of the run -/
def tG : List Cond := lw_tbl.filter goodWord
theorem tG_good {w : Cond} (h : w ∈ tG) : goodWord w = true := (List.mem_filter.mp h).2
theorem tG_in {w : Cond} (h : w ∈ tG) : w ∈ lw_tbl := (List.mem_filter.mp h).1
theorem tmx {w : Cond} (h : w ∈ lw_tbl) (g : goodWord w = true) : w ∈ tG := List.mem_filter.mpr ⟨h, g⟩
theorem tm0 {w : Cond} (h : w ∈ k2_sels (lw_privs_1 ++ lw_privs_2)) (g : goodWord w = true) : w ∈ tG := tmx (List.mem_append_left _ h) g
theorem tm1 {w : Cond} (h : w ∈ tables_1_1) (g : goodWord w = true) : w ∈ tG := tmx (List.mem_append_right _ (List.mem_append_left _ h)) g
theorem tm2 {w : Cond} (h : w ∈ tables_1_2) (g : goodWord w = true) : w ∈ tG := tmx (List.mem_append_right _ (List.mem_append_right _ (List.mem_append_left _ h))) g
theorem tm3 {w : Cond} (h : w ∈ tables_1_3) (g : goodWord w = true) : w ∈ tG := tmx (List.mem_append_right _ (List.mem_append_right _ (List.mem_append_right _ (List.mem_append_left _ h)))) g
theorem tm4 {w : Cond} (h : w ∈ tables_1_4) (g : goodWord w = true) : w ∈ tG := tmx (List.mem_append_right _ (List.mem_append_right _ (List.mem_append_right _ (List.mem_append_right _ h)))) g
abbrev clE : List vw_C := [(RX0, TX0, 4), (RX1, TX1, 1), (RX2, TX2, 2), (RX3, TX3, 14), (RX4, TX4, 3), (RX5, TX5, 3), (RX6, TX6, 4), (RX7, TX7, 4), (RX8, TX8, 3), (RX9, TX9, 8), (RX10, TX10, 15)]
theorem inE0 : ∀ w ∈ u_ws RX0 TX0 4, w ∈ tG := List.forall_mem_cons.mpr ⟨tm1 (List.mem_of_getElem? (i := 193) rfl) rfl, List.forall_mem_cons.mpr ⟨tm1 (List.mem_of_getElem? (i := 195) rfl) rfl, List.forall_mem_cons.mpr ⟨tm1 (List.mem_of_getElem? (i := 197) rfl) rfl, List.forall_mem_cons.mpr ⟨tm1 (List.mem_of_getElem? (i := 199) rfl) rfl, fun _ h => absurd h List.not_mem_nil⟩⟩⟩⟩
theorem inE1 : ∀ w ∈ u_ws RX1 TX1 1, w ∈ tG := List.forall_mem_cons.mpr ⟨tm1 (List.mem_of_getElem? (i := 211) rfl) rfl, fun _ h => absurd h List.not_mem_nil⟩
theorem inE2 : ∀ w ∈ u_ws RX2 TX2 2, w ∈ tG := List.forall_mem_cons.mpr ⟨tm1 (List.mem_of_getElem? (i := 239) rfl) rfl, List.forall_mem_cons.mpr ⟨tm2 (List.mem_of_getElem? (i := 1) rfl) rfl, fun _ h => absurd h List.not_mem_nil⟩⟩
theorem inE3 : ∀ w ∈ u_ws RX3 TX3 14, w ∈ tG := List.forall_mem_cons.mpr ⟨tm1 (List.mem_of_getElem? (i := 78) rfl) rfl, List.forall_mem_cons.mpr ⟨tm1 (List.mem_of_getElem? (i := 80) rfl) rfl, List.forall_mem_cons.mpr ⟨tm1 (List.mem_of_getElem? (i := 82) rfl) rfl, List.forall_mem_cons.mpr ⟨tm1 (List.mem_of_getElem? (i := 84) rfl) rfl, List.forall_mem_cons.mpr ⟨tm1 (List.mem_of_getElem? (i := 86) rfl) rfl, List.forall_mem_cons.mpr ⟨tm1 (List.mem_of_getElem? (i := 88) rfl) rfl, List.forall_mem_cons.mpr ⟨tm1 (List.mem_of_getElem? (i := 90) rfl) rfl, List.forall_mem_cons.mpr ⟨tm1 (List.mem_of_getElem? (i := 92) rfl) rfl, List.forall_mem_cons.mpr ⟨tm1 (List.mem_of_getElem? (i := 94) rfl) rfl, List.forall_mem_cons.mpr ⟨tm1 (List.mem_of_getElem? (i := 96) rfl) rfl, List.forall_mem_cons.mpr ⟨tm1 (List.mem_of_getElem? (i := 98) rfl) rfl, List.forall_mem_cons.mpr ⟨tm1 (List.mem_of_getElem? (i := 100) rfl) rfl, List.forall_mem_cons.mpr ⟨tm1 (List.mem_of_getElem? (i := 102) rfl) rfl, List.forall_mem_cons.mpr ⟨tm1 (List.mem_of_getElem? (i := 104) rfl) rfl, fun _ h => absurd h List.not_mem_nil⟩⟩⟩⟩⟩⟩⟩⟩⟩⟩⟩⟩⟩⟩
theorem inE4 : ∀ w ∈ u_ws RX4 TX4 3, w ∈ tG := List.forall_mem_cons.mpr ⟨tm1 (List.mem_of_getElem? (i := 155) rfl) rfl, List.forall_mem_cons.mpr ⟨tm1 (List.mem_of_getElem? (i := 157) rfl) rfl, List.forall_mem_cons.mpr ⟨tm1 (List.mem_of_getElem? (i := 159) rfl) rfl, fun _ h => absurd h List.not_mem_nil⟩⟩⟩
theorem inE5 : ∀ w ∈ u_ws RX5 TX5 3, w ∈ tG := List.forall_mem_cons.mpr ⟨tm1 (List.mem_of_getElem? (i := 175) rfl) rfl, List.forall_mem_cons.mpr ⟨tm1 (List.mem_of_getElem? (i := 177) rfl) rfl, List.forall_mem_cons.mpr ⟨tm1 (List.mem_of_getElem? (i := 179) rfl) rfl, fun _ h => absurd h List.not_mem_nil⟩⟩⟩
theorem inE6 : ∀ w ∈ u_ws RX6 TX6 4, w ∈ tG := List.forall_mem_cons.mpr ⟨tm1 (List.mem_of_getElem? (i := 133) rfl) rfl, List.forall_mem_cons.mpr ⟨tm1 (List.mem_of_getElem? (i := 135) rfl) rfl, List.forall_mem_cons.mpr ⟨tm1 (List.mem_of_getElem? (i := 137) rfl) rfl, List.forall_mem_cons.mpr ⟨tm1 (List.mem_of_getElem? (i := 139) rfl) rfl, fun _ h => absurd h List.not_mem_nil⟩⟩⟩⟩
theorem inE7 : ∀ w ∈ u_ws RX7 TX7 4, w ∈ tG := List.forall_mem_cons.mpr ⟨tm2 (List.mem_of_getElem? (i := 15) rfl) rfl, List.forall_mem_cons.mpr ⟨tm2 (List.mem_of_getElem? (i := 17) rfl) rfl, List.forall_mem_cons.mpr ⟨tm2 (List.mem_of_getElem? (i := 19) rfl) rfl, List.forall_mem_cons.mpr ⟨tm2 (List.mem_of_getElem? (i := 21) rfl) rfl, fun _ h => absurd h List.not_mem_nil⟩⟩⟩⟩
theorem inE8 : ∀ w ∈ u_ws RX8 TX8 3, w ∈ tG := List.forall_mem_cons.mpr ⟨tm1 (List.mem_of_getElem? (i := 223) rfl) rfl, List.forall_mem_cons.mpr ⟨tm1 (List.mem_of_getElem? (i := 225) rfl) rfl, List.forall_mem_cons.mpr ⟨tm1 (List.mem_of_getElem? (i := 227) rfl) rfl, fun _ h => absurd h List.not_mem_nil⟩⟩⟩
theorem inE9 : ∀ w ∈ u_ws RX9 TX9 8, w ∈ tG := List.forall_mem_cons.mpr ⟨tm2 (List.mem_of_getElem? (i := 32) rfl) rfl, List.forall_mem_cons.mpr ⟨tm2 (List.mem_of_getElem? (i := 34) rfl) rfl, List.forall_mem_cons.mpr ⟨tm2 (List.mem_of_getElem? (i := 36) rfl) rfl, List.forall_mem_cons.mpr ⟨tm2 (List.mem_of_getElem? (i := 38) rfl) rfl, List.forall_mem_cons.mpr ⟨tm2 (List.mem_of_getElem? (i := 40) rfl) rfl, List.forall_mem_cons.mpr ⟨tm2 (List.mem_of_getElem? (i := 42) rfl) rfl, List.forall_mem_cons.mpr ⟨tm2 (List.mem_of_getElem? (i := 44) rfl) rfl, List.forall_mem_cons.mpr ⟨tm2 (List.mem_of_getElem? (i := 46) rfl) rfl, fun _ h => absurd h List.not_mem_nil⟩⟩⟩⟩⟩⟩⟩⟩
theorem inE10 : ∀ w ∈ u_ws RX10 TX10 15, w ∈ tG := List.forall_mem_cons.mpr ⟨tm3 (List.mem_of_getElem? (i := 182) rfl) rfl, List.forall_mem_cons.mpr ⟨tm3 (List.mem_of_getElem? (i := 184) rfl) rfl, List.forall_mem_cons.mpr ⟨tm3 (List.mem_of_getElem? (i := 186) rfl) rfl, List.forall_mem_cons.mpr ⟨tm3 (List.mem_of_getElem? (i := 188) rfl) rfl, List.forall_mem_cons.mpr ⟨tm3 (List.mem_of_getElem? (i := 190) rfl) rfl, List.forall_mem_cons.mpr ⟨tm3 (List.mem_of_getElem? (i := 192) rfl) rfl, List.forall_mem_cons.mpr ⟨tm3 (List.mem_of_getElem? (i := 194) rfl) rfl, List.forall_mem_cons.mpr ⟨tm3 (List.mem_of_getElem? (i := 196) rfl) rfl, List.forall_mem_cons.mpr ⟨tm3 (List.mem_of_getElem? (i := 198) rfl) rfl, List.forall_mem_cons.mpr ⟨tm3 (List.mem_of_getElem? (i := 200) rfl) rfl, List.forall_mem_cons.mpr ⟨tm3 (List.mem_of_getElem? (i := 202) rfl) rfl, List.forall_mem_cons.mpr ⟨tm3 (List.mem_of_getElem? (i := 204) rfl) rfl, List.forall_mem_cons.mpr ⟨tm3 (List.mem_of_getElem? (i := 206) rfl) rfl, List.forall_mem_cons.mpr ⟨tm3 (List.mem_of_getElem? (i := 208) rfl) rfl, List.forall_mem_cons.mpr ⟨tm3 (List.mem_of_getElem? (i := 210) rfl) rfl, fun _ h => absurd h List.not_mem_nil⟩⟩⟩⟩⟩⟩⟩⟩⟩⟩⟩⟩⟩⟩⟩
end
section
theorem dX0_init_0 : decode cX0_init 0 = .ok (.aload_n 0, 1) := by decide +kernel
theorem dX0_init_1 : decode cX0_init 1 = .ok (.invokespecial 3, 3) := by decide +kernel
theorem dX0_init_4 : decode cX0_init 4 = .ok (.aload_n 0, 1) := by decide +kernel
theorem dX0_init_5 : decode cX0_init 5 = .ok (.bipush 20, 2) := by decide +kernel
theorem dX0_init_7 : decode cX0_init 7 = .ok (.newarray .int, 2) := by decide +kernel
theorem dX0_init_9 : decode cX0_init 9 = .ok (.putfield 9, 3) := by decide +kernel
theorem dX0_init_12 : decode cX0_init 12 = .ok (.aload_n 0, 1) := by decide +kernel
theorem dX0_init_13 : decode cX0_init 13 = .ok (.bipush 20, 2) := by decide +kernel
theorem dX0_init_15 : decode cX0_init 15 = .ok (.newarray .int, 2) := by decide +kernel
theorem dX0_init_17 : decode cX0_init 17 = .ok (.putfield 15, 3) := by decide +kernel
theorem dX0_init_20 : decode cX0_init 20 = .ok (.aload_n 0, 1) := by decide +kernel
theorem dX0_init_21 : decode cX0_init 21 = .ok (.bipush 20, 2) := by decide +kernel
theorem dX0_init_23 : decode cX0_init 23 = .ok (.newarray .int, 2) := by decide +kernel
theorem dX0_init_25 : decode cX0_init 25 = .ok (.putfield 18, 3) := by decide +kernel
theorem dX0_init_28 : decode cX0_init 28 = .ok (.return_, 1) := by decide +kernel
theorem dX0_enter_0 : decode cX0_enter 0 = .ok (.aload_n 0, 1) := by decide +kernel
theorem dX0_enter_1 : decode cX0_enter 1 = .ok (.getfield 21, 3) := by decide +kernel
theorem dX0_enter_4 : decode cX0_enter 4 = .ok (.bipush 20, 2) := by decide +kernel
theorem dX0_enter_6 : decode cX0_enter 6 = .ok (.if_icmp .ge 43, 3) := by decide +kernel
theorem dX0_enter_9 : decode cX0_enter 9 = .ok (.aload_n 0, 1) := by decide +kernel
theorem dX0_enter_10 : decode cX0_enter 10 = .ok (.getfield 9, 3) := by decide +kernel
theorem dX0_enter_13 : decode cX0_enter 13 = .ok (.aload_n 0, 1) := by decide +kernel
theorem dX0_enter_14 : decode cX0_enter 14 = .ok (.getfield 21, 3) := by decide +kernel
theorem dX0_enter_17 : decode cX0_enter 17 = .ok (.iload_n 1, 1) := by decide +kernel
theorem dX0_enter_18 : decode cX0_enter 18 = .ok (.iastore, 1) := by decide +kernel
theorem dX0_enter_19 : decode cX0_enter 19 = .ok (.aload_n 0, 1) := by decide +kernel
theorem dX0_enter_20 : decode cX0_enter 20 = .ok (.getfield 15, 3) := by decide +kernel
theorem dX0_enter_23 : decode cX0_enter 23 = .ok (.aload_n 0, 1) := by decide +kernel
theorem dX0_enter_24 : decode cX0_enter 24 = .ok (.getfield 21, 3) := by decide +kernel
theorem dX0_enter_27 : decode cX0_enter 27 = .ok (.iload_n 2, 1) := by decide +kernel
theorem dX0_enter_28 : decode cX0_enter 28 = .ok (.iastore, 1) := by decide +kernel
theorem dX0_enter_29 : decode cX0_enter 29 = .ok (.aload_n 0, 1) := by decide +kernel
theorem dX0_enter_30 : decode cX0_enter 30 = .ok (.getfield 18, 3) := by decide +kernel
theorem dX0_enter_33 : decode cX0_enter 33 = .ok (.aload_n 0, 1) := by decide +kernel
theorem dX0_enter_34 : decode cX0_enter 34 = .ok (.getfield 21, 3) := by decide +kernel
theorem dX0_enter_37 : decode cX0_enter 37 = .ok (.iload_n 3, 1) := by decide +kernel
theorem dX0_enter_38 : decode cX0_enter 38 = .ok (.iastore, 1) := by decide +kernel
theorem dX0_enter_39 : decode cX0_enter 39 = .ok (.aload_n 0, 1) := by decide +kernel
theorem dX0_enter_40 : decode cX0_enter 40 = .ok (.dup, 1) := by decide +kernel
theorem dX0_enter_41 : decode cX0_enter 41 = .ok (.getfield 21, 3) := by decide +kernel
theorem dX0_enter_44 : decode cX0_enter 44 = .ok (.iconst 1, 1) := by decide +kernel
theorem dX0_enter_45 : decode cX0_enter 45 = .ok (.iadd, 1) := by decide +kernel
theorem dX0_enter_46 : decode cX0_enter 46 = .ok (.putfield 21, 3) := by decide +kernel
theorem dX0_enter_49 : decode cX0_enter 49 = .ok (.return_, 1) := by decide +kernel
theorem dX0_clear_0 : decode cX0_clear 0 = .ok (.aload_n 0, 1) := by decide +kernel
theorem dX0_clear_1 : decode cX0_clear 1 = .ok (.iconst 0, 1) := by decide +kernel
theorem dX0_clear_2 : decode cX0_clear 2 = .ok (.putfield 21, 3) := by decide +kernel
theorem dX0_clear_5 : decode cX0_clear 5 = .ok (.return_, 1) := by decide +kernel
theorem dX0_firstWrong_0 : decode cX0_firstWrong 0 = .ok (.iconst 0, 1) := by decide +kernel
theorem dX0_firstWrong_1 : decode cX0_firstWrong 1 = .ok (.istore_n 2, 1) := by decide +kernel
theorem dX0_firstWrong_2 : decode cX0_firstWrong 2 = .ok (.iload_n 2, 1) := by decide +kernel
theorem dX0_firstWrong_3 : decode cX0_firstWrong 3 = .ok (.aload_n 0, 1) := by decide +kernel
theorem dX0_firstWrong_4 : decode cX0_firstWrong 4 = .ok (.getfield 21, 3) := by decide +kernel
theorem dX0_firstWrong_7 : decode cX0_firstWrong 7 = .ok (.if_icmp .ge 20, 3) := by decide +kernel
theorem dX0_firstWrong_10 : decode cX0_firstWrong 10 = .ok (.aload_n 0, 1) := by decide +kernel
theorem dX0_firstWrong_11 : decode cX0_firstWrong 11 = .ok (.iload_n 2, 1) := by decide +kernel
theorem dX0_firstWrong_12 : decode cX0_firstWrong 12 = .ok (.aload_n 1, 1) := by decide +kernel
theorem dX0_firstWrong_13 : decode cX0_firstWrong 13 = .ok (.invokevirtual 25, 3) := by decide +kernel
theorem dX0_firstWrong_16 : decode cX0_firstWrong 16 = .ok (.ifCond .eq 5, 3) := by decide +kernel
theorem dX0_firstWrong_19 : decode cX0_firstWrong 19 = .ok (.iload_n 2, 1) := by decide +kernel
theorem dX0_firstWrong_20 : decode cX0_firstWrong 20 = .ok (.ireturn, 1) := by decide +kernel
theorem dX0_firstWrong_21 : decode cX0_firstWrong 21 = .ok (.iinc 2 1, 3) := by decide +kernel
theorem dX0_firstWrong_24 : decode cX0_firstWrong 24 = .ok (.goto (-22), 3) := by decide +kernel
theorem dX0_firstWrong_27 : decode cX0_firstWrong 27 = .ok (.iconst (-1), 1) := by decide +kernel
theorem dX0_firstWrong_28 : decode cX0_firstWrong 28 = .ok (.ireturn, 1) := by decide +kernel
theorem dX0_isWrong_0 : decode cX0_isWrong 0 = .ok (.aload_n 2, 1) := by decide +kernel
theorem dX0_isWrong_1 : decode cX0_isWrong 1 = .ok (.aload_n 0, 1) := by decide +kernel
theorem dX0_isWrong_2 : decode cX0_isWrong 2 = .ok (.getfield 9, 3) := by decide +kernel
theorem dX0_isWrong_5 : decode cX0_isWrong 5 = .ok (.iload_n 1, 1) := by decide +kernel
theorem dX0_isWrong_6 : decode cX0_isWrong 6 = .ok (.iaload, 1) := by decide +kernel
theorem dX0_isWrong_7 : decode cX0_isWrong 7 = .ok (.aload_n 0, 1) := by decide +kernel
theorem dX0_isWrong_8 : decode cX0_isWrong 8 = .ok (.getfield 15, 3) := by decide +kernel
theorem dX0_isWrong_11 : decode cX0_isWrong 11 = .ok (.iload_n 1, 1) := by decide +kernel
theorem dX0_isWrong_12 : decode cX0_isWrong 12 = .ok (.iaload, 1) := by decide +kernel
theorem dX0_isWrong_13 : decode cX0_isWrong 13 = .ok (.invokevirtual 29, 3) := by decide +kernel
theorem dX0_isWrong_16 : decode cX0_isWrong 16 = .ok (.astore_n 3, 1) := by decide +kernel
theorem dX0_isWrong_17 : decode cX0_isWrong 17 = .ok (.aload_n 3, 1) := by decide +kernel
theorem dX0_isWrong_18 : decode cX0_isWrong 18 = .ok (.ifnull 23, 3) := by decide +kernel
theorem dX0_isWrong_21 : decode cX0_isWrong 21 = .ok (.aload_n 3, 1) := by decide +kernel
theorem dX0_isWrong_22 : decode cX0_isWrong 22 = .ok (.getfield 35, 3) := by decide +kernel
theorem dX0_isWrong_25 : decode cX0_isWrong 25 = .ok (.aload_n 0, 1) := by decide +kernel
theorem dX0_isWrong_26 : decode cX0_isWrong 26 = .ok (.getfield 15, 3) := by decide +kernel
theorem dX0_isWrong_29 : decode cX0_isWrong 29 = .ok (.iload_n 1, 1) := by decide +kernel
theorem dX0_isWrong_30 : decode cX0_isWrong 30 = .ok (.iaload, 1) := by decide +kernel
theorem dX0_isWrong_31 : decode cX0_isWrong 31 = .ok (.iaload, 1) := by decide +kernel
theorem dX0_isWrong_32 : decode cX0_isWrong 32 = .ok (.aload_n 0, 1) := by decide +kernel
theorem dX0_isWrong_33 : decode cX0_isWrong 33 = .ok (.getfield 18, 3) := by decide +kernel
theorem dX0_isWrong_36 : decode cX0_isWrong 36 = .ok (.iload_n 1, 1) := by decide +kernel
theorem dX0_isWrong_37 : decode cX0_isWrong 37 = .ok (.iaload, 1) := by decide +kernel
theorem dX0_isWrong_38 : decode cX0_isWrong 38 = .ok (.if_icmp .eq 7, 3) := by decide +kernel
theorem dX0_isWrong_41 : decode cX0_isWrong 41 = .ok (.iconst 1, 1) := by decide +kernel
theorem dX0_isWrong_42 : decode cX0_isWrong 42 = .ok (.goto 4, 3) := by decide +kernel
theorem dX0_isWrong_45 : decode cX0_isWrong 45 = .ok (.iconst 0, 1) := by decide +kernel
theorem dX0_isWrong_46 : decode cX0_isWrong 46 = .ok (.ireturn, 1) := by decide +kernel
theorem dX1_init_0 : decode cX1_init 0 = .ok (.aload_n 0, 1) := by decide +kernel
theorem dX1_init_1 : decode cX1_init 1 = .ok (.invokespecial 3, 3) := by decide +kernel
theorem dX1_init_4 : decode cX1_init 4 = .ok (.return_, 1) := by decide +kernel
theorem dX1_draw_0 : decode cX1_draw 0 = .ok (.aload_n 0, 1) := by decide +kernel
theorem dX1_draw_1 : decode cX1_draw 1 = .ok (.aload_n 0, 1) := by decide +kernel
theorem dX1_draw_2 : decode cX1_draw 2 = .ok (.getfield 9, 3) := by decide +kernel
theorem dX1_draw_5 : decode cX1_draw 5 = .ok (.i2l, 1) := by decide +kernel
theorem dX1_draw_6 : decode cX1_draw 6 = .ok (.ldc2_w 15, 3) := by decide +kernel
theorem dX1_draw_9 : decode cX1_draw 9 = .ok (.lmul, 1) := by decide +kernel
theorem dX1_draw_10 : decode cX1_draw 10 = .ok (.ldc2_w 17, 3) := by decide +kernel
theorem dX1_draw_13 : decode cX1_draw 13 = .ok (.ladd, 1) := by decide +kernel
theorem dX1_draw_14 : decode cX1_draw 14 = .ok (.ldc2_w 19, 3) := by decide +kernel
theorem dX1_draw_17 : decode cX1_draw 17 = .ok (.lrem, 1) := by decide +kernel
theorem dX1_draw_18 : decode cX1_draw 18 = .ok (.l2i, 1) := by decide +kernel
theorem dX1_draw_19 : decode cX1_draw 19 = .ok (.putfield 9, 3) := by decide +kernel
theorem dX1_draw_22 : decode cX1_draw 22 = .ok (.iload_n 1, 1) := by decide +kernel
theorem dX1_draw_23 : decode cX1_draw 23 = .ok (.ifCond .le 15, 3) := by decide +kernel
theorem dX1_draw_26 : decode cX1_draw 26 = .ok (.aload_n 0, 1) := by decide +kernel
theorem dX1_draw_27 : decode cX1_draw 27 = .ok (.getfield 9, 3) := by decide +kernel
theorem dX1_draw_30 : decode cX1_draw 30 = .ok (.ldc 21, 2) := by decide +kernel
theorem dX1_draw_32 : decode cX1_draw 32 = .ok (.idiv, 1) := by decide +kernel
theorem dX1_draw_33 : decode cX1_draw 33 = .ok (.iload_n 1, 1) := by decide +kernel
theorem dX1_draw_34 : decode cX1_draw 34 = .ok (.irem, 1) := by decide +kernel
theorem dX1_draw_35 : decode cX1_draw 35 = .ok (.goto 4, 3) := by decide +kernel
theorem dX1_draw_38 : decode cX1_draw 38 = .ok (.iconst 0, 1) := by decide +kernel
theorem dX1_draw_39 : decode cX1_draw 39 = .ok (.ireturn, 1) := by decide +kernel
theorem dX1_driftOnce_0 : decode cX1_driftOnce 0 = .ok (.aload_n 0, 1) := by decide +kernel
theorem dX1_driftOnce_1 : decode cX1_driftOnce 1 = .ok (.iconst 5, 1) := by decide +kernel
theorem dX1_driftOnce_2 : decode cX1_driftOnce 2 = .ok (.invokevirtual 22, 3) := by decide +kernel
theorem dX1_driftOnce_5 : decode cX1_driftOnce 5 = .ok (.istore_n 2, 1) := by decide +kernel
theorem dX1_driftOnce_6 : decode cX1_driftOnce 6 = .ok (.aload_n 0, 1) := by decide +kernel
theorem dX1_driftOnce_7 : decode cX1_driftOnce 7 = .ok (.aload_n 1, 1) := by decide +kernel
theorem dX1_driftOnce_8 : decode cX1_driftOnce 8 = .ok (.getfield 26, 3) := by decide +kernel
theorem dX1_driftOnce_11 : decode cX1_driftOnce 11 = .ok (.invokevirtual 22, 3) := by decide +kernel
theorem dX1_driftOnce_14 : decode cX1_driftOnce 14 = .ok (.istore_n 3, 1) := by decide +kernel
theorem dX1_driftOnce_15 : decode cX1_driftOnce 15 = .ok (.aload_n 1, 1) := by decide +kernel
theorem dX1_driftOnce_16 : decode cX1_driftOnce 16 = .ok (.iload_n 3, 1) := by decide +kernel
theorem dX1_driftOnce_17 : decode cX1_driftOnce 17 = .ok (.invokevirtual 31, 3) := by decide +kernel
theorem dX1_driftOnce_20 : decode cX1_driftOnce 20 = .ok (.astore 4, 2) := by decide +kernel
theorem dX1_driftOnce_22 : decode cX1_driftOnce 22 = .ok (.aload 4, 2) := by decide +kernel
theorem dX1_driftOnce_24 : decode cX1_driftOnce 24 = .ok (.ifnonnull 4, 3) := by decide +kernel
theorem dX1_driftOnce_27 : decode cX1_driftOnce 27 = .ok (.return_, 1) := by decide +kernel
theorem dX1_driftOnce_28 : decode cX1_driftOnce 28 = .ok (.iload_n 2, 1) := by decide +kernel
theorem dX1_driftOnce_29 : decode cX1_driftOnce 29 = .ok (.iconst 2, 1) := by decide +kernel
theorem dX1_driftOnce_30 : decode cX1_driftOnce 30 = .ok (.if_icmp .gt 10, 3) := by decide +kernel
theorem dX1_driftOnce_33 : decode cX1_driftOnce 33 = .ok (.aload_n 1, 1) := by decide +kernel
theorem dX1_driftOnce_34 : decode cX1_driftOnce 34 = .ok (.iload_n 3, 1) := by decide +kernel
theorem dX1_driftOnce_35 : decode cX1_driftOnce 35 = .ok (.invokevirtual 35, 3) := by decide +kernel
theorem dX1_driftOnce_38 : decode cX1_driftOnce 38 = .ok (.pop, 1) := by decide +kernel
theorem dX1_driftOnce_39 : decode cX1_driftOnce 39 = .ok (.return_, 1) := by decide +kernel
theorem dX1_driftOnce_40 : decode cX1_driftOnce 40 = .ok (.aload_n 0, 1) := by decide +kernel
theorem dX1_driftOnce_41 : decode cX1_driftOnce 41 = .ok (.aload 4, 2) := by decide +kernel
theorem dX1_driftOnce_43 : decode cX1_driftOnce 43 = .ok (.getfield 38, 3) := by decide +kernel
theorem dX1_driftOnce_46 : decode cX1_driftOnce 46 = .ok (.invokevirtual 22, 3) := by decide +kernel
theorem dX1_driftOnce_49 : decode cX1_driftOnce 49 = .ok (.istore 5, 2) := by decide +kernel
theorem dX1_driftOnce_51 : decode cX1_driftOnce 51 = .ok (.aload 4, 2) := by decide +kernel
theorem dX1_driftOnce_53 : decode cX1_driftOnce 53 = .ok (.iload 5, 2) := by decide +kernel
theorem dX1_driftOnce_55 : decode cX1_driftOnce 55 = .ok (.invokevirtual 43, 3) := by decide +kernel
theorem dX1_driftOnce_58 : decode cX1_driftOnce 58 = .ok (.ifCond .eq 24, 3) := by decide +kernel
theorem dX1_driftOnce_61 : decode cX1_driftOnce 61 = .ok (.aload 4, 2) := by decide +kernel
theorem dX1_driftOnce_63 : decode cX1_driftOnce 63 = .ok (.getfield 47, 3) := by decide +kernel
theorem dX1_driftOnce_66 : decode cX1_driftOnce 66 = .ok (.iload 5, 2) := by decide +kernel
theorem dX1_driftOnce_68 : decode cX1_driftOnce 68 = .ok (.iaload, 1) := by decide +kernel
theorem dX1_driftOnce_69 : decode cX1_driftOnce 69 = .ok (.iconst 1, 1) := by decide +kernel
theorem dX1_driftOnce_70 : decode cX1_driftOnce 70 = .ok (.if_icmp .ne 12, 3) := by decide +kernel
theorem dX1_driftOnce_73 : decode cX1_driftOnce 73 = .ok (.aload_n 1, 1) := by decide +kernel
theorem dX1_driftOnce_74 : decode cX1_driftOnce 74 = .ok (.aload 4, 2) := by decide +kernel
theorem dX1_driftOnce_76 : decode cX1_driftOnce 76 = .ok (.iload 5, 2) := by decide +kernel
theorem dX1_driftOnce_78 : decode cX1_driftOnce 78 = .ok (.invokevirtual 51, 3) := by decide +kernel
theorem dX1_driftOnce_81 : decode cX1_driftOnce 81 = .ok (.pop, 1) := by decide +kernel
theorem dX1_driftOnce_82 : decode cX1_driftOnce 82 = .ok (.return_, 1) := by decide +kernel
theorem dX2_init_0 : decode cX2_init 0 = .ok (.aload_n 0, 1) := by decide +kernel
theorem dX2_init_1 : decode cX2_init 1 = .ok (.invokespecial 1, 3) := by decide +kernel
theorem dX2_init_4 : decode cX2_init 4 = .ok (.aload_n 0, 1) := by decide +kernel
theorem dX2_init_5 : decode cX2_init 5 = .ok (.lconst 1, 1) := by decide +kernel
theorem dX2_init_6 : decode cX2_init 6 = .ok (.putfield 7, 3) := by decide +kernel
theorem dX2_init_9 : decode cX2_init 9 = .ok (.return_, 1) := by decide +kernel
theorem dX2_become_0 : decode cX2_become 0 = .ok (.lload_n 1, 1) := by decide +kernel
theorem dX2_become_1 : decode cX2_become 1 = .ok (.invokestatic 13, 3) := by decide +kernel
theorem dX2_become_4 : decode cX2_become 4 = .ok (.lload_n 3, 1) := by decide +kernel
theorem dX2_become_5 : decode cX2_become 5 = .ok (.invokestatic 13, 3) := by decide +kernel
theorem dX2_become_8 : decode cX2_become 8 = .ok (.invokestatic 19, 3) := by decide +kernel
theorem dX2_become_11 : decode cX2_become 11 = .ok (.lstore 5, 2) := by decide +kernel
theorem dX2_become_13 : decode cX2_become 13 = .ok (.lload_n 3, 1) := by decide +kernel
theorem dX2_become_14 : decode cX2_become 14 = .ok (.lconst 0, 1) := by decide +kernel
theorem dX2_become_15 : decode cX2_become 15 = .ok (.lcmp, 1) := by decide +kernel
theorem dX2_become_16 : decode cX2_become 16 = .ok (.ifCond .eq 10, 3) := by decide +kernel
theorem dX2_become_19 : decode cX2_become 19 = .ok (.lload 5, 2) := by decide +kernel
theorem dX2_become_21 : decode cX2_become 21 = .ok (.lconst 0, 1) := by decide +kernel
theorem dX2_become_22 : decode cX2_become 22 = .ok (.lcmp, 1) := by decide +kernel
theorem dX2_become_23 : decode cX2_become 23 = .ok (.ifCond .ne 14, 3) := by decide +kernel
theorem dX2_become_26 : decode cX2_become 26 = .ok (.aload_n 0, 1) := by decide +kernel
theorem dX2_become_27 : decode cX2_become 27 = .ok (.lconst 0, 1) := by decide +kernel
theorem dX2_become_28 : decode cX2_become 28 = .ok (.putfield 23, 3) := by decide +kernel
theorem dX2_become_31 : decode cX2_become 31 = .ok (.aload_n 0, 1) := by decide +kernel
theorem dX2_become_32 : decode cX2_become 32 = .ok (.lconst 1, 1) := by decide +kernel
theorem dX2_become_33 : decode cX2_become 33 = .ok (.putfield 7, 3) := by decide +kernel
theorem dX2_become_36 : decode cX2_become 36 = .ok (.return_, 1) := by decide +kernel
theorem dX2_become_37 : decode cX2_become 37 = .ok (.lload_n 3, 1) := by decide +kernel
theorem dX2_become_38 : decode cX2_become 38 = .ok (.lconst 0, 1) := by decide +kernel
theorem dX2_become_39 : decode cX2_become 39 = .ok (.lcmp, 1) := by decide +kernel
theorem dX2_become_40 : decode cX2_become 40 = .ok (.ifCond .ge 9, 3) := by decide +kernel
theorem dX2_become_43 : decode cX2_become 43 = .ok (.lload 5, 2) := by decide +kernel
theorem dX2_become_45 : decode cX2_become 45 = .ok (.lneg, 1) := by decide +kernel
theorem dX2_become_46 : decode cX2_become 46 = .ok (.goto 5, 3) := by decide +kernel
theorem dX2_become_49 : decode cX2_become 49 = .ok (.lload 5, 2) := by decide +kernel
theorem dX2_become_51 : decode cX2_become 51 = .ok (.lstore 7, 2) := by decide +kernel
theorem dX2_become_53 : decode cX2_become 53 = .ok (.aload_n 0, 1) := by decide +kernel
theorem dX2_become_54 : decode cX2_become 54 = .ok (.lload_n 1, 1) := by decide +kernel
theorem dX2_become_55 : decode cX2_become 55 = .ok (.lload 7, 2) := by decide +kernel
theorem dX2_become_57 : decode cX2_become 57 = .ok (.ldiv, 1) := by decide +kernel
theorem dX2_become_58 : decode cX2_become 58 = .ok (.putfield 23, 3) := by decide +kernel
theorem dX2_become_61 : decode cX2_become 61 = .ok (.aload_n 0, 1) := by decide +kernel
theorem dX2_become_62 : decode cX2_become 62 = .ok (.lload_n 3, 1) := by decide +kernel
theorem dX2_become_63 : decode cX2_become 63 = .ok (.lload 7, 2) := by decide +kernel
theorem dX2_become_65 : decode cX2_become 65 = .ok (.ldiv, 1) := by decide +kernel
theorem dX2_become_66 : decode cX2_become 66 = .ok (.putfield 7, 3) := by decide +kernel
theorem dX2_become_69 : decode cX2_become 69 = .ok (.return_, 1) := by decide +kernel
theorem dX2_commonDivisor_0 : decode cX2_commonDivisor 0 = .ok (.lload_n 0, 1) := by decide +kernel
theorem dX2_commonDivisor_1 : decode cX2_commonDivisor 1 = .ok (.lstore 4, 2) := by decide +kernel
theorem dX2_commonDivisor_3 : decode cX2_commonDivisor 3 = .ok (.lload_n 2, 1) := by decide +kernel
theorem dX2_commonDivisor_4 : decode cX2_commonDivisor 4 = .ok (.lstore 6, 2) := by decide +kernel
theorem dX2_commonDivisor_6 : decode cX2_commonDivisor 6 = .ok (.iconst 0, 1) := by decide +kernel
theorem dX2_commonDivisor_7 : decode cX2_commonDivisor 7 = .ok (.istore 8, 2) := by decide +kernel
theorem dX2_commonDivisor_9 : decode cX2_commonDivisor 9 = .ok (.iload 8, 2) := by decide +kernel
theorem dX2_commonDivisor_11 : decode cX2_commonDivisor 11 = .ok (.bipush 100, 2) := by decide +kernel
theorem dX2_commonDivisor_13 : decode cX2_commonDivisor 13 = .ok (.if_icmp .ge 31, 3) := by decide +kernel
theorem dX2_commonDivisor_16 : decode cX2_commonDivisor 16 = .ok (.lload 6, 2) := by decide +kernel
theorem dX2_commonDivisor_18 : decode cX2_commonDivisor 18 = .ok (.lconst 0, 1) := by decide +kernel
theorem dX2_commonDivisor_19 : decode cX2_commonDivisor 19 = .ok (.lcmp, 1) := by decide +kernel
theorem dX2_commonDivisor_20 : decode cX2_commonDivisor 20 = .ok (.ifCond .eq 24, 3) := by decide +kernel
theorem dX2_commonDivisor_23 : decode cX2_commonDivisor 23 = .ok (.lload 4, 2) := by decide +kernel
theorem dX2_commonDivisor_25 : decode cX2_commonDivisor 25 = .ok (.lload 6, 2) := by decide +kernel
theorem dX2_commonDivisor_27 : decode cX2_commonDivisor 27 = .ok (.lrem, 1) := by decide +kernel
theorem dX2_commonDivisor_28 : decode cX2_commonDivisor 28 = .ok (.lstore 9, 2) := by decide +kernel
theorem dX2_commonDivisor_30 : decode cX2_commonDivisor 30 = .ok (.lload 6, 2) := by decide +kernel
theorem dX2_commonDivisor_32 : decode cX2_commonDivisor 32 = .ok (.lstore 4, 2) := by decide +kernel
theorem dX2_commonDivisor_34 : decode cX2_commonDivisor 34 = .ok (.lload 9, 2) := by decide +kernel
theorem dX2_commonDivisor_36 : decode cX2_commonDivisor 36 = .ok (.lstore 6, 2) := by decide +kernel
theorem dX2_commonDivisor_38 : decode cX2_commonDivisor 38 = .ok (.iinc 8 1, 3) := by decide +kernel
theorem dX2_commonDivisor_41 : decode cX2_commonDivisor 41 = .ok (.goto (-32), 3) := by decide +kernel
theorem dX2_commonDivisor_44 : decode cX2_commonDivisor 44 = .ok (.lload 4, 2) := by decide +kernel
theorem dX2_commonDivisor_46 : decode cX2_commonDivisor 46 = .ok (.lreturn, 1) := by decide +kernel
theorem dX2_part_0 : decode cX2_part 0 = .ok (.iload_n 1, 1) := by decide +kernel
theorem dX2_part_1 : decode cX2_part 1 = .ok (.ifCond .ne 10, 3) := by decide +kernel
theorem dX2_part_4 : decode cX2_part 4 = .ok (.aload_n 0, 1) := by decide +kernel
theorem dX2_part_5 : decode cX2_part 5 = .ok (.getfield 23, 3) := by decide +kernel
theorem dX2_part_8 : decode cX2_part 8 = .ok (.goto 7, 3) := by decide +kernel
theorem dX2_part_11 : decode cX2_part 11 = .ok (.aload_n 0, 1) := by decide +kernel
theorem dX2_part_12 : decode cX2_part 12 = .ok (.getfield 7, 3) := by decide +kernel
theorem dX2_part_15 : decode cX2_part 15 = .ok (.lreturn, 1) := by decide +kernel
theorem dX2_spreadFromMean_0 : decode cX2_spreadFromMean 0 = .ok (.aload_n 0, 1) := by decide +kernel
theorem dX2_spreadFromMean_1 : decode cX2_spreadFromMean 1 = .ok (.getfield 23, 3) := by decide +kernel
theorem dX2_spreadFromMean_4 : decode cX2_spreadFromMean 4 = .ok (.lstore_n 3, 1) := by decide +kernel
theorem dX2_spreadFromMean_5 : decode cX2_spreadFromMean 5 = .ok (.aload_n 0, 1) := by decide +kernel
theorem dX2_spreadFromMean_6 : decode cX2_spreadFromMean 6 = .ok (.getfield 7, 3) := by decide +kernel
theorem dX2_spreadFromMean_9 : decode cX2_spreadFromMean 9 = .ok (.lstore 5, 2) := by decide +kernel
theorem dX2_spreadFromMean_11 : decode cX2_spreadFromMean 11 = .ok (.iload_n 1, 1) := by decide +kernel
theorem dX2_spreadFromMean_12 : decode cX2_spreadFromMean 12 = .ok (.iconst 1, 1) := by decide +kernel
theorem dX2_spreadFromMean_13 : decode cX2_spreadFromMean 13 = .ok (.iadd, 1) := by decide +kernel
theorem dX2_spreadFromMean_14 : decode cX2_spreadFromMean 14 = .ok (.iload_n 2, 1) := by decide +kernel
theorem dX2_spreadFromMean_15 : decode cX2_spreadFromMean 15 = .ok (.isub, 1) := by decide +kernel
theorem dX2_spreadFromMean_16 : decode cX2_spreadFromMean 16 = .ok (.i2l, 1) := by decide +kernel
theorem dX2_spreadFromMean_17 : decode cX2_spreadFromMean 17 = .ok (.lload 5, 2) := by decide +kernel
theorem dX2_spreadFromMean_19 : decode cX2_spreadFromMean 19 = .ok (.lmul, 1) := by decide +kernel
theorem dX2_spreadFromMean_20 : decode cX2_spreadFromMean 20 = .ok (.lload_n 3, 1) := by decide +kernel
theorem dX2_spreadFromMean_21 : decode cX2_spreadFromMean 21 = .ok (.ladd, 1) := by decide +kernel
theorem dX2_spreadFromMean_22 : decode cX2_spreadFromMean 22 = .ok (.lstore 7, 2) := by decide +kernel
theorem dX2_spreadFromMean_24 : decode cX2_spreadFromMean 24 = .ok (.aload_n 0, 1) := by decide +kernel
theorem dX2_spreadFromMean_25 : decode cX2_spreadFromMean 25 = .ok (.lload_n 3, 1) := by decide +kernel
theorem dX2_spreadFromMean_26 : decode cX2_spreadFromMean 26 = .ok (.lload 5, 2) := by decide +kernel
theorem dX2_spreadFromMean_28 : decode cX2_spreadFromMean 28 = .ok (.lload_n 3, 1) := by decide +kernel
theorem dX2_spreadFromMean_29 : decode cX2_spreadFromMean 29 = .ok (.lsub, 1) := by decide +kernel
theorem dX2_spreadFromMean_30 : decode cX2_spreadFromMean 30 = .ok (.lload 7, 2) := by decide +kernel
theorem dX2_spreadFromMean_32 : decode cX2_spreadFromMean 32 = .ok (.lmul, 1) := by decide +kernel
theorem dX2_spreadFromMean_33 : decode cX2_spreadFromMean 33 = .ok (.iload_n 2, 1) := by decide +kernel
theorem dX2_spreadFromMean_34 : decode cX2_spreadFromMean 34 = .ok (.i2l, 1) := by decide +kernel
theorem dX2_spreadFromMean_35 : decode cX2_spreadFromMean 35 = .ok (.lload 5, 2) := by decide +kernel
theorem dX2_spreadFromMean_37 : decode cX2_spreadFromMean 37 = .ok (.lmul, 1) := by decide +kernel
theorem dX2_spreadFromMean_38 : decode cX2_spreadFromMean 38 = .ok (.lload 5, 2) := by decide +kernel
theorem dX2_spreadFromMean_40 : decode cX2_spreadFromMean 40 = .ok (.lmul, 1) := by decide +kernel
theorem dX2_spreadFromMean_41 : decode cX2_spreadFromMean 41 = .ok (.ladd, 1) := by decide +kernel
theorem dX2_spreadFromMean_42 : decode cX2_spreadFromMean 42 = .ok (.lmul, 1) := by decide +kernel
theorem dX2_spreadFromMean_43 : decode cX2_spreadFromMean 43 = .ok (.lload 5, 2) := by decide +kernel
theorem dX2_spreadFromMean_45 : decode cX2_spreadFromMean 45 = .ok (.lload 5, 2) := by decide +kernel
theorem dX2_spreadFromMean_47 : decode cX2_spreadFromMean 47 = .ok (.lmul, 1) := by decide +kernel
theorem dX2_spreadFromMean_48 : decode cX2_spreadFromMean 48 = .ok (.lload 7, 2) := by decide +kernel
theorem dX2_spreadFromMean_50 : decode cX2_spreadFromMean 50 = .ok (.lmul, 1) := by decide +kernel
theorem dX2_spreadFromMean_51 : decode cX2_spreadFromMean 51 = .ok (.invokevirtual 26, 3) := by decide +kernel
theorem dX2_spreadFromMean_54 : decode cX2_spreadFromMean 54 = .ok (.return_, 1) := by decide +kernel
theorem dX3_init_0 : decode cX3_init 0 = .ok (.aload_n 0, 1) := by decide +kernel
theorem dX3_init_1 : decode cX3_init 1 = .ok (.invokespecial 3, 3) := by decide +kernel
theorem dX3_init_4 : decode cX3_init 4 = .ok (.aload_n 0, 1) := by decide +kernel
theorem dX3_init_5 : decode cX3_init 5 = .ok (.bipush 6, 2) := by decide +kernel
theorem dX3_init_7 : decode cX3_init 7 = .ok (.newarray .int, 2) := by decide +kernel
theorem dX3_init_9 : decode cX3_init 9 = .ok (.putfield 9, 3) := by decide +kernel
theorem dX3_init_12 : decode cX3_init 12 = .ok (.aload_n 0, 1) := by decide +kernel
theorem dX3_init_13 : decode cX3_init 13 = .ok (.bipush 6, 2) := by decide +kernel
theorem dX3_init_15 : decode cX3_init 15 = .ok (.newarray .int, 2) := by decide +kernel
theorem dX3_init_17 : decode cX3_init 17 = .ok (.putfield 15, 3) := by decide +kernel
theorem dX3_init_20 : decode cX3_init 20 = .ok (.aload_n 0, 1) := by decide +kernel
theorem dX3_init_21 : decode cX3_init 21 = .ok (.bipush 6, 2) := by decide +kernel
theorem dX3_init_23 : decode cX3_init 23 = .ok (.newarray .int, 2) := by decide +kernel
theorem dX3_init_25 : decode cX3_init 25 = .ok (.putfield 18, 3) := by decide +kernel
theorem dX3_init_28 : decode cX3_init 28 = .ok (.aload_n 0, 1) := by decide +kernel
theorem dX3_init_29 : decode cX3_init 29 = .ok (.bipush 6, 2) := by decide +kernel
theorem dX3_init_31 : decode cX3_init 31 = .ok (.newarray .int, 2) := by decide +kernel
theorem dX3_init_33 : decode cX3_init 33 = .ok (.putfield 21, 3) := by decide +kernel
theorem dX3_init_36 : decode cX3_init 36 = .ok (.return_, 1) := by decide +kernel
theorem dX3_begin_0 : decode cX3_begin 0 = .ok (.aload_n 0, 1) := by decide +kernel
theorem dX3_begin_1 : decode cX3_begin 1 = .ok (.iconst 3, 1) := by decide +kernel
theorem dX3_begin_2 : decode cX3_begin 2 = .ok (.putfield 24, 3) := by decide +kernel
theorem dX3_begin_5 : decode cX3_begin 5 = .ok (.aload_n 0, 1) := by decide +kernel
theorem dX3_begin_6 : decode cX3_begin 6 = .ok (.iconst 2, 1) := by decide +kernel
theorem dX3_begin_7 : decode cX3_begin 7 = .ok (.putfield 28, 3) := by decide +kernel
theorem dX3_begin_10 : decode cX3_begin 10 = .ok (.aload_n 0, 1) := by decide +kernel
theorem dX3_begin_11 : decode cX3_begin 11 = .ok (.iconst 0, 1) := by decide +kernel
theorem dX3_begin_12 : decode cX3_begin 12 = .ok (.putfield 31, 3) := by decide +kernel
theorem dX3_begin_15 : decode cX3_begin 15 = .ok (.aload_n 0, 1) := by decide +kernel
theorem dX3_begin_16 : decode cX3_begin 16 = .ok (.iconst (-1), 1) := by decide +kernel
theorem dX3_begin_17 : decode cX3_begin 17 = .ok (.putfield 34, 3) := by decide +kernel
theorem dX3_begin_20 : decode cX3_begin 20 = .ok (.aload_n 0, 1) := by decide +kernel
theorem dX3_begin_21 : decode cX3_begin 21 = .ok (.iconst 0, 1) := by decide +kernel
theorem dX3_begin_22 : decode cX3_begin 22 = .ok (.putfield 37, 3) := by decide +kernel
theorem dX3_begin_25 : decode cX3_begin 25 = .ok (.aload_n 0, 1) := by decide +kernel
theorem dX3_begin_26 : decode cX3_begin 26 = .ok (.iconst 0, 1) := by decide +kernel
theorem dX3_begin_27 : decode cX3_begin 27 = .ok (.putfield 40, 3) := by decide +kernel
theorem dX3_begin_30 : decode cX3_begin 30 = .ok (.aload_n 0, 1) := by decide +kernel
theorem dX3_begin_31 : decode cX3_begin 31 = .ok (.iconst 0, 1) := by decide +kernel
theorem dX3_begin_32 : decode cX3_begin 32 = .ok (.putfield 43, 3) := by decide +kernel
theorem dX3_begin_35 : decode cX3_begin 35 = .ok (.aload_n 0, 1) := by decide +kernel
theorem dX3_begin_36 : decode cX3_begin 36 = .ok (.iconst 0, 1) := by decide +kernel
theorem dX3_begin_37 : decode cX3_begin 37 = .ok (.putfield 46, 3) := by decide +kernel
theorem dX3_begin_40 : decode cX3_begin 40 = .ok (.aload_n 0, 1) := by decide +kernel
theorem dX3_begin_41 : decode cX3_begin 41 = .ok (.iconst 0, 1) := by decide +kernel
theorem dX3_begin_42 : decode cX3_begin 42 = .ok (.putfield 49, 3) := by decide +kernel
theorem dX3_begin_45 : decode cX3_begin 45 = .ok (.aload_n 0, 1) := by decide +kernel
theorem dX3_begin_46 : decode cX3_begin 46 = .ok (.invokevirtual 52, 3) := by decide +kernel
theorem dX3_begin_49 : decode cX3_begin 49 = .ok (.return_, 1) := by decide +kernel
theorem dX3_freeAllLines_0 : decode cX3_freeAllLines 0 = .ok (.aload_n 0, 1) := by decide +kernel
theorem dX3_freeAllLines_1 : decode cX3_freeAllLines 1 = .ok (.iconst 0, 1) := by decide +kernel
theorem dX3_freeAllLines_2 : decode cX3_freeAllLines 2 = .ok (.putfield 55, 3) := by decide +kernel
theorem dX3_freeAllLines_5 : decode cX3_freeAllLines 5 = .ok (.aload_n 0, 1) := by decide +kernel
theorem dX3_freeAllLines_6 : decode cX3_freeAllLines 6 = .ok (.getfield 9, 3) := by decide +kernel
theorem dX3_freeAllLines_9 : decode cX3_freeAllLines 9 = .ok (.iconst 0, 1) := by decide +kernel
theorem dX3_freeAllLines_10 : decode cX3_freeAllLines 10 = .ok (.invokestatic 58, 3) := by decide +kernel
theorem dX3_freeAllLines_13 : decode cX3_freeAllLines 13 = .ok (.aload_n 0, 1) := by decide +kernel
theorem dX3_freeAllLines_14 : decode cX3_freeAllLines 14 = .ok (.getfield 15, 3) := by decide +kernel
theorem dX3_freeAllLines_17 : decode cX3_freeAllLines 17 = .ok (.iconst (-1), 1) := by decide +kernel
theorem dX3_freeAllLines_18 : decode cX3_freeAllLines 18 = .ok (.invokestatic 58, 3) := by decide +kernel
theorem dX3_freeAllLines_21 : decode cX3_freeAllLines 21 = .ok (.aload_n 0, 1) := by decide +kernel
theorem dX3_freeAllLines_22 : decode cX3_freeAllLines 22 = .ok (.getfield 18, 3) := by decide +kernel
theorem dX3_freeAllLines_25 : decode cX3_freeAllLines 25 = .ok (.iconst (-1), 1) := by decide +kernel
theorem dX3_freeAllLines_26 : decode cX3_freeAllLines 26 = .ok (.invokestatic 58, 3) := by decide +kernel
theorem dX3_freeAllLines_29 : decode cX3_freeAllLines 29 = .ok (.aload_n 0, 1) := by decide +kernel
theorem dX3_freeAllLines_30 : decode cX3_freeAllLines 30 = .ok (.getfield 21, 3) := by decide +kernel
theorem dX3_freeAllLines_33 : decode cX3_freeAllLines 33 = .ok (.iconst 0, 1) := by decide +kernel
theorem dX3_freeAllLines_34 : decode cX3_freeAllLines 34 = .ok (.invokestatic 58, 3) := by decide +kernel
theorem dX3_freeAllLines_37 : decode cX3_freeAllLines 37 = .ok (.return_, 1) := by decide +kernel
theorem dX3_copyFrom_0 : decode cX3_copyFrom 0 = .ok (.aload_n 0, 1) := by decide +kernel
theorem dX3_copyFrom_1 : decode cX3_copyFrom 1 = .ok (.aload_n 1, 1) := by decide +kernel
theorem dX3_copyFrom_2 : decode cX3_copyFrom 2 = .ok (.getfield 24, 3) := by decide +kernel
theorem dX3_copyFrom_5 : decode cX3_copyFrom 5 = .ok (.putfield 24, 3) := by decide +kernel
theorem dX3_copyFrom_8 : decode cX3_copyFrom 8 = .ok (.aload_n 0, 1) := by decide +kernel
theorem dX3_copyFrom_9 : decode cX3_copyFrom 9 = .ok (.aload_n 1, 1) := by decide +kernel
theorem dX3_copyFrom_10 : decode cX3_copyFrom 10 = .ok (.getfield 28, 3) := by decide +kernel
theorem dX3_copyFrom_13 : decode cX3_copyFrom 13 = .ok (.putfield 28, 3) := by decide +kernel
theorem dX3_copyFrom_16 : decode cX3_copyFrom 16 = .ok (.aload_n 0, 1) := by decide +kernel
theorem dX3_copyFrom_17 : decode cX3_copyFrom 17 = .ok (.aload_n 1, 1) := by decide +kernel
theorem dX3_copyFrom_18 : decode cX3_copyFrom 18 = .ok (.getfield 31, 3) := by decide +kernel
theorem dX3_copyFrom_21 : decode cX3_copyFrom 21 = .ok (.putfield 31, 3) := by decide +kernel
theorem dX3_copyFrom_24 : decode cX3_copyFrom 24 = .ok (.aload_n 0, 1) := by decide +kernel
theorem dX3_copyFrom_25 : decode cX3_copyFrom 25 = .ok (.aload_n 1, 1) := by decide +kernel
theorem dX3_copyFrom_26 : decode cX3_copyFrom 26 = .ok (.getfield 34, 3) := by decide +kernel
theorem dX3_copyFrom_29 : decode cX3_copyFrom 29 = .ok (.putfield 34, 3) := by decide +kernel
theorem dX3_copyFrom_32 : decode cX3_copyFrom 32 = .ok (.aload_n 0, 1) := by decide +kernel
theorem dX3_copyFrom_33 : decode cX3_copyFrom 33 = .ok (.aload_n 1, 1) := by decide +kernel
theorem dX3_copyFrom_34 : decode cX3_copyFrom 34 = .ok (.getfield 37, 3) := by decide +kernel
theorem dX3_copyFrom_37 : decode cX3_copyFrom 37 = .ok (.putfield 37, 3) := by decide +kernel
theorem dX3_copyFrom_40 : decode cX3_copyFrom 40 = .ok (.aload_n 0, 1) := by decide +kernel
theorem dX3_copyFrom_41 : decode cX3_copyFrom 41 = .ok (.aload_n 1, 1) := by decide +kernel
theorem dX3_copyFrom_42 : decode cX3_copyFrom 42 = .ok (.getfield 40, 3) := by decide +kernel
theorem dX3_copyFrom_45 : decode cX3_copyFrom 45 = .ok (.putfield 40, 3) := by decide +kernel
theorem dX3_copyFrom_48 : decode cX3_copyFrom 48 = .ok (.aload_n 0, 1) := by decide +kernel
theorem dX3_copyFrom_49 : decode cX3_copyFrom 49 = .ok (.aload_n 1, 1) := by decide +kernel
theorem dX3_copyFrom_50 : decode cX3_copyFrom 50 = .ok (.getfield 43, 3) := by decide +kernel
theorem dX3_copyFrom_53 : decode cX3_copyFrom 53 = .ok (.putfield 43, 3) := by decide +kernel
theorem dX3_copyFrom_56 : decode cX3_copyFrom 56 = .ok (.aload_n 0, 1) := by decide +kernel
theorem dX3_copyFrom_57 : decode cX3_copyFrom 57 = .ok (.aload_n 1, 1) := by decide +kernel
theorem dX3_copyFrom_58 : decode cX3_copyFrom 58 = .ok (.getfield 46, 3) := by decide +kernel
theorem dX3_copyFrom_61 : decode cX3_copyFrom 61 = .ok (.putfield 46, 3) := by decide +kernel
theorem dX3_copyFrom_64 : decode cX3_copyFrom 64 = .ok (.aload_n 0, 1) := by decide +kernel
theorem dX3_copyFrom_65 : decode cX3_copyFrom 65 = .ok (.aload_n 1, 1) := by decide +kernel
theorem dX3_copyFrom_66 : decode cX3_copyFrom 66 = .ok (.getfield 49, 3) := by decide +kernel
theorem dX3_copyFrom_69 : decode cX3_copyFrom 69 = .ok (.putfield 49, 3) := by decide +kernel
theorem dX3_copyFrom_72 : decode cX3_copyFrom 72 = .ok (.aload_n 0, 1) := by decide +kernel
theorem dX3_copyFrom_73 : decode cX3_copyFrom 73 = .ok (.aload_n 1, 1) := by decide +kernel
theorem dX3_copyFrom_74 : decode cX3_copyFrom 74 = .ok (.getfield 55, 3) := by decide +kernel
theorem dX3_copyFrom_77 : decode cX3_copyFrom 77 = .ok (.putfield 55, 3) := by decide +kernel
theorem dX3_copyFrom_80 : decode cX3_copyFrom 80 = .ok (.aload_n 1, 1) := by decide +kernel
theorem dX3_copyFrom_81 : decode cX3_copyFrom 81 = .ok (.getfield 9, 3) := by decide +kernel
theorem dX3_copyFrom_84 : decode cX3_copyFrom 84 = .ok (.iconst 0, 1) := by decide +kernel
theorem dX3_copyFrom_85 : decode cX3_copyFrom 85 = .ok (.aload_n 0, 1) := by decide +kernel
theorem dX3_copyFrom_86 : decode cX3_copyFrom 86 = .ok (.getfield 9, 3) := by decide +kernel
theorem dX3_copyFrom_89 : decode cX3_copyFrom 89 = .ok (.iconst 0, 1) := by decide +kernel
theorem dX3_copyFrom_90 : decode cX3_copyFrom 90 = .ok (.bipush 6, 2) := by decide +kernel
theorem dX3_copyFrom_92 : decode cX3_copyFrom 92 = .ok (.invokestatic 64, 3) := by decide +kernel
theorem dX3_copyFrom_95 : decode cX3_copyFrom 95 = .ok (.aload_n 1, 1) := by decide +kernel
theorem dX3_copyFrom_96 : decode cX3_copyFrom 96 = .ok (.getfield 15, 3) := by decide +kernel
theorem dX3_copyFrom_99 : decode cX3_copyFrom 99 = .ok (.iconst 0, 1) := by decide +kernel
theorem dX3_copyFrom_100 : decode cX3_copyFrom 100 = .ok (.aload_n 0, 1) := by decide +kernel
theorem dX3_copyFrom_101 : decode cX3_copyFrom 101 = .ok (.getfield 15, 3) := by decide +kernel
theorem dX3_copyFrom_104 : decode cX3_copyFrom 104 = .ok (.iconst 0, 1) := by decide +kernel
theorem dX3_copyFrom_105 : decode cX3_copyFrom 105 = .ok (.bipush 6, 2) := by decide +kernel
theorem dX3_copyFrom_107 : decode cX3_copyFrom 107 = .ok (.invokestatic 64, 3) := by decide +kernel
theorem dX3_copyFrom_110 : decode cX3_copyFrom 110 = .ok (.aload_n 1, 1) := by decide +kernel
theorem dX3_copyFrom_111 : decode cX3_copyFrom 111 = .ok (.getfield 18, 3) := by decide +kernel
theorem dX3_copyFrom_114 : decode cX3_copyFrom 114 = .ok (.iconst 0, 1) := by decide +kernel
theorem dX3_copyFrom_115 : decode cX3_copyFrom 115 = .ok (.aload_n 0, 1) := by decide +kernel
theorem dX3_copyFrom_116 : decode cX3_copyFrom 116 = .ok (.getfield 18, 3) := by decide +kernel
theorem dX3_copyFrom_119 : decode cX3_copyFrom 119 = .ok (.iconst 0, 1) := by decide +kernel
theorem dX3_copyFrom_120 : decode cX3_copyFrom 120 = .ok (.bipush 6, 2) := by decide +kernel
theorem dX3_copyFrom_122 : decode cX3_copyFrom 122 = .ok (.invokestatic 64, 3) := by decide +kernel
theorem dX3_copyFrom_125 : decode cX3_copyFrom 125 = .ok (.aload_n 1, 1) := by decide +kernel
theorem dX3_copyFrom_126 : decode cX3_copyFrom 126 = .ok (.getfield 21, 3) := by decide +kernel
theorem dX3_copyFrom_129 : decode cX3_copyFrom 129 = .ok (.iconst 0, 1) := by decide +kernel
theorem dX3_copyFrom_130 : decode cX3_copyFrom 130 = .ok (.aload_n 0, 1) := by decide +kernel
theorem dX3_copyFrom_131 : decode cX3_copyFrom 131 = .ok (.getfield 21, 3) := by decide +kernel
theorem dX3_copyFrom_134 : decode cX3_copyFrom 134 = .ok (.iconst 0, 1) := by decide +kernel
theorem dX3_copyFrom_135 : decode cX3_copyFrom 135 = .ok (.bipush 6, 2) := by decide +kernel
theorem dX3_copyFrom_137 : decode cX3_copyFrom 137 = .ok (.invokestatic 64, 3) := by decide +kernel
theorem dX3_copyFrom_140 : decode cX3_copyFrom 140 = .ok (.return_, 1) := by decide +kernel
theorem dX3_hasLine_0 : decode cX3_hasLine 0 = .ok (.iload_n 1, 1) := by decide +kernel
theorem dX3_hasLine_1 : decode cX3_hasLine 1 = .ok (.ifCond .lt 15, 3) := by decide +kernel
theorem dX3_hasLine_4 : decode cX3_hasLine 4 = .ok (.iload_n 1, 1) := by decide +kernel
theorem dX3_hasLine_5 : decode cX3_hasLine 5 = .ok (.aload_n 0, 1) := by decide +kernel
theorem dX3_hasLine_6 : decode cX3_hasLine 6 = .ok (.getfield 24, 3) := by decide +kernel
theorem dX3_hasLine_9 : decode cX3_hasLine 9 = .ok (.if_icmp .ge 7, 3) := by decide +kernel
theorem dX3_hasLine_12 : decode cX3_hasLine 12 = .ok (.iconst 1, 1) := by decide +kernel
theorem dX3_hasLine_13 : decode cX3_hasLine 13 = .ok (.goto 4, 3) := by decide +kernel
theorem dX3_hasLine_16 : decode cX3_hasLine 16 = .ok (.iconst 0, 1) := by decide +kernel
theorem dX3_hasLine_17 : decode cX3_hasLine 17 = .ok (.ireturn, 1) := by decide +kernel
theorem dX3_setOf_0 : decode cX3_setOf 0 = .ok (.iconst 0, 1) := by decide +kernel
theorem dX3_setOf_1 : decode cX3_setOf 1 = .ok (.istore_n 2, 1) := by decide +kernel
theorem dX3_setOf_2 : decode cX3_setOf 2 = .ok (.iconst 0, 1) := by decide +kernel
theorem dX3_setOf_3 : decode cX3_setOf 3 = .ok (.istore_n 3, 1) := by decide +kernel
theorem dX3_setOf_4 : decode cX3_setOf 4 = .ok (.iload_n 3, 1) := by decide +kernel
theorem dX3_setOf_5 : decode cX3_setOf 5 = .ok (.aload_n 0, 1) := by decide +kernel
theorem dX3_setOf_6 : decode cX3_setOf 6 = .ok (.getfield 24, 3) := by decide +kernel
theorem dX3_setOf_9 : decode cX3_setOf 9 = .ok (.if_icmp .ge 25, 3) := by decide +kernel
theorem dX3_setOf_12 : decode cX3_setOf 12 = .ok (.aload_n 0, 1) := by decide +kernel
theorem dX3_setOf_13 : decode cX3_setOf 13 = .ok (.getfield 9, 3) := by decide +kernel
theorem dX3_setOf_16 : decode cX3_setOf 16 = .ok (.iload_n 3, 1) := by decide +kernel
theorem dX3_setOf_17 : decode cX3_setOf 17 = .ok (.iaload, 1) := by decide +kernel
theorem dX3_setOf_18 : decode cX3_setOf 18 = .ok (.iload_n 1, 1) := by decide +kernel
theorem dX3_setOf_19 : decode cX3_setOf 19 = .ok (.if_icmp .ne 9, 3) := by decide +kernel
theorem dX3_setOf_22 : decode cX3_setOf 22 = .ok (.iload_n 2, 1) := by decide +kernel
theorem dX3_setOf_23 : decode cX3_setOf 23 = .ok (.iconst 1, 1) := by decide +kernel
theorem dX3_setOf_24 : decode cX3_setOf 24 = .ok (.iload_n 3, 1) := by decide +kernel
theorem dX3_setOf_25 : decode cX3_setOf 25 = .ok (.ishl, 1) := by decide +kernel
theorem dX3_setOf_26 : decode cX3_setOf 26 = .ok (.ior, 1) := by decide +kernel
theorem dX3_setOf_27 : decode cX3_setOf 27 = .ok (.istore_n 2, 1) := by decide +kernel
theorem dX3_setOf_28 : decode cX3_setOf 28 = .ok (.iinc 3 1, 3) := by decide +kernel
theorem dX3_setOf_31 : decode cX3_setOf 31 = .ok (.goto (-27), 3) := by decide +kernel
theorem dX3_setOf_34 : decode cX3_setOf 34 = .ok (.iload_n 2, 1) := by decide +kernel
theorem dX3_setOf_35 : decode cX3_setOf 35 = .ok (.ireturn, 1) := by decide +kernel
theorem dX3_count_0 : decode cX3_count 0 = .ok (.aload_n 0, 1) := by decide +kernel
theorem dX3_count_1 : decode cX3_count 1 = .ok (.iload_n 1, 1) := by decide +kernel
theorem dX3_count_2 : decode cX3_count 2 = .ok (.invokevirtual 70, 3) := by decide +kernel
theorem dX3_count_5 : decode cX3_count 5 = .ok (.invokestatic 74, 3) := by decide +kernel
theorem dX3_count_8 : decode cX3_count 8 = .ok (.ireturn, 1) := by decide +kernel
theorem dX3_chosenLine_0 : decode cX3_chosenLine 0 = .ok (.aload_n 0, 1) := by decide +kernel
theorem dX3_chosenLine_1 : decode cX3_chosenLine 1 = .ok (.getfield 37, 3) := by decide +kernel
theorem dX3_chosenLine_4 : decode cX3_chosenLine 4 = .ok (.tableswitch 47 1 3 #[28, 33, 38], 28) := by decide +kernel
theorem dX3_chosenLine_32 : decode cX3_chosenLine 32 = .ok (.aload_n 0, 1) := by decide +kernel
theorem dX3_chosenLine_33 : decode cX3_chosenLine 33 = .ok (.invokevirtual 79, 3) := by decide +kernel
theorem dX3_chosenLine_36 : decode cX3_chosenLine 36 = .ok (.ireturn, 1) := by decide +kernel
theorem dX3_chosenLine_37 : decode cX3_chosenLine 37 = .ok (.aload_n 0, 1) := by decide +kernel
theorem dX3_chosenLine_38 : decode cX3_chosenLine 38 = .ok (.invokevirtual 83, 3) := by decide +kernel
theorem dX3_chosenLine_41 : decode cX3_chosenLine 41 = .ok (.ireturn, 1) := by decide +kernel
theorem dX3_chosenLine_42 : decode cX3_chosenLine 42 = .ok (.aload_n 0, 1) := by decide +kernel
theorem dX3_chosenLine_43 : decode cX3_chosenLine 43 = .ok (.aload_n 0, 1) := by decide +kernel
theorem dX3_chosenLine_44 : decode cX3_chosenLine 44 = .ok (.getfield 55, 3) := by decide +kernel
theorem dX3_chosenLine_47 : decode cX3_chosenLine 47 = .ok (.invokevirtual 86, 3) := by decide +kernel
theorem dX3_chosenLine_50 : decode cX3_chosenLine 50 = .ok (.ireturn, 1) := by decide +kernel
theorem dX3_chosenLine_51 : decode cX3_chosenLine 51 = .ok (.aload_n 0, 1) := by decide +kernel
theorem dX3_chosenLine_52 : decode cX3_chosenLine 52 = .ok (.iconst 0, 1) := by decide +kernel
theorem dX3_chosenLine_53 : decode cX3_chosenLine 53 = .ok (.invokevirtual 86, 3) := by decide +kernel
theorem dX3_chosenLine_56 : decode cX3_chosenLine 56 = .ok (.ireturn, 1) := by decide +kernel
theorem dX3_firstFreeFrom_0 : decode cX3_firstFreeFrom 0 = .ok (.iconst 0, 1) := by decide +kernel
theorem dX3_firstFreeFrom_1 : decode cX3_firstFreeFrom 1 = .ok (.istore_n 2, 1) := by decide +kernel
theorem dX3_firstFreeFrom_2 : decode cX3_firstFreeFrom 2 = .ok (.iload_n 2, 1) := by decide +kernel
theorem dX3_firstFreeFrom_3 : decode cX3_firstFreeFrom 3 = .ok (.aload_n 0, 1) := by decide +kernel
theorem dX3_firstFreeFrom_4 : decode cX3_firstFreeFrom 4 = .ok (.getfield 24, 3) := by decide +kernel
theorem dX3_firstFreeFrom_7 : decode cX3_firstFreeFrom 7 = .ok (.if_icmp .ge 29, 3) := by decide +kernel
theorem dX3_firstFreeFrom_10 : decode cX3_firstFreeFrom 10 = .ok (.iload_n 1, 1) := by decide +kernel
theorem dX3_firstFreeFrom_11 : decode cX3_firstFreeFrom 11 = .ok (.iload_n 2, 1) := by decide +kernel
theorem dX3_firstFreeFrom_12 : decode cX3_firstFreeFrom 12 = .ok (.iadd, 1) := by decide +kernel
theorem dX3_firstFreeFrom_13 : decode cX3_firstFreeFrom 13 = .ok (.aload_n 0, 1) := by decide +kernel
theorem dX3_firstFreeFrom_14 : decode cX3_firstFreeFrom 14 = .ok (.getfield 24, 3) := by decide +kernel
theorem dX3_firstFreeFrom_17 : decode cX3_firstFreeFrom 17 = .ok (.irem, 1) := by decide +kernel
theorem dX3_firstFreeFrom_18 : decode cX3_firstFreeFrom 18 = .ok (.istore_n 3, 1) := by decide +kernel
theorem dX3_firstFreeFrom_19 : decode cX3_firstFreeFrom 19 = .ok (.aload_n 0, 1) := by decide +kernel
theorem dX3_firstFreeFrom_20 : decode cX3_firstFreeFrom 20 = .ok (.getfield 9, 3) := by decide +kernel
theorem dX3_firstFreeFrom_23 : decode cX3_firstFreeFrom 23 = .ok (.iload_n 3, 1) := by decide +kernel
theorem dX3_firstFreeFrom_24 : decode cX3_firstFreeFrom 24 = .ok (.iaload, 1) := by decide +kernel
theorem dX3_firstFreeFrom_25 : decode cX3_firstFreeFrom 25 = .ok (.ifCond .ne 5, 3) := by decide +kernel
theorem dX3_firstFreeFrom_28 : decode cX3_firstFreeFrom 28 = .ok (.iload_n 3, 1) := by decide +kernel
theorem dX3_firstFreeFrom_29 : decode cX3_firstFreeFrom 29 = .ok (.ireturn, 1) := by decide +kernel
theorem dX3_firstFreeFrom_30 : decode cX3_firstFreeFrom 30 = .ok (.iinc 2 1, 3) := by decide +kernel
theorem dX3_firstFreeFrom_33 : decode cX3_firstFreeFrom 33 = .ok (.goto (-31), 3) := by decide +kernel
theorem dX3_firstFreeFrom_36 : decode cX3_firstFreeFrom 36 = .ok (.iconst (-1), 1) := by decide +kernel
theorem dX3_firstFreeFrom_37 : decode cX3_firstFreeFrom 37 = .ok (.ireturn, 1) := by decide +kernel
theorem dX3_lastFree_0 : decode cX3_lastFree 0 = .ok (.aload_n 0, 1) := by decide +kernel
theorem dX3_lastFree_1 : decode cX3_lastFree 1 = .ok (.getfield 24, 3) := by decide +kernel
theorem dX3_lastFree_4 : decode cX3_lastFree 4 = .ok (.iconst 1, 1) := by decide +kernel
theorem dX3_lastFree_5 : decode cX3_lastFree 5 = .ok (.isub, 1) := by decide +kernel
theorem dX3_lastFree_6 : decode cX3_lastFree 6 = .ok (.istore_n 1, 1) := by decide +kernel
theorem dX3_lastFree_7 : decode cX3_lastFree 7 = .ok (.iload_n 1, 1) := by decide +kernel
theorem dX3_lastFree_8 : decode cX3_lastFree 8 = .ok (.ifCond .lt 20, 3) := by decide +kernel
theorem dX3_lastFree_11 : decode cX3_lastFree 11 = .ok (.aload_n 0, 1) := by decide +kernel
theorem dX3_lastFree_12 : decode cX3_lastFree 12 = .ok (.getfield 9, 3) := by decide +kernel
theorem dX3_lastFree_15 : decode cX3_lastFree 15 = .ok (.iload_n 1, 1) := by decide +kernel
theorem dX3_lastFree_16 : decode cX3_lastFree 16 = .ok (.iaload, 1) := by decide +kernel
theorem dX3_lastFree_17 : decode cX3_lastFree 17 = .ok (.ifCond .ne 5, 3) := by decide +kernel
theorem dX3_lastFree_20 : decode cX3_lastFree 20 = .ok (.iload_n 1, 1) := by decide +kernel
theorem dX3_lastFree_21 : decode cX3_lastFree 21 = .ok (.ireturn, 1) := by decide +kernel
theorem dX3_lastFree_22 : decode cX3_lastFree 22 = .ok (.iinc 1 (-1), 3) := by decide +kernel
theorem dX3_lastFree_25 : decode cX3_lastFree 25 = .ok (.goto (-18), 3) := by decide +kernel
theorem dX3_lastFree_28 : decode cX3_lastFree 28 = .ok (.iconst (-1), 1) := by decide +kernel
theorem dX3_lastFree_29 : decode cX3_lastFree 29 = .ok (.ireturn, 1) := by decide +kernel
theorem dX3_longestFree_0 : decode cX3_longestFree 0 = .ok (.iconst (-1), 1) := by decide +kernel
theorem dX3_longestFree_1 : decode cX3_longestFree 1 = .ok (.istore_n 1, 1) := by decide +kernel
theorem dX3_longestFree_2 : decode cX3_longestFree 2 = .ok (.iconst 0, 1) := by decide +kernel
theorem dX3_longestFree_3 : decode cX3_longestFree 3 = .ok (.istore_n 2, 1) := by decide +kernel
theorem dX3_longestFree_4 : decode cX3_longestFree 4 = .ok (.iload_n 2, 1) := by decide +kernel
theorem dX3_longestFree_5 : decode cX3_longestFree 5 = .ok (.aload_n 0, 1) := by decide +kernel
theorem dX3_longestFree_6 : decode cX3_longestFree 6 = .ok (.getfield 24, 3) := by decide +kernel
theorem dX3_longestFree_9 : decode cX3_longestFree 9 = .ok (.if_icmp .ge 40, 3) := by decide +kernel
theorem dX3_longestFree_12 : decode cX3_longestFree 12 = .ok (.aload_n 0, 1) := by decide +kernel
theorem dX3_longestFree_13 : decode cX3_longestFree 13 = .ok (.getfield 9, 3) := by decide +kernel
theorem dX3_longestFree_16 : decode cX3_longestFree 16 = .ok (.iload_n 2, 1) := by decide +kernel
theorem dX3_longestFree_17 : decode cX3_longestFree 17 = .ok (.iaload, 1) := by decide +kernel
theorem dX3_longestFree_18 : decode cX3_longestFree 18 = .ok (.ifCond .ne 25, 3) := by decide +kernel
theorem dX3_longestFree_21 : decode cX3_longestFree 21 = .ok (.iload_n 1, 1) := by decide +kernel
theorem dX3_longestFree_22 : decode cX3_longestFree 22 = .ok (.iconst (-1), 1) := by decide +kernel
theorem dX3_longestFree_23 : decode cX3_longestFree 23 = .ok (.if_icmp .eq 18, 3) := by decide +kernel
theorem dX3_longestFree_26 : decode cX3_longestFree 26 = .ok (.aload_n 0, 1) := by decide +kernel
theorem dX3_longestFree_27 : decode cX3_longestFree 27 = .ok (.getfield 21, 3) := by decide +kernel
theorem dX3_longestFree_30 : decode cX3_longestFree 30 = .ok (.iload_n 2, 1) := by decide +kernel
theorem dX3_longestFree_31 : decode cX3_longestFree 31 = .ok (.iaload, 1) := by decide +kernel
theorem dX3_longestFree_32 : decode cX3_longestFree 32 = .ok (.aload_n 0, 1) := by decide +kernel
theorem dX3_longestFree_33 : decode cX3_longestFree 33 = .ok (.getfield 21, 3) := by decide +kernel
theorem dX3_longestFree_36 : decode cX3_longestFree 36 = .ok (.iload_n 1, 1) := by decide +kernel
theorem dX3_longestFree_37 : decode cX3_longestFree 37 = .ok (.iaload, 1) := by decide +kernel
theorem dX3_longestFree_38 : decode cX3_longestFree 38 = .ok (.if_icmp .ge 5, 3) := by decide +kernel
theorem dX3_longestFree_41 : decode cX3_longestFree 41 = .ok (.iload_n 2, 1) := by decide +kernel
theorem dX3_longestFree_42 : decode cX3_longestFree 42 = .ok (.istore_n 1, 1) := by decide +kernel
theorem dX3_longestFree_43 : decode cX3_longestFree 43 = .ok (.iinc 2 1, 3) := by decide +kernel
theorem dX3_longestFree_46 : decode cX3_longestFree 46 = .ok (.goto (-42), 3) := by decide +kernel
theorem dX3_longestFree_49 : decode cX3_longestFree 49 = .ok (.iload_n 1, 1) := by decide +kernel
theorem dX3_longestFree_50 : decode cX3_longestFree 50 = .ok (.ireturn, 1) := by decide +kernel
theorem dX3_hold_0 : decode cX3_hold 0 = .ok (.aload_n 0, 1) := by decide +kernel
theorem dX3_hold_1 : decode cX3_hold 1 = .ok (.getfield 9, 3) := by decide +kernel
theorem dX3_hold_4 : decode cX3_hold 4 = .ok (.iload_n 1, 1) := by decide +kernel
theorem dX3_hold_5 : decode cX3_hold 5 = .ok (.iconst 1, 1) := by decide +kernel
theorem dX3_hold_6 : decode cX3_hold 6 = .ok (.iastore, 1) := by decide +kernel
theorem dX3_hold_7 : decode cX3_hold 7 = .ok (.aload_n 0, 1) := by decide +kernel
theorem dX3_hold_8 : decode cX3_hold 8 = .ok (.getfield 15, 3) := by decide +kernel
theorem dX3_hold_11 : decode cX3_hold 11 = .ok (.iload_n 1, 1) := by decide +kernel
theorem dX3_hold_12 : decode cX3_hold 12 = .ok (.iload_n 2, 1) := by decide +kernel
theorem dX3_hold_13 : decode cX3_hold 13 = .ok (.iastore, 1) := by decide +kernel
theorem dX3_hold_14 : decode cX3_hold 14 = .ok (.aload_n 0, 1) := by decide +kernel
theorem dX3_hold_15 : decode cX3_hold 15 = .ok (.getfield 18, 3) := by decide +kernel
theorem dX3_hold_18 : decode cX3_hold 18 = .ok (.iload_n 1, 1) := by decide +kernel
theorem dX3_hold_19 : decode cX3_hold 19 = .ok (.iload_n 3, 1) := by decide +kernel
theorem dX3_hold_20 : decode cX3_hold 20 = .ok (.iastore, 1) := by decide +kernel
theorem dX3_hold_21 : decode cX3_hold 21 = .ok (.aload_n 0, 1) := by decide +kernel
theorem dX3_hold_22 : decode cX3_hold 22 = .ok (.iload_n 1, 1) := by decide +kernel
theorem dX3_hold_23 : decode cX3_hold 23 = .ok (.iconst 1, 1) := by decide +kernel
theorem dX3_hold_24 : decode cX3_hold 24 = .ok (.iadd, 1) := by decide +kernel
theorem dX3_hold_25 : decode cX3_hold 25 = .ok (.putfield 55, 3) := by decide +kernel
theorem dX3_hold_28 : decode cX3_hold 28 = .ok (.return_, 1) := by decide +kernel
theorem dX3_letGo_0 : decode cX3_letGo 0 = .ok (.aload_n 0, 1) := by decide +kernel
theorem dX3_letGo_1 : decode cX3_letGo 1 = .ok (.getfield 9, 3) := by decide +kernel
theorem dX3_letGo_4 : decode cX3_letGo 4 = .ok (.iload_n 1, 1) := by decide +kernel
theorem dX3_letGo_5 : decode cX3_letGo 5 = .ok (.iload_n 2, 1) := by decide +kernel
theorem dX3_letGo_6 : decode cX3_letGo 6 = .ok (.iastore, 1) := by decide +kernel
theorem dX3_letGo_7 : decode cX3_letGo 7 = .ok (.aload_n 0, 1) := by decide +kernel
theorem dX3_letGo_8 : decode cX3_letGo 8 = .ok (.getfield 15, 3) := by decide +kernel
theorem dX3_letGo_11 : decode cX3_letGo 11 = .ok (.iload_n 1, 1) := by decide +kernel
theorem dX3_letGo_12 : decode cX3_letGo 12 = .ok (.iconst (-1), 1) := by decide +kernel
theorem dX3_letGo_13 : decode cX3_letGo 13 = .ok (.iastore, 1) := by decide +kernel
theorem dX3_letGo_14 : decode cX3_letGo 14 = .ok (.aload_n 0, 1) := by decide +kernel
theorem dX3_letGo_15 : decode cX3_letGo 15 = .ok (.getfield 18, 3) := by decide +kernel
theorem dX3_letGo_18 : decode cX3_letGo 18 = .ok (.iload_n 1, 1) := by decide +kernel
theorem dX3_letGo_19 : decode cX3_letGo 19 = .ok (.iconst (-1), 1) := by decide +kernel
theorem dX3_letGo_20 : decode cX3_letGo 20 = .ok (.iastore, 1) := by decide +kernel
theorem dX3_letGo_21 : decode cX3_letGo 21 = .ok (.aload_n 0, 1) := by decide +kernel
theorem dX3_letGo_22 : decode cX3_letGo 22 = .ok (.getfield 21, 3) := by decide +kernel
theorem dX3_letGo_25 : decode cX3_letGo 25 = .ok (.iload_n 1, 1) := by decide +kernel
theorem dX3_letGo_26 : decode cX3_letGo 26 = .ok (.iload_n 3, 1) := by decide +kernel
theorem dX3_letGo_27 : decode cX3_letGo 27 = .ok (.iastore, 1) := by decide +kernel
theorem dX3_letGo_28 : decode cX3_letGo 28 = .ok (.return_, 1) := by decide +kernel
theorem dX4_init_0 : decode cX4_init 0 = .ok (.aload_n 0, 1) := by decide +kernel
theorem dX4_init_1 : decode cX4_init 1 = .ok (.invokespecial 3, 3) := by decide +kernel
theorem dX4_init_4 : decode cX4_init 4 = .ok (.aload_n 0, 1) := by decide +kernel
theorem dX4_init_5 : decode cX4_init 5 = .ok (.bipush 20, 2) := by decide +kernel
theorem dX4_init_7 : decode cX4_init 7 = .ok (.anewarray 9, 3) := by decide +kernel
theorem dX4_init_10 : decode cX4_init 10 = .ok (.putfield 11, 3) := by decide +kernel
theorem dX4_init_13 : decode cX4_init 13 = .ok (.iconst 0, 1) := by decide +kernel
theorem dX4_init_14 : decode cX4_init 14 = .ok (.istore_n 1, 1) := by decide +kernel
theorem dX4_init_15 : decode cX4_init 15 = .ok (.iload_n 1, 1) := by decide +kernel
theorem dX4_init_16 : decode cX4_init 16 = .ok (.bipush 20, 2) := by decide +kernel
theorem dX4_init_18 : decode cX4_init 18 = .ok (.if_icmp .ge 22, 3) := by decide +kernel
theorem dX4_init_21 : decode cX4_init 21 = .ok (.aload_n 0, 1) := by decide +kernel
theorem dX4_init_22 : decode cX4_init 22 = .ok (.getfield 11, 3) := by decide +kernel
theorem dX4_init_25 : decode cX4_init 25 = .ok (.iload_n 1, 1) := by decide +kernel
theorem dX4_init_26 : decode cX4_init 26 = .ok (.new 9, 3) := by decide +kernel
theorem dX4_init_29 : decode cX4_init 29 = .ok (.dup, 1) := by decide +kernel
theorem dX4_init_30 : decode cX4_init 30 = .ok (.invokespecial 17, 3) := by decide +kernel
theorem dX4_init_33 : decode cX4_init 33 = .ok (.aastore, 1) := by decide +kernel
theorem dX4_init_34 : decode cX4_init 34 = .ok (.iinc 1 1, 3) := by decide +kernel
theorem dX4_init_37 : decode cX4_init 37 = .ok (.goto (-22), 3) := by decide +kernel
theorem dX4_init_40 : decode cX4_init 40 = .ok (.return_, 1) := by decide +kernel
theorem dX4_remember_0 : decode cX4_remember 0 = .ok (.aload_n 0, 1) := by decide +kernel
theorem dX4_remember_1 : decode cX4_remember 1 = .ok (.getfield 11, 3) := by decide +kernel
theorem dX4_remember_4 : decode cX4_remember 4 = .ok (.aload_n 0, 1) := by decide +kernel
theorem dX4_remember_5 : decode cX4_remember 5 = .ok (.getfield 18, 3) := by decide +kernel
theorem dX4_remember_8 : decode cX4_remember 8 = .ok (.aaload, 1) := by decide +kernel
theorem dX4_remember_9 : decode cX4_remember 9 = .ok (.aload_n 1, 1) := by decide +kernel
theorem dX4_remember_10 : decode cX4_remember 10 = .ok (.invokevirtual 22, 3) := by decide +kernel
theorem dX4_remember_13 : decode cX4_remember 13 = .ok (.aload_n 0, 1) := by decide +kernel
theorem dX4_remember_14 : decode cX4_remember 14 = .ok (.aload_n 0, 1) := by decide +kernel
theorem dX4_remember_15 : decode cX4_remember 15 = .ok (.getfield 18, 3) := by decide +kernel
theorem dX4_remember_18 : decode cX4_remember 18 = .ok (.iconst 1, 1) := by decide +kernel
theorem dX4_remember_19 : decode cX4_remember 19 = .ok (.iadd, 1) := by decide +kernel
theorem dX4_remember_20 : decode cX4_remember 20 = .ok (.bipush 20, 2) := by decide +kernel
theorem dX4_remember_22 : decode cX4_remember 22 = .ok (.irem, 1) := by decide +kernel
theorem dX4_remember_23 : decode cX4_remember 23 = .ok (.putfield 18, 3) := by decide +kernel
theorem dX4_remember_26 : decode cX4_remember 26 = .ok (.aload_n 0, 1) := by decide +kernel
theorem dX4_remember_27 : decode cX4_remember 27 = .ok (.getfield 26, 3) := by decide +kernel
theorem dX4_remember_30 : decode cX4_remember 30 = .ok (.bipush 20, 2) := by decide +kernel
theorem dX4_remember_32 : decode cX4_remember 32 = .ok (.if_icmp .ge 13, 3) := by decide +kernel
theorem dX4_remember_35 : decode cX4_remember 35 = .ok (.aload_n 0, 1) := by decide +kernel
theorem dX4_remember_36 : decode cX4_remember 36 = .ok (.dup, 1) := by decide +kernel
theorem dX4_remember_37 : decode cX4_remember 37 = .ok (.getfield 26, 3) := by decide +kernel
theorem dX4_remember_40 : decode cX4_remember 40 = .ok (.iconst 1, 1) := by decide +kernel
theorem dX4_remember_41 : decode cX4_remember 41 = .ok (.iadd, 1) := by decide +kernel
theorem dX4_remember_42 : decode cX4_remember 42 = .ok (.putfield 26, 3) := by decide +kernel
theorem dX4_remember_45 : decode cX4_remember 45 = .ok (.return_, 1) := by decide +kernel
theorem dX4_forget_0 : decode cX4_forget 0 = .ok (.aload_n 0, 1) := by decide +kernel
theorem dX4_forget_1 : decode cX4_forget 1 = .ok (.iconst 0, 1) := by decide +kernel
theorem dX4_forget_2 : decode cX4_forget 2 = .ok (.putfield 26, 3) := by decide +kernel
theorem dX4_forget_5 : decode cX4_forget 5 = .ok (.return_, 1) := by decide +kernel
theorem dX4_takeBack_0 : decode cX4_takeBack 0 = .ok (.aload_n 0, 1) := by decide +kernel
theorem dX4_takeBack_1 : decode cX4_takeBack 1 = .ok (.aload_n 0, 1) := by decide +kernel
theorem dX4_takeBack_2 : decode cX4_takeBack 2 = .ok (.getfield 18, 3) := by decide +kernel
theorem dX4_takeBack_5 : decode cX4_takeBack 5 = .ok (.iload_n 1, 1) := by decide +kernel
theorem dX4_takeBack_6 : decode cX4_takeBack 6 = .ok (.isub, 1) := by decide +kernel
theorem dX4_takeBack_7 : decode cX4_takeBack 7 = .ok (.bipush 20, 2) := by decide +kernel
theorem dX4_takeBack_9 : decode cX4_takeBack 9 = .ok (.invokestatic 29, 3) := by decide +kernel
theorem dX4_takeBack_12 : decode cX4_takeBack 12 = .ok (.putfield 18, 3) := by decide +kernel
theorem dX4_takeBack_15 : decode cX4_takeBack 15 = .ok (.aload_n 0, 1) := by decide +kernel
theorem dX4_takeBack_16 : decode cX4_takeBack 16 = .ok (.dup, 1) := by decide +kernel
theorem dX4_takeBack_17 : decode cX4_takeBack 17 = .ok (.getfield 26, 3) := by decide +kernel
theorem dX4_takeBack_20 : decode cX4_takeBack 20 = .ok (.iload_n 1, 1) := by decide +kernel
theorem dX4_takeBack_21 : decode cX4_takeBack 21 = .ok (.isub, 1) := by decide +kernel
theorem dX4_takeBack_22 : decode cX4_takeBack 22 = .ok (.putfield 26, 3) := by decide +kernel
theorem dX4_takeBack_25 : decode cX4_takeBack 25 = .ok (.aload_n 2, 1) := by decide +kernel
theorem dX4_takeBack_26 : decode cX4_takeBack 26 = .ok (.aload_n 0, 1) := by decide +kernel
theorem dX4_takeBack_27 : decode cX4_takeBack 27 = .ok (.getfield 11, 3) := by decide +kernel
theorem dX4_takeBack_30 : decode cX4_takeBack 30 = .ok (.aload_n 0, 1) := by decide +kernel
theorem dX4_takeBack_31 : decode cX4_takeBack 31 = .ok (.getfield 18, 3) := by decide +kernel
theorem dX4_takeBack_34 : decode cX4_takeBack 34 = .ok (.aaload, 1) := by decide +kernel
theorem dX4_takeBack_35 : decode cX4_takeBack 35 = .ok (.invokevirtual 22, 3) := by decide +kernel
theorem dX4_takeBack_38 : decode cX4_takeBack 38 = .ok (.return_, 1) := by decide +kernel
theorem dX5_init_0 : decode cX5_init 0 = .ok (.aload_n 0, 1) := by decide +kernel
theorem dX5_init_1 : decode cX5_init 1 = .ok (.invokespecial 1, 3) := by decide +kernel
theorem dX5_init_4 : decode cX5_init 4 = .ok (.aload_n 0, 1) := by decide +kernel
theorem dX5_init_5 : decode cX5_init 5 = .ok (.new 7, 3) := by decide +kernel
theorem dX5_init_8 : decode cX5_init 8 = .ok (.dup, 1) := by decide +kernel
theorem dX5_init_9 : decode cX5_init 9 = .ok (.invokespecial 9, 3) := by decide +kernel
theorem dX5_init_12 : decode cX5_init 12 = .ok (.putfield 10, 3) := by decide +kernel
theorem dX5_init_15 : decode cX5_init 15 = .ok (.return_, 1) := by decide +kernel
theorem dX5_take_0 : decode cX5_take 0 = .ok (.aload_n 0, 1) := by decide +kernel
theorem dX5_take_1 : decode cX5_take 1 = .ok (.getfield 10, 3) := by decide +kernel
theorem dX5_take_4 : decode cX5_take 4 = .ok (.aload_n 1, 1) := by decide +kernel
theorem dX5_take_5 : decode cX5_take 5 = .ok (.invokevirtual 16, 3) := by decide +kernel
theorem dX5_take_8 : decode cX5_take 8 = .ok (.aload_n 0, 1) := by decide +kernel
theorem dX5_take_9 : decode cX5_take 9 = .ok (.aload_n 2, 1) := by decide +kernel
theorem dX5_take_10 : decode cX5_take 10 = .ok (.getfield 20, 3) := by decide +kernel
theorem dX5_take_13 : decode cX5_take 13 = .ok (.putfield 26, 3) := by decide +kernel
theorem dX5_take_16 : decode cX5_take 16 = .ok (.aload_n 0, 1) := by decide +kernel
theorem dX5_take_17 : decode cX5_take 17 = .ok (.iconst 1, 1) := by decide +kernel
theorem dX5_take_18 : decode cX5_take 18 = .ok (.putfield 29, 3) := by decide +kernel
theorem dX5_take_21 : decode cX5_take 21 = .ok (.return_, 1) := by decide +kernel
theorem dX5_give_0 : decode cX5_give 0 = .ok (.aload_n 1, 1) := by decide +kernel
theorem dX5_give_1 : decode cX5_give 1 = .ok (.aload_n 0, 1) := by decide +kernel
theorem dX5_give_2 : decode cX5_give 2 = .ok (.getfield 10, 3) := by decide +kernel
theorem dX5_give_5 : decode cX5_give 5 = .ok (.invokevirtual 16, 3) := by decide +kernel
theorem dX5_give_8 : decode cX5_give 8 = .ok (.aload_n 2, 1) := by decide +kernel
theorem dX5_give_9 : decode cX5_give 9 = .ok (.aload_n 0, 1) := by decide +kernel
theorem dX5_give_10 : decode cX5_give 10 = .ok (.getfield 26, 3) := by decide +kernel
theorem dX5_give_13 : decode cX5_give 13 = .ok (.putfield 20, 3) := by decide +kernel
theorem dX5_give_16 : decode cX5_give 16 = .ok (.return_, 1) := by decide +kernel
theorem dX6_init_0 : decode cX6_init 0 = .ok (.aload_n 0, 1) := by decide +kernel
theorem dX6_init_1 : decode cX6_init 1 = .ok (.invokespecial 3, 3) := by decide +kernel
theorem dX6_init_4 : decode cX6_init 4 = .ok (.aload_n 0, 1) := by decide +kernel
theorem dX6_init_5 : decode cX6_init 5 = .ok (.iconst 4, 1) := by decide +kernel
theorem dX6_init_6 : decode cX6_init 6 = .ok (.anewarray 9, 3) := by decide +kernel
theorem dX6_init_9 : decode cX6_init 9 = .ok (.putfield 11, 3) := by decide +kernel
theorem dX6_init_12 : decode cX6_init 12 = .ok (.iconst 0, 1) := by decide +kernel
theorem dX6_init_13 : decode cX6_init 13 = .ok (.istore_n 1, 1) := by decide +kernel
theorem dX6_init_14 : decode cX6_init 14 = .ok (.iload_n 1, 1) := by decide +kernel
theorem dX6_init_15 : decode cX6_init 15 = .ok (.iconst 4, 1) := by decide +kernel
theorem dX6_init_16 : decode cX6_init 16 = .ok (.if_icmp .ge 22, 3) := by decide +kernel
theorem dX6_init_19 : decode cX6_init 19 = .ok (.aload_n 0, 1) := by decide +kernel
theorem dX6_init_20 : decode cX6_init 20 = .ok (.getfield 11, 3) := by decide +kernel
theorem dX6_init_23 : decode cX6_init 23 = .ok (.iload_n 1, 1) := by decide +kernel
theorem dX6_init_24 : decode cX6_init 24 = .ok (.new 9, 3) := by decide +kernel
theorem dX6_init_27 : decode cX6_init 27 = .ok (.dup, 1) := by decide +kernel
theorem dX6_init_28 : decode cX6_init 28 = .ok (.invokespecial 17, 3) := by decide +kernel
theorem dX6_init_31 : decode cX6_init 31 = .ok (.aastore, 1) := by decide +kernel
theorem dX6_init_32 : decode cX6_init 32 = .ok (.iinc 1 1, 3) := by decide +kernel
theorem dX6_init_35 : decode cX6_init 35 = .ok (.goto (-21), 3) := by decide +kernel
theorem dX6_init_38 : decode cX6_init 38 = .ok (.aload_n 0, 1) := by decide +kernel
theorem dX6_init_39 : decode cX6_init 39 = .ok (.iconst 2, 1) := by decide +kernel
theorem dX6_init_40 : decode cX6_init 40 = .ok (.invokevirtual 18, 3) := by decide +kernel
theorem dX6_init_43 : decode cX6_init 43 = .ok (.return_, 1) := by decide +kernel
theorem dX6_begin_0 : decode cX6_begin 0 = .ok (.aload_n 0, 1) := by decide +kernel
theorem dX6_begin_1 : decode cX6_begin 1 = .ok (.iload_n 1, 1) := by decide +kernel
theorem dX6_begin_2 : decode cX6_begin 2 = .ok (.putfield 22, 3) := by decide +kernel
theorem dX6_begin_5 : decode cX6_begin 5 = .ok (.aload_n 0, 1) := by decide +kernel
theorem dX6_begin_6 : decode cX6_begin 6 = .ok (.iconst 0, 1) := by decide +kernel
theorem dX6_begin_7 : decode cX6_begin 7 = .ok (.putfield 26, 3) := by decide +kernel
theorem dX6_begin_10 : decode cX6_begin 10 = .ok (.aload_n 0, 1) := by decide +kernel
theorem dX6_begin_11 : decode cX6_begin 11 = .ok (.iconst 0, 1) := by decide +kernel
theorem dX6_begin_12 : decode cX6_begin 12 = .ok (.putfield 29, 3) := by decide +kernel
theorem dX6_begin_15 : decode cX6_begin 15 = .ok (.iconst 0, 1) := by decide +kernel
theorem dX6_begin_16 : decode cX6_begin 16 = .ok (.istore_n 2, 1) := by decide +kernel
theorem dX6_begin_17 : decode cX6_begin 17 = .ok (.iload_n 2, 1) := by decide +kernel
theorem dX6_begin_18 : decode cX6_begin 18 = .ok (.iconst 4, 1) := by decide +kernel
theorem dX6_begin_19 : decode cX6_begin 19 = .ok (.if_icmp .ge 18, 3) := by decide +kernel
theorem dX6_begin_22 : decode cX6_begin 22 = .ok (.aload_n 0, 1) := by decide +kernel
theorem dX6_begin_23 : decode cX6_begin 23 = .ok (.getfield 11, 3) := by decide +kernel
theorem dX6_begin_26 : decode cX6_begin 26 = .ok (.iload_n 2, 1) := by decide +kernel
theorem dX6_begin_27 : decode cX6_begin 27 = .ok (.aaload, 1) := by decide +kernel
theorem dX6_begin_28 : decode cX6_begin 28 = .ok (.invokevirtual 32, 3) := by decide +kernel
theorem dX6_begin_31 : decode cX6_begin 31 = .ok (.iinc 2 1, 3) := by decide +kernel
theorem dX6_begin_34 : decode cX6_begin 34 = .ok (.goto (-17), 3) := by decide +kernel
theorem dX6_begin_37 : decode cX6_begin 37 = .ok (.return_, 1) := by decide +kernel
theorem dX6_copyFrom_0 : decode cX6_copyFrom 0 = .ok (.aload_n 0, 1) := by decide +kernel
theorem dX6_copyFrom_1 : decode cX6_copyFrom 1 = .ok (.aload_n 1, 1) := by decide +kernel
theorem dX6_copyFrom_2 : decode cX6_copyFrom 2 = .ok (.getfield 22, 3) := by decide +kernel
theorem dX6_copyFrom_5 : decode cX6_copyFrom 5 = .ok (.putfield 22, 3) := by decide +kernel
theorem dX6_copyFrom_8 : decode cX6_copyFrom 8 = .ok (.aload_n 0, 1) := by decide +kernel
theorem dX6_copyFrom_9 : decode cX6_copyFrom 9 = .ok (.aload_n 1, 1) := by decide +kernel
theorem dX6_copyFrom_10 : decode cX6_copyFrom 10 = .ok (.getfield 26, 3) := by decide +kernel
theorem dX6_copyFrom_13 : decode cX6_copyFrom 13 = .ok (.putfield 26, 3) := by decide +kernel
theorem dX6_copyFrom_16 : decode cX6_copyFrom 16 = .ok (.aload_n 0, 1) := by decide +kernel
theorem dX6_copyFrom_17 : decode cX6_copyFrom 17 = .ok (.aload_n 1, 1) := by decide +kernel
theorem dX6_copyFrom_18 : decode cX6_copyFrom 18 = .ok (.getfield 29, 3) := by decide +kernel
theorem dX6_copyFrom_21 : decode cX6_copyFrom 21 = .ok (.putfield 29, 3) := by decide +kernel
theorem dX6_copyFrom_24 : decode cX6_copyFrom 24 = .ok (.iconst 0, 1) := by decide +kernel
theorem dX6_copyFrom_25 : decode cX6_copyFrom 25 = .ok (.istore_n 2, 1) := by decide +kernel
theorem dX6_copyFrom_26 : decode cX6_copyFrom 26 = .ok (.iload_n 2, 1) := by decide +kernel
theorem dX6_copyFrom_27 : decode cX6_copyFrom 27 = .ok (.iconst 4, 1) := by decide +kernel
theorem dX6_copyFrom_28 : decode cX6_copyFrom 28 = .ok (.if_icmp .ge 24, 3) := by decide +kernel
theorem dX6_copyFrom_31 : decode cX6_copyFrom 31 = .ok (.aload_n 0, 1) := by decide +kernel
theorem dX6_copyFrom_32 : decode cX6_copyFrom 32 = .ok (.getfield 11, 3) := by decide +kernel
theorem dX6_copyFrom_35 : decode cX6_copyFrom 35 = .ok (.iload_n 2, 1) := by decide +kernel
theorem dX6_copyFrom_36 : decode cX6_copyFrom 36 = .ok (.aaload, 1) := by decide +kernel
theorem dX6_copyFrom_37 : decode cX6_copyFrom 37 = .ok (.aload_n 1, 1) := by decide +kernel
theorem dX6_copyFrom_38 : decode cX6_copyFrom 38 = .ok (.getfield 11, 3) := by decide +kernel
theorem dX6_copyFrom_41 : decode cX6_copyFrom 41 = .ok (.iload_n 2, 1) := by decide +kernel
theorem dX6_copyFrom_42 : decode cX6_copyFrom 42 = .ok (.aaload, 1) := by decide +kernel
theorem dX6_copyFrom_43 : decode cX6_copyFrom 43 = .ok (.invokevirtual 34, 3) := by decide +kernel
theorem dX6_copyFrom_46 : decode cX6_copyFrom 46 = .ok (.iinc 2 1, 3) := by decide +kernel
theorem dX6_copyFrom_49 : decode cX6_copyFrom 49 = .ok (.goto (-23), 3) := by decide +kernel
theorem dX6_copyFrom_52 : decode cX6_copyFrom 52 = .ok (.return_, 1) := by decide +kernel
theorem dX6_groupAt_0 : decode cX6_groupAt 0 = .ok (.iload_n 1, 1) := by decide +kernel
theorem dX6_groupAt_1 : decode cX6_groupAt 1 = .ok (.ifCond .lt 20, 3) := by decide +kernel
theorem dX6_groupAt_4 : decode cX6_groupAt 4 = .ok (.iload_n 1, 1) := by decide +kernel
theorem dX6_groupAt_5 : decode cX6_groupAt 5 = .ok (.aload_n 0, 1) := by decide +kernel
theorem dX6_groupAt_6 : decode cX6_groupAt 6 = .ok (.getfield 22, 3) := by decide +kernel
theorem dX6_groupAt_9 : decode cX6_groupAt 9 = .ok (.if_icmp .ge 12, 3) := by decide +kernel
theorem dX6_groupAt_12 : decode cX6_groupAt 12 = .ok (.aload_n 0, 1) := by decide +kernel
theorem dX6_groupAt_13 : decode cX6_groupAt 13 = .ok (.getfield 11, 3) := by decide +kernel
theorem dX6_groupAt_16 : decode cX6_groupAt 16 = .ok (.iload_n 1, 1) := by decide +kernel
theorem dX6_groupAt_17 : decode cX6_groupAt 17 = .ok (.aaload, 1) := by decide +kernel
theorem dX6_groupAt_18 : decode cX6_groupAt 18 = .ok (.goto 4, 3) := by decide +kernel
theorem dX6_groupAt_21 : decode cX6_groupAt 21 = .ok (.aconst_null, 1) := by decide +kernel
theorem dX6_groupAt_22 : decode cX6_groupAt 22 = .ok (.areturn, 1) := by decide +kernel
theorem dX6_groupWithLine_0 : decode cX6_groupWithLine 0 = .ok (.aload_n 0, 1) := by decide +kernel
theorem dX6_groupWithLine_1 : decode cX6_groupWithLine 1 = .ok (.iload_n 1, 1) := by decide +kernel
theorem dX6_groupWithLine_2 : decode cX6_groupWithLine 2 = .ok (.invokevirtual 38, 3) := by decide +kernel
theorem dX6_groupWithLine_5 : decode cX6_groupWithLine 5 = .ok (.astore_n 3, 1) := by decide +kernel
theorem dX6_groupWithLine_6 : decode cX6_groupWithLine 6 = .ok (.aload_n 3, 1) := by decide +kernel
theorem dX6_groupWithLine_7 : decode cX6_groupWithLine 7 = .ok (.ifnull 15, 3) := by decide +kernel
theorem dX6_groupWithLine_10 : decode cX6_groupWithLine 10 = .ok (.aload_n 3, 1) := by decide +kernel
theorem dX6_groupWithLine_11 : decode cX6_groupWithLine 11 = .ok (.iload_n 2, 1) := by decide +kernel
theorem dX6_groupWithLine_12 : decode cX6_groupWithLine 12 = .ok (.invokevirtual 42, 3) := by decide +kernel
theorem dX6_groupWithLine_15 : decode cX6_groupWithLine 15 = .ok (.ifCond .eq 7, 3) := by decide +kernel
theorem dX6_groupWithLine_18 : decode cX6_groupWithLine 18 = .ok (.aload_n 3, 1) := by decide +kernel
theorem dX6_groupWithLine_19 : decode cX6_groupWithLine 19 = .ok (.goto 4, 3) := by decide +kernel
theorem dX6_groupWithLine_22 : decode cX6_groupWithLine 22 = .ok (.aconst_null, 1) := by decide +kernel
theorem dX6_groupWithLine_23 : decode cX6_groupWithLine 23 = .ok (.areturn, 1) := by decide +kernel
theorem dX6_heldLines_0 : decode cX6_heldLines 0 = .ok (.iconst 0, 1) := by decide +kernel
theorem dX6_heldLines_1 : decode cX6_heldLines 1 = .ok (.istore_n 1, 1) := by decide +kernel
theorem dX6_heldLines_2 : decode cX6_heldLines 2 = .ok (.iconst 0, 1) := by decide +kernel
theorem dX6_heldLines_3 : decode cX6_heldLines 3 = .ok (.istore_n 2, 1) := by decide +kernel
theorem dX6_heldLines_4 : decode cX6_heldLines 4 = .ok (.iload_n 2, 1) := by decide +kernel
theorem dX6_heldLines_5 : decode cX6_heldLines 5 = .ok (.aload_n 0, 1) := by decide +kernel
theorem dX6_heldLines_6 : decode cX6_heldLines 6 = .ok (.getfield 22, 3) := by decide +kernel
theorem dX6_heldLines_9 : decode cX6_heldLines 9 = .ok (.if_icmp .ge 22, 3) := by decide +kernel
theorem dX6_heldLines_12 : decode cX6_heldLines 12 = .ok (.iload_n 1, 1) := by decide +kernel
theorem dX6_heldLines_13 : decode cX6_heldLines 13 = .ok (.aload_n 0, 1) := by decide +kernel
theorem dX6_heldLines_14 : decode cX6_heldLines 14 = .ok (.getfield 11, 3) := by decide +kernel
theorem dX6_heldLines_17 : decode cX6_heldLines 17 = .ok (.iload_n 2, 1) := by decide +kernel
theorem dX6_heldLines_18 : decode cX6_heldLines 18 = .ok (.aaload, 1) := by decide +kernel
theorem dX6_heldLines_19 : decode cX6_heldLines 19 = .ok (.iconst 1, 1) := by decide +kernel
theorem dX6_heldLines_20 : decode cX6_heldLines 20 = .ok (.invokevirtual 46, 3) := by decide +kernel
theorem dX6_heldLines_23 : decode cX6_heldLines 23 = .ok (.iadd, 1) := by decide +kernel
theorem dX6_heldLines_24 : decode cX6_heldLines 24 = .ok (.istore_n 1, 1) := by decide +kernel
theorem dX6_heldLines_25 : decode cX6_heldLines 25 = .ok (.iinc 2 1, 3) := by decide +kernel
theorem dX6_heldLines_28 : decode cX6_heldLines 28 = .ok (.goto (-24), 3) := by decide +kernel
theorem dX6_heldLines_31 : decode cX6_heldLines 31 = .ok (.iload_n 1, 1) := by decide +kernel
theorem dX6_heldLines_32 : decode cX6_heldLines 32 = .ok (.ireturn, 1) := by decide +kernel
theorem dX6_lostCalls_0 : decode cX6_lostCalls 0 = .ok (.iconst 0, 1) := by decide +kernel
theorem dX6_lostCalls_1 : decode cX6_lostCalls 1 = .ok (.istore_n 1, 1) := by decide +kernel
theorem dX6_lostCalls_2 : decode cX6_lostCalls 2 = .ok (.iconst 0, 1) := by decide +kernel
theorem dX6_lostCalls_3 : decode cX6_lostCalls 3 = .ok (.istore_n 2, 1) := by decide +kernel
theorem dX6_lostCalls_4 : decode cX6_lostCalls 4 = .ok (.iload_n 2, 1) := by decide +kernel
theorem dX6_lostCalls_5 : decode cX6_lostCalls 5 = .ok (.aload_n 0, 1) := by decide +kernel
theorem dX6_lostCalls_6 : decode cX6_lostCalls 6 = .ok (.getfield 22, 3) := by decide +kernel
theorem dX6_lostCalls_9 : decode cX6_lostCalls 9 = .ok (.if_icmp .ge 21, 3) := by decide +kernel
theorem dX6_lostCalls_12 : decode cX6_lostCalls 12 = .ok (.iload_n 1, 1) := by decide +kernel
theorem dX6_lostCalls_13 : decode cX6_lostCalls 13 = .ok (.aload_n 0, 1) := by decide +kernel
theorem dX6_lostCalls_14 : decode cX6_lostCalls 14 = .ok (.getfield 11, 3) := by decide +kernel
theorem dX6_lostCalls_17 : decode cX6_lostCalls 17 = .ok (.iload_n 2, 1) := by decide +kernel
theorem dX6_lostCalls_18 : decode cX6_lostCalls 18 = .ok (.aaload, 1) := by decide +kernel
theorem dX6_lostCalls_19 : decode cX6_lostCalls 19 = .ok (.getfield 50, 3) := by decide +kernel
theorem dX6_lostCalls_22 : decode cX6_lostCalls 22 = .ok (.iadd, 1) := by decide +kernel
theorem dX6_lostCalls_23 : decode cX6_lostCalls 23 = .ok (.istore_n 1, 1) := by decide +kernel
theorem dX6_lostCalls_24 : decode cX6_lostCalls 24 = .ok (.iinc 2 1, 3) := by decide +kernel
theorem dX6_lostCalls_27 : decode cX6_lostCalls 27 = .ok (.goto (-23), 3) := by decide +kernel
theorem dX6_lostCalls_30 : decode cX6_lostCalls 30 = .ok (.iload_n 1, 1) := by decide +kernel
theorem dX6_lostCalls_31 : decode cX6_lostCalls 31 = .ok (.ireturn, 1) := by decide +kernel
theorem dX6_nextPlace_0 : decode cX6_nextPlace 0 = .ok (.aload_n 0, 1) := by decide +kernel
theorem dX6_nextPlace_1 : decode cX6_nextPlace 1 = .ok (.iload_n 1, 1) := by decide +kernel
theorem dX6_nextPlace_2 : decode cX6_nextPlace 2 = .ok (.invokevirtual 38, 3) := by decide +kernel
theorem dX6_nextPlace_5 : decode cX6_nextPlace 5 = .ok (.astore_n 2, 1) := by decide +kernel
theorem dX6_nextPlace_6 : decode cX6_nextPlace 6 = .ok (.aload_n 2, 1) := by decide +kernel
theorem dX6_nextPlace_7 : decode cX6_nextPlace 7 = .ok (.ifnonnull 5, 3) := by decide +kernel
theorem dX6_nextPlace_10 : decode cX6_nextPlace 10 = .ok (.iconst (-1), 1) := by decide +kernel
theorem dX6_nextPlace_11 : decode cX6_nextPlace 11 = .ok (.ireturn, 1) := by decide +kernel
theorem dX6_nextPlace_12 : decode cX6_nextPlace 12 = .ok (.aload_n 2, 1) := by decide +kernel
theorem dX6_nextPlace_13 : decode cX6_nextPlace 13 = .ok (.invokevirtual 53, 3) := by decide +kernel
theorem dX6_nextPlace_16 : decode cX6_nextPlace 16 = .ok (.istore_n 3, 1) := by decide +kernel
theorem dX6_nextPlace_17 : decode cX6_nextPlace 17 = .ok (.iload_n 3, 1) := by decide +kernel
theorem dX6_nextPlace_18 : decode cX6_nextPlace 18 = .ok (.iconst (-1), 1) := by decide +kernel
theorem dX6_nextPlace_19 : decode cX6_nextPlace 19 = .ok (.if_icmp .eq 10, 3) := by decide +kernel
theorem dX6_nextPlace_22 : decode cX6_nextPlace 22 = .ok (.bipush 10, 2) := by decide +kernel
theorem dX6_nextPlace_24 : decode cX6_nextPlace 24 = .ok (.iload_n 1, 1) := by decide +kernel
theorem dX6_nextPlace_25 : decode cX6_nextPlace 25 = .ok (.imul, 1) := by decide +kernel
theorem dX6_nextPlace_26 : decode cX6_nextPlace 26 = .ok (.iload_n 3, 1) := by decide +kernel
theorem dX6_nextPlace_27 : decode cX6_nextPlace 27 = .ok (.iadd, 1) := by decide +kernel
theorem dX6_nextPlace_28 : decode cX6_nextPlace 28 = .ok (.ireturn, 1) := by decide +kernel
theorem dX6_nextPlace_29 : decode cX6_nextPlace 29 = .ok (.aload_n 0, 1) := by decide +kernel
theorem dX6_nextPlace_30 : decode cX6_nextPlace 30 = .ok (.aload_n 2, 1) := by decide +kernel
theorem dX6_nextPlace_31 : decode cX6_nextPlace 31 = .ok (.getfield 57, 3) := by decide +kernel
theorem dX6_nextPlace_34 : decode cX6_nextPlace 34 = .ok (.invokevirtual 38, 3) := by decide +kernel
theorem dX6_nextPlace_37 : decode cX6_nextPlace 37 = .ok (.astore 4, 2) := by decide +kernel
theorem dX6_nextPlace_39 : decode cX6_nextPlace 39 = .ok (.aload 4, 2) := by decide +kernel
theorem dX6_nextPlace_41 : decode cX6_nextPlace 41 = .ok (.ifnull 17, 3) := by decide +kernel
theorem dX6_nextPlace_44 : decode cX6_nextPlace 44 = .ok (.aload 4, 2) := by decide +kernel
theorem dX6_nextPlace_46 : decode cX6_nextPlace 46 = .ok (.iconst 0, 1) := by decide +kernel
theorem dX6_nextPlace_47 : decode cX6_nextPlace 47 = .ok (.invokevirtual 46, 3) := by decide +kernel
theorem dX6_nextPlace_50 : decode cX6_nextPlace 50 = .ok (.aload 4, 2) := by decide +kernel
theorem dX6_nextPlace_52 : decode cX6_nextPlace 52 = .ok (.getfield 60, 3) := by decide +kernel
theorem dX6_nextPlace_55 : decode cX6_nextPlace 55 = .ok (.if_icmp .gt 5, 3) := by decide +kernel
theorem dX6_nextPlace_58 : decode cX6_nextPlace 58 = .ok (.iconst (-1), 1) := by decide +kernel
theorem dX6_nextPlace_59 : decode cX6_nextPlace 59 = .ok (.ireturn, 1) := by decide +kernel
theorem dX6_nextPlace_60 : decode cX6_nextPlace 60 = .ok (.bipush 10, 2) := by decide +kernel
theorem dX6_nextPlace_62 : decode cX6_nextPlace 62 = .ok (.aload_n 2, 1) := by decide +kernel
theorem dX6_nextPlace_63 : decode cX6_nextPlace 63 = .ok (.getfield 57, 3) := by decide +kernel
theorem dX6_nextPlace_66 : decode cX6_nextPlace 66 = .ok (.imul, 1) := by decide +kernel
theorem dX6_nextPlace_67 : decode cX6_nextPlace 67 = .ok (.aload 4, 2) := by decide +kernel
theorem dX6_nextPlace_69 : decode cX6_nextPlace 69 = .ok (.invokevirtual 53, 3) := by decide +kernel
theorem dX6_nextPlace_72 : decode cX6_nextPlace 72 = .ok (.iadd, 1) := by decide +kernel
theorem dX6_nextPlace_73 : decode cX6_nextPlace 73 = .ok (.ireturn, 1) := by decide +kernel
theorem dX6_placeCall_0 : decode cX6_placeCall 0 = .ok (.aload_n 0, 1) := by decide +kernel
theorem dX6_placeCall_1 : decode cX6_placeCall 1 = .ok (.iload_n 1, 1) := by decide +kernel
theorem dX6_placeCall_2 : decode cX6_placeCall 2 = .ok (.invokevirtual 38, 3) := by decide +kernel
theorem dX6_placeCall_5 : decode cX6_placeCall 5 = .ok (.astore_n 2, 1) := by decide +kernel
theorem dX6_placeCall_6 : decode cX6_placeCall 6 = .ok (.aload_n 2, 1) := by decide +kernel
theorem dX6_placeCall_7 : decode cX6_placeCall 7 = .ok (.ifnonnull 5, 3) := by decide +kernel
theorem dX6_placeCall_10 : decode cX6_placeCall 10 = .ok (.iconst (-1), 1) := by decide +kernel
theorem dX6_placeCall_11 : decode cX6_placeCall 11 = .ok (.ireturn, 1) := by decide +kernel
theorem dX6_placeCall_12 : decode cX6_placeCall 12 = .ok (.aload_n 0, 1) := by decide +kernel
theorem dX6_placeCall_13 : decode cX6_placeCall 13 = .ok (.iload_n 1, 1) := by decide +kernel
theorem dX6_placeCall_14 : decode cX6_placeCall 14 = .ok (.invokevirtual 63, 3) := by decide +kernel
theorem dX6_placeCall_17 : decode cX6_placeCall 17 = .ok (.istore_n 3, 1) := by decide +kernel
theorem dX6_placeCall_18 : decode cX6_placeCall 18 = .ok (.aload_n 0, 1) := by decide +kernel
theorem dX6_placeCall_19 : decode cX6_placeCall 19 = .ok (.getfield 29, 3) := by decide +kernel
theorem dX6_placeCall_22 : decode cX6_placeCall 22 = .ok (.istore 4, 2) := by decide +kernel
theorem dX6_placeCall_24 : decode cX6_placeCall 24 = .ok (.aload_n 0, 1) := by decide +kernel
theorem dX6_placeCall_25 : decode cX6_placeCall 25 = .ok (.dup, 1) := by decide +kernel
theorem dX6_placeCall_26 : decode cX6_placeCall 26 = .ok (.getfield 29, 3) := by decide +kernel
theorem dX6_placeCall_29 : decode cX6_placeCall 29 = .ok (.iconst 1, 1) := by decide +kernel
theorem dX6_placeCall_30 : decode cX6_placeCall 30 = .ok (.iadd, 1) := by decide +kernel
theorem dX6_placeCall_31 : decode cX6_placeCall 31 = .ok (.putfield 29, 3) := by decide +kernel
theorem dX6_placeCall_34 : decode cX6_placeCall 34 = .ok (.aload_n 0, 1) := by decide +kernel
theorem dX6_placeCall_35 : decode cX6_placeCall 35 = .ok (.dup, 1) := by decide +kernel
theorem dX6_placeCall_36 : decode cX6_placeCall 36 = .ok (.getfield 26, 3) := by decide +kernel
theorem dX6_placeCall_39 : decode cX6_placeCall 39 = .ok (.iconst 1, 1) := by decide +kernel
theorem dX6_placeCall_40 : decode cX6_placeCall 40 = .ok (.iadd, 1) := by decide +kernel
theorem dX6_placeCall_41 : decode cX6_placeCall 41 = .ok (.putfield 26, 3) := by decide +kernel
theorem dX6_placeCall_44 : decode cX6_placeCall 44 = .ok (.aload_n 2, 1) := by decide +kernel
theorem dX6_placeCall_45 : decode cX6_placeCall 45 = .ok (.dup, 1) := by decide +kernel
theorem dX6_placeCall_46 : decode cX6_placeCall 46 = .ok (.getfield 66, 3) := by decide +kernel
theorem dX6_placeCall_49 : decode cX6_placeCall 49 = .ok (.iconst 1, 1) := by decide +kernel
theorem dX6_placeCall_50 : decode cX6_placeCall 50 = .ok (.iadd, 1) := by decide +kernel
theorem dX6_placeCall_51 : decode cX6_placeCall 51 = .ok (.putfield 66, 3) := by decide +kernel
theorem dX6_placeCall_54 : decode cX6_placeCall 54 = .ok (.iload_n 3, 1) := by decide +kernel
theorem dX6_placeCall_55 : decode cX6_placeCall 55 = .ok (.bipush 10, 2) := by decide +kernel
theorem dX6_placeCall_57 : decode cX6_placeCall 57 = .ok (.idiv, 1) := by decide +kernel
theorem dX6_placeCall_58 : decode cX6_placeCall 58 = .ok (.istore 5, 2) := by decide +kernel
theorem dX6_placeCall_60 : decode cX6_placeCall 60 = .ok (.iload_n 3, 1) := by decide +kernel
theorem dX6_placeCall_61 : decode cX6_placeCall 61 = .ok (.bipush 10, 2) := by decide +kernel
theorem dX6_placeCall_63 : decode cX6_placeCall 63 = .ok (.irem, 1) := by decide +kernel
theorem dX6_placeCall_64 : decode cX6_placeCall 64 = .ok (.istore 6, 2) := by decide +kernel
theorem dX6_placeCall_66 : decode cX6_placeCall 66 = .ok (.iload_n 3, 1) := by decide +kernel
theorem dX6_placeCall_67 : decode cX6_placeCall 67 = .ok (.iconst (-1), 1) := by decide +kernel
theorem dX6_placeCall_68 : decode cX6_placeCall 68 = .ok (.if_icmp .ne 7, 3) := by decide +kernel
theorem dX6_placeCall_71 : decode cX6_placeCall 71 = .ok (.aconst_null, 1) := by decide +kernel
theorem dX6_placeCall_72 : decode cX6_placeCall 72 = .ok (.goto 11, 3) := by decide +kernel
theorem dX6_placeCall_75 : decode cX6_placeCall 75 = .ok (.aload_n 0, 1) := by decide +kernel
theorem dX6_placeCall_76 : decode cX6_placeCall 76 = .ok (.iload 5, 2) := by decide +kernel
theorem dX6_placeCall_78 : decode cX6_placeCall 78 = .ok (.iload 6, 2) := by decide +kernel
theorem dX6_placeCall_80 : decode cX6_placeCall 80 = .ok (.invokevirtual 69, 3) := by decide +kernel
theorem dX6_placeCall_83 : decode cX6_placeCall 83 = .ok (.astore 7, 2) := by decide +kernel
theorem dX6_placeCall_85 : decode cX6_placeCall 85 = .ok (.aload 7, 2) := by decide +kernel
theorem dX6_placeCall_87 : decode cX6_placeCall 87 = .ok (.ifnonnull 15, 3) := by decide +kernel
theorem dX6_placeCall_90 : decode cX6_placeCall 90 = .ok (.aload_n 2, 1) := by decide +kernel
theorem dX6_placeCall_91 : decode cX6_placeCall 91 = .ok (.dup, 1) := by decide +kernel
theorem dX6_placeCall_92 : decode cX6_placeCall 92 = .ok (.getfield 50, 3) := by decide +kernel
theorem dX6_placeCall_95 : decode cX6_placeCall 95 = .ok (.iconst 1, 1) := by decide +kernel
theorem dX6_placeCall_96 : decode cX6_placeCall 96 = .ok (.iadd, 1) := by decide +kernel
theorem dX6_placeCall_97 : decode cX6_placeCall 97 = .ok (.putfield 50, 3) := by decide +kernel
theorem dX6_placeCall_100 : decode cX6_placeCall 100 = .ok (.iconst (-1), 1) := by decide +kernel
theorem dX6_placeCall_101 : decode cX6_placeCall 101 = .ok (.ireturn, 1) := by decide +kernel
theorem dX6_placeCall_102 : decode cX6_placeCall 102 = .ok (.aload 7, 2) := by decide +kernel
theorem dX6_placeCall_104 : decode cX6_placeCall 104 = .ok (.iload 6, 2) := by decide +kernel
theorem dX6_placeCall_106 : decode cX6_placeCall 106 = .ok (.iload 4, 2) := by decide +kernel
theorem dX6_placeCall_108 : decode cX6_placeCall 108 = .ok (.iload_n 1, 1) := by decide +kernel
theorem dX6_placeCall_109 : decode cX6_placeCall 109 = .ok (.invokevirtual 73, 3) := by decide +kernel
theorem dX6_placeCall_112 : decode cX6_placeCall 112 = .ok (.iload 5, 2) := by decide +kernel
theorem dX6_placeCall_114 : decode cX6_placeCall 114 = .ok (.iload_n 1, 1) := by decide +kernel
theorem dX6_placeCall_115 : decode cX6_placeCall 115 = .ok (.if_icmp .ne 16, 3) := by decide +kernel
theorem dX6_placeCall_118 : decode cX6_placeCall 118 = .ok (.aload_n 2, 1) := by decide +kernel
theorem dX6_placeCall_119 : decode cX6_placeCall 119 = .ok (.dup, 1) := by decide +kernel
theorem dX6_placeCall_120 : decode cX6_placeCall 120 = .ok (.getfield 77, 3) := by decide +kernel
theorem dX6_placeCall_123 : decode cX6_placeCall 123 = .ok (.iconst 1, 1) := by decide +kernel
theorem dX6_placeCall_124 : decode cX6_placeCall 124 = .ok (.iadd, 1) := by decide +kernel
theorem dX6_placeCall_125 : decode cX6_placeCall 125 = .ok (.putfield 77, 3) := by decide +kernel
theorem dX6_placeCall_128 : decode cX6_placeCall 128 = .ok (.goto 13, 3) := by decide +kernel
theorem dX6_placeCall_131 : decode cX6_placeCall 131 = .ok (.aload_n 2, 1) := by decide +kernel
theorem dX6_placeCall_132 : decode cX6_placeCall 132 = .ok (.dup, 1) := by decide +kernel
theorem dX6_placeCall_133 : decode cX6_placeCall 133 = .ok (.getfield 80, 3) := by decide +kernel
theorem dX6_placeCall_136 : decode cX6_placeCall 136 = .ok (.iconst 1, 1) := by decide +kernel
theorem dX6_placeCall_137 : decode cX6_placeCall 137 = .ok (.iadd, 1) := by decide +kernel
theorem dX6_placeCall_138 : decode cX6_placeCall 138 = .ok (.putfield 80, 3) := by decide +kernel
theorem dX6_placeCall_141 : decode cX6_placeCall 141 = .ok (.iload_n 3, 1) := by decide +kernel
theorem dX6_placeCall_142 : decode cX6_placeCall 142 = .ok (.ireturn, 1) := by decide +kernel
theorem dX6_endCall_0 : decode cX6_endCall 0 = .ok (.aload_n 1, 1) := by decide +kernel
theorem dX6_endCall_1 : decode cX6_endCall 1 = .ok (.getfield 83, 3) := by decide +kernel
theorem dX6_endCall_4 : decode cX6_endCall 4 = .ok (.iload_n 2, 1) := by decide +kernel
theorem dX6_endCall_5 : decode cX6_endCall 5 = .ok (.iaload, 1) := by decide +kernel
theorem dX6_endCall_6 : decode cX6_endCall 6 = .ok (.istore_n 3, 1) := by decide +kernel
theorem dX6_endCall_7 : decode cX6_endCall 7 = .ok (.aload_n 0, 1) := by decide +kernel
theorem dX6_endCall_8 : decode cX6_endCall 8 = .ok (.dup, 1) := by decide +kernel
theorem dX6_endCall_9 : decode cX6_endCall 9 = .ok (.getfield 26, 3) := by decide +kernel
theorem dX6_endCall_12 : decode cX6_endCall 12 = .ok (.iconst 1, 1) := by decide +kernel
theorem dX6_endCall_13 : decode cX6_endCall 13 = .ok (.iadd, 1) := by decide +kernel
theorem dX6_endCall_14 : decode cX6_endCall 14 = .ok (.putfield 26, 3) := by decide +kernel
theorem dX6_endCall_17 : decode cX6_endCall 17 = .ok (.aload_n 1, 1) := by decide +kernel
theorem dX6_endCall_18 : decode cX6_endCall 18 = .ok (.iload_n 2, 1) := by decide +kernel
theorem dX6_endCall_19 : decode cX6_endCall 19 = .ok (.iconst 0, 1) := by decide +kernel
theorem dX6_endCall_20 : decode cX6_endCall 20 = .ok (.aload_n 0, 1) := by decide +kernel
theorem dX6_endCall_21 : decode cX6_endCall 21 = .ok (.getfield 26, 3) := by decide +kernel
theorem dX6_endCall_24 : decode cX6_endCall 24 = .ok (.invokevirtual 87, 3) := by decide +kernel
theorem dX6_endCall_27 : decode cX6_endCall 27 = .ok (.iload_n 3, 1) := by decide +kernel
theorem dX6_endCall_28 : decode cX6_endCall 28 = .ok (.ireturn, 1) := by decide +kernel
theorem dX6_breakLine_0 : decode cX6_breakLine 0 = .ok (.aload_n 1, 1) := by decide +kernel
theorem dX6_breakLine_1 : decode cX6_breakLine 1 = .ok (.getfield 83, 3) := by decide +kernel
theorem dX6_breakLine_4 : decode cX6_breakLine 4 = .ok (.iload_n 2, 1) := by decide +kernel
theorem dX6_breakLine_5 : decode cX6_breakLine 5 = .ok (.iaload, 1) := by decide +kernel
theorem dX6_breakLine_6 : decode cX6_breakLine 6 = .ok (.istore_n 3, 1) := by decide +kernel
theorem dX6_breakLine_7 : decode cX6_breakLine 7 = .ok (.aload_n 0, 1) := by decide +kernel
theorem dX6_breakLine_8 : decode cX6_breakLine 8 = .ok (.aload_n 1, 1) := by decide +kernel
theorem dX6_breakLine_9 : decode cX6_breakLine 9 = .ok (.getfield 90, 3) := by decide +kernel
theorem dX6_breakLine_12 : decode cX6_breakLine 12 = .ok (.iload_n 2, 1) := by decide +kernel
theorem dX6_breakLine_13 : decode cX6_breakLine 13 = .ok (.iaload, 1) := by decide +kernel
theorem dX6_breakLine_14 : decode cX6_breakLine 14 = .ok (.invokevirtual 38, 3) := by decide +kernel
theorem dX6_breakLine_17 : decode cX6_breakLine 17 = .ok (.astore 4, 2) := by decide +kernel
theorem dX6_breakLine_19 : decode cX6_breakLine 19 = .ok (.aload 4, 2) := by decide +kernel
theorem dX6_breakLine_21 : decode cX6_breakLine 21 = .ok (.ifnull 14, 3) := by decide +kernel
theorem dX6_breakLine_24 : decode cX6_breakLine 24 = .ok (.aload 4, 2) := by decide +kernel
theorem dX6_breakLine_26 : decode cX6_breakLine 26 = .ok (.dup, 1) := by decide +kernel
theorem dX6_breakLine_27 : decode cX6_breakLine 27 = .ok (.getfield 50, 3) := by decide +kernel
theorem dX6_breakLine_30 : decode cX6_breakLine 30 = .ok (.iconst 1, 1) := by decide +kernel
theorem dX6_breakLine_31 : decode cX6_breakLine 31 = .ok (.iadd, 1) := by decide +kernel
theorem dX6_breakLine_32 : decode cX6_breakLine 32 = .ok (.putfield 50, 3) := by decide +kernel
theorem dX6_breakLine_35 : decode cX6_breakLine 35 = .ok (.aload_n 0, 1) := by decide +kernel
theorem dX6_breakLine_36 : decode cX6_breakLine 36 = .ok (.dup, 1) := by decide +kernel
theorem dX6_breakLine_37 : decode cX6_breakLine 37 = .ok (.getfield 26, 3) := by decide +kernel
theorem dX6_breakLine_40 : decode cX6_breakLine 40 = .ok (.iconst 1, 1) := by decide +kernel
theorem dX6_breakLine_41 : decode cX6_breakLine 41 = .ok (.iadd, 1) := by decide +kernel
theorem dX6_breakLine_42 : decode cX6_breakLine 42 = .ok (.putfield 26, 3) := by decide +kernel
theorem dX6_breakLine_45 : decode cX6_breakLine 45 = .ok (.aload_n 1, 1) := by decide +kernel
theorem dX6_breakLine_46 : decode cX6_breakLine 46 = .ok (.iload_n 2, 1) := by decide +kernel
theorem dX6_breakLine_47 : decode cX6_breakLine 47 = .ok (.iconst 2, 1) := by decide +kernel
theorem dX6_breakLine_48 : decode cX6_breakLine 48 = .ok (.aload_n 0, 1) := by decide +kernel
theorem dX6_breakLine_49 : decode cX6_breakLine 49 = .ok (.getfield 26, 3) := by decide +kernel
theorem dX6_breakLine_52 : decode cX6_breakLine 52 = .ok (.invokevirtual 87, 3) := by decide +kernel
theorem dX6_breakLine_55 : decode cX6_breakLine 55 = .ok (.iload_n 3, 1) := by decide +kernel
theorem dX6_breakLine_56 : decode cX6_breakLine 56 = .ok (.ireturn, 1) := by decide +kernel
theorem dX6_mendLine_0 : decode cX6_mendLine 0 = .ok (.aload_n 0, 1) := by decide +kernel
theorem dX6_mendLine_1 : decode cX6_mendLine 1 = .ok (.dup, 1) := by decide +kernel
theorem dX6_mendLine_2 : decode cX6_mendLine 2 = .ok (.getfield 26, 3) := by decide +kernel
theorem dX6_mendLine_5 : decode cX6_mendLine 5 = .ok (.iconst 1, 1) := by decide +kernel
theorem dX6_mendLine_6 : decode cX6_mendLine 6 = .ok (.iadd, 1) := by decide +kernel
theorem dX6_mendLine_7 : decode cX6_mendLine 7 = .ok (.putfield 26, 3) := by decide +kernel
theorem dX6_mendLine_10 : decode cX6_mendLine 10 = .ok (.aload_n 1, 1) := by decide +kernel
theorem dX6_mendLine_11 : decode cX6_mendLine 11 = .ok (.iload_n 2, 1) := by decide +kernel
theorem dX6_mendLine_12 : decode cX6_mendLine 12 = .ok (.iconst 0, 1) := by decide +kernel
theorem dX6_mendLine_13 : decode cX6_mendLine 13 = .ok (.aload_n 0, 1) := by decide +kernel
theorem dX6_mendLine_14 : decode cX6_mendLine 14 = .ok (.getfield 26, 3) := by decide +kernel
theorem dX6_mendLine_17 : decode cX6_mendLine 17 = .ok (.invokevirtual 87, 3) := by decide +kernel
theorem dX6_mendLine_20 : decode cX6_mendLine 20 = .ok (.return_, 1) := by decide +kernel
theorem dX7_init_0 : decode cX7_init 0 = .ok (.aload_n 0, 1) := by decide +kernel
theorem dX7_init_1 : decode cX7_init 1 = .ok (.invokespecial 3, 3) := by decide +kernel
theorem dX7_init_4 : decode cX7_init 4 = .ok (.aload_n 0, 1) := by decide +kernel
theorem dX7_init_5 : decode cX7_init 5 = .ok (.iconst 4, 1) := by decide +kernel
theorem dX7_init_6 : decode cX7_init 6 = .ok (.newarray .int, 2) := by decide +kernel
theorem dX7_init_8 : decode cX7_init 8 = .ok (.putfield 9, 3) := by decide +kernel
theorem dX7_init_11 : decode cX7_init 11 = .ok (.aload_n 0, 1) := by decide +kernel
theorem dX7_init_12 : decode cX7_init 12 = .ok (.iconst 4, 1) := by decide +kernel
theorem dX7_init_13 : decode cX7_init 13 = .ok (.newarray .int, 2) := by decide +kernel
theorem dX7_init_15 : decode cX7_init 15 = .ok (.putfield 15, 3) := by decide +kernel
theorem dX7_init_18 : decode cX7_init 18 = .ok (.aload_n 0, 1) := by decide +kernel
theorem dX7_init_19 : decode cX7_init 19 = .ok (.iconst 4, 1) := by decide +kernel
theorem dX7_init_20 : decode cX7_init 20 = .ok (.newarray .int, 2) := by decide +kernel
theorem dX7_init_22 : decode cX7_init 22 = .ok (.putfield 18, 3) := by decide +kernel
theorem dX7_init_25 : decode cX7_init 25 = .ok (.return_, 1) := by decide +kernel
theorem dX7_loadOver_0 : decode cX7_loadOver 0 = .ok (.iload_n 1, 1) := by decide +kernel
theorem dX7_loadOver_1 : decode cX7_loadOver 1 = .ok (.ifCond .lt 17, 3) := by decide +kernel
theorem dX7_loadOver_4 : decode cX7_loadOver 4 = .ok (.iload_n 1, 1) := by decide +kernel
theorem dX7_loadOver_5 : decode cX7_loadOver 5 = .ok (.iconst 4, 1) := by decide +kernel
theorem dX7_loadOver_6 : decode cX7_loadOver 6 = .ok (.if_icmp .ge 12, 3) := by decide +kernel
theorem dX7_loadOver_9 : decode cX7_loadOver 9 = .ok (.aload_n 0, 1) := by decide +kernel
theorem dX7_loadOver_10 : decode cX7_loadOver 10 = .ok (.getfield 9, 3) := by decide +kernel
theorem dX7_loadOver_13 : decode cX7_loadOver 13 = .ok (.iload_n 1, 1) := by decide +kernel
theorem dX7_loadOver_14 : decode cX7_loadOver 14 = .ok (.iaload, 1) := by decide +kernel
theorem dX7_loadOver_15 : decode cX7_loadOver 15 = .ok (.goto 4, 3) := by decide +kernel
theorem dX7_loadOver_18 : decode cX7_loadOver 18 = .ok (.iconst 0, 1) := by decide +kernel
theorem dX7_loadOver_19 : decode cX7_loadOver 19 = .ok (.ireturn, 1) := by decide +kernel
theorem dX7_lossOf_0 : decode cX7_lossOf 0 = .ok (.iload_n 1, 1) := by decide +kernel
theorem dX7_lossOf_1 : decode cX7_lossOf 1 = .ok (.ifCond .lt 17, 3) := by decide +kernel
theorem dX7_lossOf_4 : decode cX7_lossOf 4 = .ok (.iload_n 1, 1) := by decide +kernel
theorem dX7_lossOf_5 : decode cX7_lossOf 5 = .ok (.iconst 4, 1) := by decide +kernel
theorem dX7_lossOf_6 : decode cX7_lossOf 6 = .ok (.if_icmp .ge 12, 3) := by decide +kernel
theorem dX7_lossOf_9 : decode cX7_lossOf 9 = .ok (.aload_n 0, 1) := by decide +kernel
theorem dX7_lossOf_10 : decode cX7_lossOf 10 = .ok (.getfield 18, 3) := by decide +kernel
theorem dX7_lossOf_13 : decode cX7_lossOf 13 = .ok (.iload_n 1, 1) := by decide +kernel
theorem dX7_lossOf_14 : decode cX7_lossOf 14 = .ok (.iaload, 1) := by decide +kernel
theorem dX7_lossOf_15 : decode cX7_lossOf 15 = .ok (.goto 4, 3) := by decide +kernel
theorem dX7_lossOf_18 : decode cX7_lossOf 18 = .ok (.iconst 0, 1) := by decide +kernel
theorem dX7_lossOf_19 : decode cX7_lossOf 19 = .ok (.ireturn, 1) := by decide +kernel
theorem dX7_settle_0 : decode cX7_settle 0 = .ok (.aload_n 0, 1) := by decide +kernel
theorem dX7_settle_1 : decode cX7_settle 1 = .ok (.getfield 9, 3) := by decide +kernel
theorem dX7_settle_4 : decode cX7_settle 4 = .ok (.iconst 0, 1) := by decide +kernel
theorem dX7_settle_5 : decode cX7_settle 5 = .ok (.invokestatic 21, 3) := by decide +kernel
theorem dX7_settle_8 : decode cX7_settle 8 = .ok (.iconst 1, 1) := by decide +kernel
theorem dX7_settle_9 : decode cX7_settle 9 = .ok (.istore_n 3, 1) := by decide +kernel
theorem dX7_settle_10 : decode cX7_settle 10 = .ok (.iconst 1, 1) := by decide +kernel
theorem dX7_settle_11 : decode cX7_settle 11 = .ok (.istore 4, 2) := by decide +kernel
theorem dX7_settle_13 : decode cX7_settle 13 = .ok (.iload 4, 2) := by decide +kernel
theorem dX7_settle_15 : decode cX7_settle 15 = .ok (.bipush 30, 2) := by decide +kernel
theorem dX7_settle_17 : decode cX7_settle 17 = .ok (.if_icmp .gt 35, 3) := by decide +kernel
theorem dX7_settle_20 : decode cX7_settle 20 = .ok (.iload_n 3, 1) := by decide +kernel
theorem dX7_settle_21 : decode cX7_settle 21 = .ok (.ifCond .eq 31, 3) := by decide +kernel
theorem dX7_settle_24 : decode cX7_settle 24 = .ok (.aload_n 0, 1) := by decide +kernel
theorem dX7_settle_25 : decode cX7_settle 25 = .ok (.iload 4, 2) := by decide +kernel
theorem dX7_settle_27 : decode cX7_settle 27 = .ok (.putfield 27, 3) := by decide +kernel
theorem dX7_settle_30 : decode cX7_settle 30 = .ok (.aload_n 0, 1) := by decide +kernel
theorem dX7_settle_31 : decode cX7_settle 31 = .ok (.aload_n 1, 1) := by decide +kernel
theorem dX7_settle_32 : decode cX7_settle 32 = .ok (.aload_n 2, 1) := by decide +kernel
theorem dX7_settle_33 : decode cX7_settle 33 = .ok (.invokevirtual 31, 3) := by decide +kernel
theorem dX7_settle_36 : decode cX7_settle 36 = .ok (.aload_n 0, 1) := by decide +kernel
theorem dX7_settle_37 : decode cX7_settle 37 = .ok (.aload_n 1, 1) := by decide +kernel
theorem dX7_settle_38 : decode cX7_settle 38 = .ok (.invokevirtual 35, 3) := by decide +kernel
theorem dX7_settle_41 : decode cX7_settle 41 = .ok (.aload_n 0, 1) := by decide +kernel
theorem dX7_settle_42 : decode cX7_settle 42 = .ok (.invokevirtual 39, 3) := by decide +kernel
theorem dX7_settle_45 : decode cX7_settle 45 = .ok (.istore_n 3, 1) := by decide +kernel
theorem dX7_settle_46 : decode cX7_settle 46 = .ok (.iinc 4 1, 3) := by decide +kernel
theorem dX7_settle_49 : decode cX7_settle 49 = .ok (.goto (-36), 3) := by decide +kernel
theorem dX7_settle_52 : decode cX7_settle 52 = .ok (.return_, 1) := by decide +kernel
theorem dX7_loseEach_0 : decode cX7_loseEach 0 = .ok (.iconst 0, 1) := by decide +kernel
theorem dX7_loseEach_1 : decode cX7_loseEach 1 = .ok (.istore_n 3, 1) := by decide +kernel
theorem dX7_loseEach_2 : decode cX7_loseEach 2 = .ok (.iload_n 3, 1) := by decide +kernel
theorem dX7_loseEach_3 : decode cX7_loseEach 3 = .ok (.aload_n 1, 1) := by decide +kernel
theorem dX7_loseEach_4 : decode cX7_loseEach 4 = .ok (.getfield 43, 3) := by decide +kernel
theorem dX7_loseEach_7 : decode cX7_loseEach 7 = .ok (.if_icmp .ge 83, 3) := by decide +kernel
theorem dX7_loseEach_10 : decode cX7_loseEach 10 = .ok (.aload_n 1, 1) := by decide +kernel
theorem dX7_loseEach_11 : decode cX7_loseEach 11 = .ok (.getfield 48, 3) := by decide +kernel
theorem dX7_loseEach_14 : decode cX7_loseEach 14 = .ok (.iload_n 3, 1) := by decide +kernel
theorem dX7_loseEach_15 : decode cX7_loseEach 15 = .ok (.aaload, 1) := by decide +kernel
theorem dX7_loseEach_16 : decode cX7_loseEach 16 = .ok (.astore 4, 2) := by decide +kernel
theorem dX7_loseEach_18 : decode cX7_loseEach 18 = .ok (.aload_n 2, 1) := by decide +kernel
theorem dX7_loseEach_19 : decode cX7_loseEach 19 = .ok (.ldc2_w 52, 3) := by decide +kernel
theorem dX7_loseEach_22 : decode cX7_loseEach 22 = .ok (.sipush 1000, 3) := by decide +kernel
theorem dX7_loseEach_25 : decode cX7_loseEach 25 = .ok (.aload 4, 2) := by decide +kernel
theorem dX7_loseEach_27 : decode cX7_loseEach 27 = .ok (.getfield 54, 3) := by decide +kernel
theorem dX7_loseEach_30 : decode cX7_loseEach 30 = .ok (.aload 4, 2) := by decide +kernel
theorem dX7_loseEach_32 : decode cX7_loseEach 32 = .ok (.getfield 59, 3) := by decide +kernel
theorem dX7_loseEach_35 : decode cX7_loseEach 35 = .ok (.aload 4, 2) := by decide +kernel
theorem dX7_loseEach_37 : decode cX7_loseEach 37 = .ok (.getfield 62, 3) := by decide +kernel
theorem dX7_loseEach_40 : decode cX7_loseEach 40 = .ok (.aload_n 0, 1) := by decide +kernel
theorem dX7_loseEach_41 : decode cX7_loseEach 41 = .ok (.getfield 9, 3) := by decide +kernel
theorem dX7_loseEach_44 : decode cX7_loseEach 44 = .ok (.iload_n 3, 1) := by decide +kernel
theorem dX7_loseEach_45 : decode cX7_loseEach 45 = .ok (.iaload, 1) := by decide +kernel
theorem dX7_loseEach_46 : decode cX7_loseEach 46 = .ok (.invokevirtual 65, 3) := by decide +kernel
theorem dX7_loseEach_49 : decode cX7_loseEach 49 = .ok (.aload_n 2, 1) := by decide +kernel
theorem dX7_loseEach_50 : decode cX7_loseEach 50 = .ok (.invokevirtual 71, 3) := by decide +kernel
theorem dX7_loseEach_53 : decode cX7_loseEach 53 = .ok (.lstore 5, 2) := by decide +kernel
theorem dX7_loseEach_55 : decode cX7_loseEach 55 = .ok (.aload_n 0, 1) := by decide +kernel
theorem dX7_loseEach_56 : decode cX7_loseEach 56 = .ok (.getfield 18, 3) := by decide +kernel
theorem dX7_loseEach_59 : decode cX7_loseEach 59 = .ok (.iload_n 3, 1) := by decide +kernel
theorem dX7_loseEach_60 : decode cX7_loseEach 60 = .ok (.lload 5, 2) := by decide +kernel
theorem dX7_loseEach_62 : decode cX7_loseEach 62 = .ok (.lconst 0, 1) := by decide +kernel
theorem dX7_loseEach_63 : decode cX7_loseEach 63 = .ok (.lcmp, 1) := by decide +kernel
theorem dX7_loseEach_64 : decode cX7_loseEach 64 = .ok (.ifCond .le 18, 3) := by decide +kernel
theorem dX7_loseEach_67 : decode cX7_loseEach 67 = .ok (.ldc2_w 75, 3) := by decide +kernel
theorem dX7_loseEach_70 : decode cX7_loseEach 70 = .ok (.aload_n 2, 1) := by decide +kernel
theorem dX7_loseEach_71 : decode cX7_loseEach 71 = .ok (.invokevirtual 77, 3) := by decide +kernel
theorem dX7_loseEach_74 : decode cX7_loseEach 74 = .ok (.lmul, 1) := by decide +kernel
theorem dX7_loseEach_75 : decode cX7_loseEach 75 = .ok (.lload 5, 2) := by decide +kernel
theorem dX7_loseEach_77 : decode cX7_loseEach 77 = .ok (.ldiv, 1) := by decide +kernel
theorem dX7_loseEach_78 : decode cX7_loseEach 78 = .ok (.l2i, 1) := by decide +kernel
theorem dX7_loseEach_79 : decode cX7_loseEach 79 = .ok (.goto 4, 3) := by decide +kernel
theorem dX7_loseEach_82 : decode cX7_loseEach 82 = .ok (.iconst 0, 1) := by decide +kernel
theorem dX7_loseEach_83 : decode cX7_loseEach 83 = .ok (.iastore, 1) := by decide +kernel
theorem dX7_loseEach_84 : decode cX7_loseEach 84 = .ok (.iinc 3 1, 3) := by decide +kernel
theorem dX7_loseEach_87 : decode cX7_loseEach 87 = .ok (.goto (-85), 3) := by decide +kernel
theorem dX7_loseEach_90 : decode cX7_loseEach 90 = .ok (.return_, 1) := by decide +kernel
theorem dX7_sendOver_0 : decode cX7_sendOver 0 = .ok (.aload_n 0, 1) := by decide +kernel
theorem dX7_sendOver_1 : decode cX7_sendOver 1 = .ok (.getfield 15, 3) := by decide +kernel
theorem dX7_sendOver_4 : decode cX7_sendOver 4 = .ok (.iconst 0, 1) := by decide +kernel
theorem dX7_sendOver_5 : decode cX7_sendOver 5 = .ok (.invokestatic 21, 3) := by decide +kernel
theorem dX7_sendOver_8 : decode cX7_sendOver 8 = .ok (.iconst 0, 1) := by decide +kernel
theorem dX7_sendOver_9 : decode cX7_sendOver 9 = .ok (.istore_n 2, 1) := by decide +kernel
theorem dX7_sendOver_10 : decode cX7_sendOver 10 = .ok (.iload_n 2, 1) := by decide +kernel
theorem dX7_sendOver_11 : decode cX7_sendOver 11 = .ok (.aload_n 1, 1) := by decide +kernel
theorem dX7_sendOver_12 : decode cX7_sendOver 12 = .ok (.getfield 43, 3) := by decide +kernel
theorem dX7_sendOver_15 : decode cX7_sendOver 15 = .ok (.if_icmp .ge 50, 3) := by decide +kernel
theorem dX7_sendOver_18 : decode cX7_sendOver 18 = .ok (.aload_n 1, 1) := by decide +kernel
theorem dX7_sendOver_19 : decode cX7_sendOver 19 = .ok (.getfield 48, 3) := by decide +kernel
theorem dX7_sendOver_22 : decode cX7_sendOver 22 = .ok (.iload_n 2, 1) := by decide +kernel
theorem dX7_sendOver_23 : decode cX7_sendOver 23 = .ok (.aaload, 1) := by decide +kernel
theorem dX7_sendOver_24 : decode cX7_sendOver 24 = .ok (.astore_n 3, 1) := by decide +kernel
theorem dX7_sendOver_25 : decode cX7_sendOver 25 = .ok (.aload_n 1, 1) := by decide +kernel
theorem dX7_sendOver_26 : decode cX7_sendOver 26 = .ok (.aload_n 3, 1) := by decide +kernel
theorem dX7_sendOver_27 : decode cX7_sendOver 27 = .ok (.getfield 80, 3) := by decide +kernel
theorem dX7_sendOver_30 : decode cX7_sendOver 30 = .ok (.invokevirtual 83, 3) := by decide +kernel
theorem dX7_sendOver_33 : decode cX7_sendOver 33 = .ok (.ifnull 26, 3) := by decide +kernel
theorem dX7_sendOver_36 : decode cX7_sendOver 36 = .ok (.aload_n 0, 1) := by decide +kernel
theorem dX7_sendOver_37 : decode cX7_sendOver 37 = .ok (.getfield 15, 3) := by decide +kernel
theorem dX7_sendOver_40 : decode cX7_sendOver 40 = .ok (.aload_n 3, 1) := by decide +kernel
theorem dX7_sendOver_41 : decode cX7_sendOver 41 = .ok (.getfield 80, 3) := by decide +kernel
theorem dX7_sendOver_44 : decode cX7_sendOver 44 = .ok (.dup2, 1) := by decide +kernel
theorem dX7_sendOver_45 : decode cX7_sendOver 45 = .ok (.iaload, 1) := by decide +kernel
theorem dX7_sendOver_46 : decode cX7_sendOver 46 = .ok (.aload_n 3, 1) := by decide +kernel
theorem dX7_sendOver_47 : decode cX7_sendOver 47 = .ok (.getfield 59, 3) := by decide +kernel
theorem dX7_sendOver_50 : decode cX7_sendOver 50 = .ok (.aload_n 0, 1) := by decide +kernel
theorem dX7_sendOver_51 : decode cX7_sendOver 51 = .ok (.getfield 18, 3) := by decide +kernel
theorem dX7_sendOver_54 : decode cX7_sendOver 54 = .ok (.iload_n 2, 1) := by decide +kernel
theorem dX7_sendOver_55 : decode cX7_sendOver 55 = .ok (.iaload, 1) := by decide +kernel
theorem dX7_sendOver_56 : decode cX7_sendOver 56 = .ok (.imul, 1) := by decide +kernel
theorem dX7_sendOver_57 : decode cX7_sendOver 57 = .ok (.iadd, 1) := by decide +kernel
theorem dX7_sendOver_58 : decode cX7_sendOver 58 = .ok (.iastore, 1) := by decide +kernel
theorem dX7_sendOver_59 : decode cX7_sendOver 59 = .ok (.iinc 2 1, 3) := by decide +kernel
theorem dX7_sendOver_62 : decode cX7_sendOver 62 = .ok (.goto (-52), 3) := by decide +kernel
theorem dX7_sendOver_65 : decode cX7_sendOver 65 = .ok (.return_, 1) := by decide +kernel
theorem dX7_takeNewLoads_0 : decode cX7_takeNewLoads 0 = .ok (.iconst 0, 1) := by decide +kernel
theorem dX7_takeNewLoads_1 : decode cX7_takeNewLoads 1 = .ok (.istore_n 1, 1) := by decide +kernel
theorem dX7_takeNewLoads_2 : decode cX7_takeNewLoads 2 = .ok (.iconst 0, 1) := by decide +kernel
theorem dX7_takeNewLoads_3 : decode cX7_takeNewLoads 3 = .ok (.istore_n 2, 1) := by decide +kernel
theorem dX7_takeNewLoads_4 : decode cX7_takeNewLoads 4 = .ok (.iload_n 2, 1) := by decide +kernel
theorem dX7_takeNewLoads_5 : decode cX7_takeNewLoads 5 = .ok (.iconst 4, 1) := by decide +kernel
theorem dX7_takeNewLoads_6 : decode cX7_takeNewLoads 6 = .ok (.if_icmp .ge 44, 3) := by decide +kernel
theorem dX7_takeNewLoads_9 : decode cX7_takeNewLoads 9 = .ok (.iload_n 1, 1) := by decide +kernel
theorem dX7_takeNewLoads_10 : decode cX7_takeNewLoads 10 = .ok (.aload_n 0, 1) := by decide +kernel
theorem dX7_takeNewLoads_11 : decode cX7_takeNewLoads 11 = .ok (.getfield 9, 3) := by decide +kernel
theorem dX7_takeNewLoads_14 : decode cX7_takeNewLoads 14 = .ok (.iload_n 2, 1) := by decide +kernel
theorem dX7_takeNewLoads_15 : decode cX7_takeNewLoads 15 = .ok (.iaload, 1) := by decide +kernel
theorem dX7_takeNewLoads_16 : decode cX7_takeNewLoads 16 = .ok (.aload_n 0, 1) := by decide +kernel
theorem dX7_takeNewLoads_17 : decode cX7_takeNewLoads 17 = .ok (.getfield 15, 3) := by decide +kernel
theorem dX7_takeNewLoads_20 : decode cX7_takeNewLoads 20 = .ok (.iload_n 2, 1) := by decide +kernel
theorem dX7_takeNewLoads_21 : decode cX7_takeNewLoads 21 = .ok (.iaload, 1) := by decide +kernel
theorem dX7_takeNewLoads_22 : decode cX7_takeNewLoads 22 = .ok (.if_icmp .eq 7, 3) := by decide +kernel
theorem dX7_takeNewLoads_25 : decode cX7_takeNewLoads 25 = .ok (.iconst 1, 1) := by decide +kernel
theorem dX7_takeNewLoads_26 : decode cX7_takeNewLoads 26 = .ok (.goto 4, 3) := by decide +kernel
theorem dX7_takeNewLoads_29 : decode cX7_takeNewLoads 29 = .ok (.iconst 0, 1) := by decide +kernel
theorem dX7_takeNewLoads_30 : decode cX7_takeNewLoads 30 = .ok (.ior, 1) := by decide +kernel
theorem dX7_takeNewLoads_31 : decode cX7_takeNewLoads 31 = .ok (.istore_n 1, 1) := by decide +kernel
theorem dX7_takeNewLoads_32 : decode cX7_takeNewLoads 32 = .ok (.aload_n 0, 1) := by decide +kernel
theorem dX7_takeNewLoads_33 : decode cX7_takeNewLoads 33 = .ok (.getfield 9, 3) := by decide +kernel
theorem dX7_takeNewLoads_36 : decode cX7_takeNewLoads 36 = .ok (.iload_n 2, 1) := by decide +kernel
theorem dX7_takeNewLoads_37 : decode cX7_takeNewLoads 37 = .ok (.aload_n 0, 1) := by decide +kernel
theorem dX7_takeNewLoads_38 : decode cX7_takeNewLoads 38 = .ok (.getfield 15, 3) := by decide +kernel
theorem dX7_takeNewLoads_41 : decode cX7_takeNewLoads 41 = .ok (.iload_n 2, 1) := by decide +kernel
theorem dX7_takeNewLoads_42 : decode cX7_takeNewLoads 42 = .ok (.iaload, 1) := by decide +kernel
theorem dX7_takeNewLoads_43 : decode cX7_takeNewLoads 43 = .ok (.iastore, 1) := by decide +kernel
theorem dX7_takeNewLoads_44 : decode cX7_takeNewLoads 44 = .ok (.iinc 2 1, 3) := by decide +kernel
theorem dX7_takeNewLoads_47 : decode cX7_takeNewLoads 47 = .ok (.goto (-43), 3) := by decide +kernel
theorem dX7_takeNewLoads_50 : decode cX7_takeNewLoads 50 = .ok (.iload_n 1, 1) := by decide +kernel
theorem dX7_takeNewLoads_51 : decode cX7_takeNewLoads 51 = .ok (.ireturn, 1) := by decide +kernel
theorem dX8_init_0 : decode cX8_init 0 = .ok (.aload_n 0, 1) := by decide +kernel
theorem dX8_init_1 : decode cX8_init 1 = .ok (.invokespecial 3, 3) := by decide +kernel
theorem dX8_init_4 : decode cX8_init 4 = .ok (.aload_n 0, 1) := by decide +kernel
theorem dX8_init_5 : decode cX8_init 5 = .ok (.bipush 7, 2) := by decide +kernel
theorem dX8_init_7 : decode cX8_init 7 = .ok (.newarray .long, 2) := by decide +kernel
theorem dX8_init_9 : decode cX8_init 9 = .ok (.putfield 9, 3) := by decide +kernel
theorem dX8_init_12 : decode cX8_init 12 = .ok (.return_, 1) := by decide +kernel
theorem dX8_weighExactly_0 : decode cX8_weighExactly 0 = .ok (.lconst 1, 1) := by decide +kernel
theorem dX8_weighExactly_1 : decode cX8_weighExactly 1 = .ok (.lstore 5, 2) := by decide +kernel
theorem dX8_weighExactly_3 : decode cX8_weighExactly 3 = .ok (.iconst 2, 1) := by decide +kernel
theorem dX8_weighExactly_4 : decode cX8_weighExactly 4 = .ok (.istore 7, 2) := by decide +kernel
theorem dX8_weighExactly_6 : decode cX8_weighExactly 6 = .ok (.iload 7, 2) := by decide +kernel
theorem dX8_weighExactly_8 : decode cX8_weighExactly 8 = .ok (.iload_n 1, 1) := by decide +kernel
theorem dX8_weighExactly_9 : decode cX8_weighExactly 9 = .ok (.if_icmp .gt 17, 3) := by decide +kernel
theorem dX8_weighExactly_12 : decode cX8_weighExactly 12 = .ok (.lload 5, 2) := by decide +kernel
theorem dX8_weighExactly_14 : decode cX8_weighExactly 14 = .ok (.iload 7, 2) := by decide +kernel
theorem dX8_weighExactly_16 : decode cX8_weighExactly 16 = .ok (.i2l, 1) := by decide +kernel
theorem dX8_weighExactly_17 : decode cX8_weighExactly 17 = .ok (.lmul, 1) := by decide +kernel
theorem dX8_weighExactly_18 : decode cX8_weighExactly 18 = .ok (.lstore 5, 2) := by decide +kernel
theorem dX8_weighExactly_20 : decode cX8_weighExactly 20 = .ok (.iinc 7 1, 3) := by decide +kernel
theorem dX8_weighExactly_23 : decode cX8_weighExactly 23 = .ok (.goto (-17), 3) := by decide +kernel
theorem dX8_weighExactly_26 : decode cX8_weighExactly 26 = .ok (.aload_n 0, 1) := by decide +kernel
theorem dX8_weighExactly_27 : decode cX8_weighExactly 27 = .ok (.lload 5, 2) := by decide +kernel
theorem dX8_weighExactly_29 : decode cX8_weighExactly 29 = .ok (.iconst 1, 1) := by decide +kernel
theorem dX8_weighExactly_30 : decode cX8_weighExactly 30 = .ok (.iload_n 1, 1) := by decide +kernel
theorem dX8_weighExactly_31 : decode cX8_weighExactly 31 = .ok (.iload_n 2, 1) := by decide +kernel
theorem dX8_weighExactly_32 : decode cX8_weighExactly 32 = .ok (.iload_n 3, 1) := by decide +kernel
theorem dX8_weighExactly_33 : decode cX8_weighExactly 33 = .ok (.iload 4, 2) := by decide +kernel
theorem dX8_weighExactly_35 : decode cX8_weighExactly 35 = .ok (.invokevirtual 15, 3) := by decide +kernel
theorem dX8_weighExactly_38 : decode cX8_weighExactly 38 = .ok (.return_, 1) := by decide +kernel
theorem dX8_weigh_0 : decode cX8_weigh 0 = .ok (.aload_n 0, 1) := by decide +kernel
theorem dX8_weigh_1 : decode cX8_weigh 1 = .ok (.iconst 0, 1) := by decide +kernel
theorem dX8_weigh_2 : decode cX8_weigh 2 = .ok (.iload 4, 2) := by decide +kernel
theorem dX8_weigh_4 : decode cX8_weigh 4 = .ok (.bipush 6, 2) := by decide +kernel
theorem dX8_weigh_6 : decode cX8_weigh 6 = .ok (.invokestatic 19, 3) := by decide +kernel
theorem dX8_weigh_9 : decode cX8_weigh 9 = .ok (.invokestatic 25, 3) := by decide +kernel
theorem dX8_weigh_12 : decode cX8_weigh 12 = .ok (.putfield 28, 3) := by decide +kernel
theorem dX8_weigh_15 : decode cX8_weigh 15 = .ok (.aload_n 0, 1) := by decide +kernel
theorem dX8_weigh_16 : decode cX8_weigh 16 = .ok (.iload 6, 2) := by decide +kernel
theorem dX8_weigh_18 : decode cX8_weigh 18 = .ok (.putfield 32, 3) := by decide +kernel
theorem dX8_weigh_21 : decode cX8_weigh 21 = .ok (.aload_n 0, 1) := by decide +kernel
theorem dX8_weigh_22 : decode cX8_weigh 22 = .ok (.getfield 9, 3) := by decide +kernel
theorem dX8_weigh_25 : decode cX8_weigh 25 = .ok (.iconst 0, 1) := by decide +kernel
theorem dX8_weigh_26 : decode cX8_weigh 26 = .ok (.lload_n 1, 1) := by decide +kernel
theorem dX8_weigh_27 : decode cX8_weigh 27 = .ok (.lastore, 1) := by decide +kernel
theorem dX8_weigh_28 : decode cX8_weigh 28 = .ok (.iconst 0, 1) := by decide +kernel
theorem dX8_weigh_29 : decode cX8_weigh 29 = .ok (.istore 8, 2) := by decide +kernel
theorem dX8_weigh_31 : decode cX8_weigh 31 = .ok (.iload 8, 2) := by decide +kernel
theorem dX8_weigh_33 : decode cX8_weigh 33 = .ok (.aload_n 0, 1) := by decide +kernel
theorem dX8_weigh_34 : decode cX8_weigh 34 = .ok (.getfield 28, 3) := by decide +kernel
theorem dX8_weigh_37 : decode cX8_weigh 37 = .ok (.if_icmp .ge 70, 3) := by decide +kernel
theorem dX8_weigh_40 : decode cX8_weigh 40 = .ok (.iload_n 3, 1) := by decide +kernel
theorem dX8_weigh_41 : decode cX8_weigh 41 = .ok (.i2l, 1) := by decide +kernel
theorem dX8_weigh_42 : decode cX8_weigh 42 = .ok (.iload 5, 2) := by decide +kernel
theorem dX8_weigh_44 : decode cX8_weigh 44 = .ok (.i2l, 1) := by decide +kernel
theorem dX8_weigh_45 : decode cX8_weigh 45 = .ok (.lmul, 1) := by decide +kernel
theorem dX8_weigh_46 : decode cX8_weigh 46 = .ok (.aload_n 0, 1) := by decide +kernel
theorem dX8_weigh_47 : decode cX8_weigh 47 = .ok (.iload 8, 2) := by decide +kernel
theorem dX8_weigh_49 : decode cX8_weigh 49 = .ok (.invokevirtual 35, 3) := by decide +kernel
theorem dX8_weigh_52 : decode cX8_weigh 52 = .ok (.ifCond .eq 8, 3) := by decide +kernel
theorem dX8_weigh_55 : decode cX8_weigh 55 = .ok (.iload 7, 2) := by decide +kernel
theorem dX8_weigh_57 : decode cX8_weigh 57 = .ok (.goto 4, 3) := by decide +kernel
theorem dX8_weigh_60 : decode cX8_weigh 60 = .ok (.iconst 0, 1) := by decide +kernel
theorem dX8_weigh_61 : decode cX8_weigh 61 = .ok (.i2l, 1) := by decide +kernel
theorem dX8_weigh_62 : decode cX8_weigh 62 = .ok (.ladd, 1) := by decide +kernel
theorem dX8_weigh_63 : decode cX8_weigh 63 = .ok (.lstore 9, 2) := by decide +kernel
theorem dX8_weigh_65 : decode cX8_weigh 65 = .ok (.lconst 1, 1) := by decide +kernel
theorem dX8_weigh_66 : decode cX8_weigh 66 = .ok (.iload_n 3, 1) := by decide +kernel
theorem dX8_weigh_67 : decode cX8_weigh 67 = .ok (.i2l, 1) := by decide +kernel
theorem dX8_weigh_68 : decode cX8_weigh 68 = .ok (.iload 8, 2) := by decide +kernel
theorem dX8_weigh_70 : decode cX8_weigh 70 = .ok (.iconst 1, 1) := by decide +kernel
theorem dX8_weigh_71 : decode cX8_weigh 71 = .ok (.iadd, 1) := by decide +kernel
theorem dX8_weigh_72 : decode cX8_weigh 72 = .ok (.i2l, 1) := by decide +kernel
theorem dX8_weigh_73 : decode cX8_weigh 73 = .ok (.lmul, 1) := by decide +kernel
theorem dX8_weigh_74 : decode cX8_weigh 74 = .ok (.invokestatic 39, 3) := by decide +kernel
theorem dX8_weigh_77 : decode cX8_weigh 77 = .ok (.lstore 11, 2) := by decide +kernel
theorem dX8_weigh_79 : decode cX8_weigh 79 = .ok (.aload_n 0, 1) := by decide +kernel
theorem dX8_weigh_80 : decode cX8_weigh 80 = .ok (.getfield 9, 3) := by decide +kernel
theorem dX8_weigh_83 : decode cX8_weigh 83 = .ok (.iload 8, 2) := by decide +kernel
theorem dX8_weigh_85 : decode cX8_weigh 85 = .ok (.iconst 1, 1) := by decide +kernel
theorem dX8_weigh_86 : decode cX8_weigh 86 = .ok (.iadd, 1) := by decide +kernel
theorem dX8_weigh_87 : decode cX8_weigh 87 = .ok (.aload_n 0, 1) := by decide +kernel
theorem dX8_weigh_88 : decode cX8_weigh 88 = .ok (.getfield 9, 3) := by decide +kernel
theorem dX8_weigh_91 : decode cX8_weigh 91 = .ok (.iload 8, 2) := by decide +kernel
theorem dX8_weigh_93 : decode cX8_weigh 93 = .ok (.laload, 1) := by decide +kernel
theorem dX8_weigh_94 : decode cX8_weigh 94 = .ok (.lload 9, 2) := by decide +kernel
theorem dX8_weigh_96 : decode cX8_weigh 96 = .ok (.lmul, 1) := by decide +kernel
theorem dX8_weigh_97 : decode cX8_weigh 97 = .ok (.lload 11, 2) := by decide +kernel
theorem dX8_weigh_99 : decode cX8_weigh 99 = .ok (.ldiv, 1) := by decide +kernel
theorem dX8_weigh_100 : decode cX8_weigh 100 = .ok (.lastore, 1) := by decide +kernel
theorem dX8_weigh_101 : decode cX8_weigh 101 = .ok (.iinc 8 1, 3) := by decide +kernel
theorem dX8_weigh_104 : decode cX8_weigh 104 = .ok (.goto (-73), 3) := by decide +kernel
theorem dX8_weigh_107 : decode cX8_weigh 107 = .ok (.return_, 1) := by decide +kernel
theorem dX8_takesOver_0 : decode cX8_takesOver 0 = .ok (.aload_n 0, 1) := by decide +kernel
theorem dX8_takesOver_1 : decode cX8_takesOver 1 = .ok (.getfield 28, 3) := by decide +kernel
theorem dX8_takesOver_4 : decode cX8_takesOver 4 = .ok (.iload_n 1, 1) := by decide +kernel
theorem dX8_takesOver_5 : decode cX8_takesOver 5 = .ok (.isub, 1) := by decide +kernel
theorem dX8_takesOver_6 : decode cX8_takesOver 6 = .ok (.aload_n 0, 1) := by decide +kernel
theorem dX8_takesOver_7 : decode cX8_takesOver 7 = .ok (.getfield 32, 3) := by decide +kernel
theorem dX8_takesOver_10 : decode cX8_takesOver 10 = .ok (.if_icmp .le 7, 3) := by decide +kernel
theorem dX8_takesOver_13 : decode cX8_takesOver 13 = .ok (.iconst 1, 1) := by decide +kernel
theorem dX8_takesOver_14 : decode cX8_takesOver 14 = .ok (.goto 4, 3) := by decide +kernel
theorem dX8_takesOver_17 : decode cX8_takesOver 17 = .ok (.iconst 0, 1) := by decide +kernel
theorem dX8_takesOver_18 : decode cX8_takesOver 18 = .ok (.ireturn, 1) := by decide +kernel
theorem dX8_all_0 : decode cX8_all 0 = .ok (.lconst 0, 1) := by decide +kernel
theorem dX8_all_1 : decode cX8_all 1 = .ok (.lstore_n 1, 1) := by decide +kernel
theorem dX8_all_2 : decode cX8_all 2 = .ok (.iconst 0, 1) := by decide +kernel
theorem dX8_all_3 : decode cX8_all 3 = .ok (.istore_n 3, 1) := by decide +kernel
theorem dX8_all_4 : decode cX8_all 4 = .ok (.iload_n 3, 1) := by decide +kernel
theorem dX8_all_5 : decode cX8_all 5 = .ok (.aload_n 0, 1) := by decide +kernel
theorem dX8_all_6 : decode cX8_all 6 = .ok (.getfield 28, 3) := by decide +kernel
theorem dX8_all_9 : decode cX8_all 9 = .ok (.if_icmp .gt 18, 3) := by decide +kernel
theorem dX8_all_12 : decode cX8_all 12 = .ok (.lload_n 1, 1) := by decide +kernel
theorem dX8_all_13 : decode cX8_all 13 = .ok (.aload_n 0, 1) := by decide +kernel
theorem dX8_all_14 : decode cX8_all 14 = .ok (.getfield 9, 3) := by decide +kernel
theorem dX8_all_17 : decode cX8_all 17 = .ok (.iload_n 3, 1) := by decide +kernel
theorem dX8_all_18 : decode cX8_all 18 = .ok (.laload, 1) := by decide +kernel
theorem dX8_all_19 : decode cX8_all 19 = .ok (.ladd, 1) := by decide +kernel
theorem dX8_all_20 : decode cX8_all 20 = .ok (.lstore_n 1, 1) := by decide +kernel
theorem dX8_all_21 : decode cX8_all 21 = .ok (.iinc 3 1, 3) := by decide +kernel
theorem dX8_all_24 : decode cX8_all 24 = .ok (.goto (-20), 3) := by decide +kernel
theorem dX8_all_27 : decode cX8_all 27 = .ok (.lload_n 1, 1) := by decide +kernel
theorem dX8_all_28 : decode cX8_all 28 = .ok (.lreturn, 1) := by decide +kernel
theorem dX8_ofAllHeld_0 : decode cX8_ofAllHeld 0 = .ok (.aload_n 0, 1) := by decide +kernel
theorem dX8_ofAllHeld_1 : decode cX8_ofAllHeld 1 = .ok (.getfield 9, 3) := by decide +kernel
theorem dX8_ofAllHeld_4 : decode cX8_ofAllHeld 4 = .ok (.aload_n 0, 1) := by decide +kernel
theorem dX8_ofAllHeld_5 : decode cX8_ofAllHeld 5 = .ok (.getfield 28, 3) := by decide +kernel
theorem dX8_ofAllHeld_8 : decode cX8_ofAllHeld 8 = .ok (.laload, 1) := by decide +kernel
theorem dX8_ofAllHeld_9 : decode cX8_ofAllHeld 9 = .ok (.lreturn, 1) := by decide +kernel
theorem dX8_ofRefusing_0 : decode cX8_ofRefusing 0 = .ok (.lconst 0, 1) := by decide +kernel
theorem dX8_ofRefusing_1 : decode cX8_ofRefusing 1 = .ok (.lstore_n 1, 1) := by decide +kernel
theorem dX8_ofRefusing_2 : decode cX8_ofRefusing 2 = .ok (.iconst 0, 1) := by decide +kernel
theorem dX8_ofRefusing_3 : decode cX8_ofRefusing 3 = .ok (.istore_n 3, 1) := by decide +kernel
theorem dX8_ofRefusing_4 : decode cX8_ofRefusing 4 = .ok (.iload_n 3, 1) := by decide +kernel
theorem dX8_ofRefusing_5 : decode cX8_ofRefusing 5 = .ok (.aload_n 0, 1) := by decide +kernel
theorem dX8_ofRefusing_6 : decode cX8_ofRefusing 6 = .ok (.getfield 28, 3) := by decide +kernel
theorem dX8_ofRefusing_9 : decode cX8_ofRefusing 9 = .ok (.if_icmp .gt 26, 3) := by decide +kernel
theorem dX8_ofRefusing_12 : decode cX8_ofRefusing 12 = .ok (.aload_n 0, 1) := by decide +kernel
theorem dX8_ofRefusing_13 : decode cX8_ofRefusing 13 = .ok (.iload_n 3, 1) := by decide +kernel
theorem dX8_ofRefusing_14 : decode cX8_ofRefusing 14 = .ok (.invokevirtual 35, 3) := by decide +kernel
theorem dX8_ofRefusing_17 : decode cX8_ofRefusing 17 = .ok (.ifCond .ne 12, 3) := by decide +kernel
theorem dX8_ofRefusing_20 : decode cX8_ofRefusing 20 = .ok (.lload_n 1, 1) := by decide +kernel
theorem dX8_ofRefusing_21 : decode cX8_ofRefusing 21 = .ok (.aload_n 0, 1) := by decide +kernel
theorem dX8_ofRefusing_22 : decode cX8_ofRefusing 22 = .ok (.getfield 9, 3) := by decide +kernel
theorem dX8_ofRefusing_25 : decode cX8_ofRefusing 25 = .ok (.iload_n 3, 1) := by decide +kernel
theorem dX8_ofRefusing_26 : decode cX8_ofRefusing 26 = .ok (.laload, 1) := by decide +kernel
theorem dX8_ofRefusing_27 : decode cX8_ofRefusing 27 = .ok (.ladd, 1) := by decide +kernel
theorem dX8_ofRefusing_28 : decode cX8_ofRefusing 28 = .ok (.lstore_n 1, 1) := by decide +kernel
theorem dX8_ofRefusing_29 : decode cX8_ofRefusing 29 = .ok (.iinc 3 1, 3) := by decide +kernel
theorem dX8_ofRefusing_32 : decode cX8_ofRefusing 32 = .ok (.goto (-28), 3) := by decide +kernel
theorem dX8_ofRefusing_35 : decode cX8_ofRefusing 35 = .ok (.lload_n 1, 1) := by decide +kernel
theorem dX8_ofRefusing_36 : decode cX8_ofRefusing 36 = .ok (.lreturn, 1) := by decide +kernel
theorem dX8_timesHeld_0 : decode cX8_timesHeld 0 = .ok (.lconst 0, 1) := by decide +kernel
theorem dX8_timesHeld_1 : decode cX8_timesHeld 1 = .ok (.lstore_n 1, 1) := by decide +kernel
theorem dX8_timesHeld_2 : decode cX8_timesHeld 2 = .ok (.iconst 0, 1) := by decide +kernel
theorem dX8_timesHeld_3 : decode cX8_timesHeld 3 = .ok (.istore_n 3, 1) := by decide +kernel
theorem dX8_timesHeld_4 : decode cX8_timesHeld 4 = .ok (.iload_n 3, 1) := by decide +kernel
theorem dX8_timesHeld_5 : decode cX8_timesHeld 5 = .ok (.aload_n 0, 1) := by decide +kernel
theorem dX8_timesHeld_6 : decode cX8_timesHeld 6 = .ok (.getfield 28, 3) := by decide +kernel
theorem dX8_timesHeld_9 : decode cX8_timesHeld 9 = .ok (.if_icmp .gt 21, 3) := by decide +kernel
theorem dX8_timesHeld_12 : decode cX8_timesHeld 12 = .ok (.lload_n 1, 1) := by decide +kernel
theorem dX8_timesHeld_13 : decode cX8_timesHeld 13 = .ok (.iload_n 3, 1) := by decide +kernel
theorem dX8_timesHeld_14 : decode cX8_timesHeld 14 = .ok (.i2l, 1) := by decide +kernel
theorem dX8_timesHeld_15 : decode cX8_timesHeld 15 = .ok (.aload_n 0, 1) := by decide +kernel
theorem dX8_timesHeld_16 : decode cX8_timesHeld 16 = .ok (.getfield 9, 3) := by decide +kernel
theorem dX8_timesHeld_19 : decode cX8_timesHeld 19 = .ok (.iload_n 3, 1) := by decide +kernel
theorem dX8_timesHeld_20 : decode cX8_timesHeld 20 = .ok (.laload, 1) := by decide +kernel
theorem dX8_timesHeld_21 : decode cX8_timesHeld 21 = .ok (.lmul, 1) := by decide +kernel
theorem dX8_timesHeld_22 : decode cX8_timesHeld 22 = .ok (.ladd, 1) := by decide +kernel
theorem dX8_timesHeld_23 : decode cX8_timesHeld 23 = .ok (.lstore_n 1, 1) := by decide +kernel
theorem dX8_timesHeld_24 : decode cX8_timesHeld 24 = .ok (.iinc 3 1, 3) := by decide +kernel
theorem dX8_timesHeld_27 : decode cX8_timesHeld 27 = .ok (.goto (-23), 3) := by decide +kernel
theorem dX8_timesHeld_30 : decode cX8_timesHeld 30 = .ok (.lload_n 1, 1) := by decide +kernel
theorem dX8_timesHeld_31 : decode cX8_timesHeld 31 = .ok (.lreturn, 1) := by decide +kernel
theorem dX8_losesAtMost_0 : decode cX8_losesAtMost 0 = .ok (.ldc2_w 42, 3) := by decide +kernel
theorem dX8_losesAtMost_3 : decode cX8_losesAtMost 3 = .ok (.aload_n 0, 1) := by decide +kernel
theorem dX8_losesAtMost_4 : decode cX8_losesAtMost 4 = .ok (.invokevirtual 44, 3) := by decide +kernel
theorem dX8_losesAtMost_7 : decode cX8_losesAtMost 7 = .ok (.lmul, 1) := by decide +kernel
theorem dX8_losesAtMost_8 : decode cX8_losesAtMost 8 = .ok (.iload_n 1, 1) := by decide +kernel
theorem dX8_losesAtMost_9 : decode cX8_losesAtMost 9 = .ok (.i2l, 1) := by decide +kernel
theorem dX8_losesAtMost_10 : decode cX8_losesAtMost 10 = .ok (.aload_n 0, 1) := by decide +kernel
theorem dX8_losesAtMost_11 : decode cX8_losesAtMost 11 = .ok (.invokevirtual 48, 3) := by decide +kernel
theorem dX8_losesAtMost_14 : decode cX8_losesAtMost 14 = .ok (.lmul, 1) := by decide +kernel
theorem dX8_losesAtMost_15 : decode cX8_losesAtMost 15 = .ok (.lcmp, 1) := by decide +kernel
theorem dX8_losesAtMost_16 : decode cX8_losesAtMost 16 = .ok (.ifCond .gt 7, 3) := by decide +kernel
theorem dX8_losesAtMost_19 : decode cX8_losesAtMost 19 = .ok (.iconst 1, 1) := by decide +kernel
theorem dX8_losesAtMost_20 : decode cX8_losesAtMost 20 = .ok (.goto 4, 3) := by decide +kernel
theorem dX8_losesAtMost_23 : decode cX8_losesAtMost 23 = .ok (.iconst 0, 1) := by decide +kernel
theorem dX8_losesAtMost_24 : decode cX8_losesAtMost 24 = .ok (.ireturn, 1) := by decide +kernel
theorem dX9_init_0 : decode cX9_init 0 = .ok (.aload_n 0, 1) := by decide +kernel
theorem dX9_init_1 : decode cX9_init 1 = .ok (.invokespecial 1, 3) := by decide +kernel
theorem dX9_init_4 : decode cX9_init 4 = .ok (.aload_n 0, 1) := by decide +kernel
theorem dX9_init_5 : decode cX9_init 5 = .ok (.new 7, 3) := by decide +kernel
theorem dX9_init_8 : decode cX9_init 8 = .ok (.dup, 1) := by decide +kernel
theorem dX9_init_9 : decode cX9_init 9 = .ok (.invokespecial 9, 3) := by decide +kernel
theorem dX9_init_12 : decode cX9_init 12 = .ok (.putfield 10, 3) := by decide +kernel
theorem dX9_init_15 : decode cX9_init 15 = .ok (.aload_n 0, 1) := by decide +kernel
theorem dX9_init_16 : decode cX9_init 16 = .ok (.new 16, 3) := by decide +kernel
theorem dX9_init_19 : decode cX9_init 19 = .ok (.dup, 1) := by decide +kernel
theorem dX9_init_20 : decode cX9_init 20 = .ok (.invokespecial 18, 3) := by decide +kernel
theorem dX9_init_23 : decode cX9_init 23 = .ok (.putfield 19, 3) := by decide +kernel
theorem dX9_init_26 : decode cX9_init 26 = .ok (.aload_n 0, 1) := by decide +kernel
theorem dX9_init_27 : decode cX9_init 27 = .ok (.iconst 2, 1) := by decide +kernel
theorem dX9_init_28 : decode cX9_init 28 = .ok (.anewarray 23, 3) := by decide +kernel
theorem dX9_init_31 : decode cX9_init 31 = .ok (.putfield 25, 3) := by decide +kernel
theorem dX9_init_34 : decode cX9_init 34 = .ok (.iconst 0, 1) := by decide +kernel
theorem dX9_init_35 : decode cX9_init 35 = .ok (.istore_n 1, 1) := by decide +kernel
theorem dX9_init_36 : decode cX9_init 36 = .ok (.iload_n 1, 1) := by decide +kernel
theorem dX9_init_37 : decode cX9_init 37 = .ok (.iconst 2, 1) := by decide +kernel
theorem dX9_init_38 : decode cX9_init 38 = .ok (.if_icmp .ge 22, 3) := by decide +kernel
theorem dX9_init_41 : decode cX9_init 41 = .ok (.aload_n 0, 1) := by decide +kernel
theorem dX9_init_42 : decode cX9_init 42 = .ok (.getfield 25, 3) := by decide +kernel
theorem dX9_init_45 : decode cX9_init 45 = .ok (.iload_n 1, 1) := by decide +kernel
theorem dX9_init_46 : decode cX9_init 46 = .ok (.new 23, 3) := by decide +kernel
theorem dX9_init_49 : decode cX9_init 49 = .ok (.dup, 1) := by decide +kernel
theorem dX9_init_50 : decode cX9_init 50 = .ok (.invokespecial 29, 3) := by decide +kernel
theorem dX9_init_53 : decode cX9_init 53 = .ok (.aastore, 1) := by decide +kernel
theorem dX9_init_54 : decode cX9_init 54 = .ok (.iinc 1 1, 3) := by decide +kernel
theorem dX9_init_57 : decode cX9_init 57 = .ok (.goto (-21), 3) := by decide +kernel
theorem dX9_init_60 : decode cX9_init 60 = .ok (.aload_n 0, 1) := by decide +kernel
theorem dX9_init_61 : decode cX9_init 61 = .ok (.new 30, 3) := by decide +kernel
theorem dX9_init_64 : decode cX9_init 64 = .ok (.dup, 1) := by decide +kernel
theorem dX9_init_65 : decode cX9_init 65 = .ok (.invokespecial 32, 3) := by decide +kernel
theorem dX9_init_68 : decode cX9_init 68 = .ok (.putfield 33, 3) := by decide +kernel
theorem dX9_init_71 : decode cX9_init 71 = .ok (.aload_n 0, 1) := by decide +kernel
theorem dX9_init_72 : decode cX9_init 72 = .ok (.new 37, 3) := by decide +kernel
theorem dX9_init_75 : decode cX9_init 75 = .ok (.dup, 1) := by decide +kernel
theorem dX9_init_76 : decode cX9_init 76 = .ok (.invokespecial 39, 3) := by decide +kernel
theorem dX9_init_79 : decode cX9_init 79 = .ok (.putfield 40, 3) := by decide +kernel
theorem dX9_init_82 : decode cX9_init 82 = .ok (.aload_n 0, 1) := by decide +kernel
theorem dX9_init_83 : decode cX9_init 83 = .ok (.new 44, 3) := by decide +kernel
theorem dX9_init_86 : decode cX9_init 86 = .ok (.dup, 1) := by decide +kernel
theorem dX9_init_87 : decode cX9_init 87 = .ok (.invokespecial 46, 3) := by decide +kernel
theorem dX9_init_90 : decode cX9_init 90 = .ok (.putfield 47, 3) := by decide +kernel
theorem dX9_init_93 : decode cX9_init 93 = .ok (.aload_n 0, 1) := by decide +kernel
theorem dX9_init_94 : decode cX9_init 94 = .ok (.new 51, 3) := by decide +kernel
theorem dX9_init_97 : decode cX9_init 97 = .ok (.dup, 1) := by decide +kernel
theorem dX9_init_98 : decode cX9_init 98 = .ok (.invokespecial 53, 3) := by decide +kernel
theorem dX9_init_101 : decode cX9_init 101 = .ok (.putfield 54, 3) := by decide +kernel
theorem dX9_init_104 : decode cX9_init 104 = .ok (.aload_n 0, 1) := by decide +kernel
theorem dX9_init_105 : decode cX9_init 105 = .ok (.new 58, 3) := by decide +kernel
theorem dX9_init_108 : decode cX9_init 108 = .ok (.dup, 1) := by decide +kernel
theorem dX9_init_109 : decode cX9_init 109 = .ok (.invokespecial 60, 3) := by decide +kernel
theorem dX9_init_112 : decode cX9_init 112 = .ok (.putfield 61, 3) := by decide +kernel
theorem dX9_init_115 : decode cX9_init 115 = .ok (.return_, 1) := by decide +kernel
theorem dX9_told_0 : decode cX9_told 0 = .ok (.iload_n 1, 1) := by decide +kernel
theorem dX9_told_1 : decode cX9_told 1 = .ok (.tableswitch 142 0 8 #[51, 59, 67, 75, 83, 91, 114, 122, 134], 51) := by decide +kernel
theorem dX9_told_52 : decode cX9_told 52 = .ok (.aload_n 0, 1) := by decide +kernel
theorem dX9_told_53 : decode cX9_told 53 = .ok (.getfield 10, 3) := by decide +kernel
theorem dX9_told_56 : decode cX9_told 56 = .ok (.getfield 65, 3) := by decide +kernel
theorem dX9_told_59 : decode cX9_told 59 = .ok (.ireturn, 1) := by decide +kernel
theorem dX9_told_60 : decode cX9_told 60 = .ok (.aload_n 0, 1) := by decide +kernel
theorem dX9_told_61 : decode cX9_told 61 = .ok (.getfield 10, 3) := by decide +kernel
theorem dX9_told_64 : decode cX9_told 64 = .ok (.getfield 69, 3) := by decide +kernel
theorem dX9_told_67 : decode cX9_told 67 = .ok (.ireturn, 1) := by decide +kernel
theorem dX9_told_68 : decode cX9_told 68 = .ok (.aload_n 0, 1) := by decide +kernel
theorem dX9_told_69 : decode cX9_told 69 = .ok (.getfield 10, 3) := by decide +kernel
theorem dX9_told_72 : decode cX9_told 72 = .ok (.getfield 72, 3) := by decide +kernel
theorem dX9_told_75 : decode cX9_told 75 = .ok (.ireturn, 1) := by decide +kernel
theorem dX9_told_76 : decode cX9_told 76 = .ok (.aload_n 0, 1) := by decide +kernel
theorem dX9_told_77 : decode cX9_told 77 = .ok (.getfield 10, 3) := by decide +kernel
theorem dX9_told_80 : decode cX9_told 80 = .ok (.invokevirtual 75, 3) := by decide +kernel
theorem dX9_told_83 : decode cX9_told 83 = .ok (.ireturn, 1) := by decide +kernel
theorem dX9_told_84 : decode cX9_told 84 = .ok (.aload_n 0, 1) := by decide +kernel
theorem dX9_told_85 : decode cX9_told 85 = .ok (.getfield 10, 3) := by decide +kernel
theorem dX9_told_88 : decode cX9_told 88 = .ok (.invokevirtual 79, 3) := by decide +kernel
theorem dX9_told_91 : decode cX9_told 91 = .ok (.ireturn, 1) := by decide +kernel
theorem dX9_told_92 : decode cX9_told 92 = .ok (.aload_n 0, 1) := by decide +kernel
theorem dX9_told_93 : decode cX9_told 93 = .ok (.getfield 61, 3) := by decide +kernel
theorem dX9_told_96 : decode cX9_told 96 = .ok (.aload_n 0, 1) := by decide +kernel
theorem dX9_told_97 : decode cX9_told 97 = .ok (.getfield 10, 3) := by decide +kernel
theorem dX9_told_100 : decode cX9_told 100 = .ok (.aload_n 0, 1) := by decide +kernel
theorem dX9_told_101 : decode cX9_told 101 = .ok (.getfield 47, 3) := by decide +kernel
theorem dX9_told_104 : decode cX9_told 104 = .ok (.invokevirtual 82, 3) := by decide +kernel
theorem dX9_told_107 : decode cX9_told 107 = .ok (.aload_n 0, 1) := by decide +kernel
theorem dX9_told_108 : decode cX9_told 108 = .ok (.getfield 61, 3) := by decide +kernel
theorem dX9_told_111 : decode cX9_told 111 = .ok (.getfield 86, 3) := by decide +kernel
theorem dX9_told_114 : decode cX9_told 114 = .ok (.ireturn, 1) := by decide +kernel
theorem dX9_told_115 : decode cX9_told 115 = .ok (.aload_n 0, 1) := by decide +kernel
theorem dX9_told_116 : decode cX9_told 116 = .ok (.getfield 33, 3) := by decide +kernel
theorem dX9_told_119 : decode cX9_told 119 = .ok (.getfield 89, 3) := by decide +kernel
theorem dX9_told_122 : decode cX9_told 122 = .ok (.ireturn, 1) := by decide +kernel
theorem dX9_told_123 : decode cX9_told 123 = .ok (.aload_n 0, 1) := by decide +kernel
theorem dX9_told_124 : decode cX9_told 124 = .ok (.getfield 33, 3) := by decide +kernel
theorem dX9_told_127 : decode cX9_told 127 = .ok (.aload_n 0, 1) := by decide +kernel
theorem dX9_told_128 : decode cX9_told 128 = .ok (.getfield 10, 3) := by decide +kernel
theorem dX9_told_131 : decode cX9_told 131 = .ok (.invokevirtual 90, 3) := by decide +kernel
theorem dX9_told_134 : decode cX9_told 134 = .ok (.ireturn, 1) := by decide +kernel
theorem dX9_told_135 : decode cX9_told 135 = .ok (.aload_n 0, 1) := by decide +kernel
theorem dX9_told_136 : decode cX9_told 136 = .ok (.getfield 19, 3) := by decide +kernel
theorem dX9_told_139 : decode cX9_told 139 = .ok (.getfield 94, 3) := by decide +kernel
theorem dX9_told_142 : decode cX9_told 142 = .ok (.ireturn, 1) := by decide +kernel
theorem dX9_told_143 : decode cX9_told 143 = .ok (.ldc 95, 2) := by decide +kernel
theorem dX9_told_145 : decode cX9_told 145 = .ok (.ireturn, 1) := by decide +kernel
theorem dX9_group_0 : decode cX9_group 0 = .ok (.aload_n 0, 1) := by decide +kernel
theorem dX9_group_1 : decode cX9_group 1 = .ok (.getfield 10, 3) := by decide +kernel
theorem dX9_group_4 : decode cX9_group 4 = .ok (.iload_n 1, 1) := by decide +kernel
theorem dX9_group_5 : decode cX9_group 5 = .ok (.invokevirtual 96, 3) := by decide +kernel
theorem dX9_group_8 : decode cX9_group 8 = .ok (.astore_n 3, 1) := by decide +kernel
theorem dX9_group_9 : decode cX9_group 9 = .ok (.aload_n 3, 1) := by decide +kernel
theorem dX9_group_10 : decode cX9_group 10 = .ok (.ifnonnull 6, 3) := by decide +kernel
theorem dX9_group_13 : decode cX9_group 13 = .ok (.ldc 100, 2) := by decide +kernel
theorem dX9_group_15 : decode cX9_group 15 = .ok (.ireturn, 1) := by decide +kernel
theorem dX9_group_16 : decode cX9_group 16 = .ok (.iload_n 2, 1) := by decide +kernel
theorem dX9_group_17 : decode cX9_group 17 = .ok (.tableswitch 195 0 14 #[75, 80, 85, 90, 95, 100, 106, 112, 118, 123, 128, 133, 138, 147, 171], 75) := by decide +kernel
theorem dX9_group_92 : decode cX9_group 92 = .ok (.aload_n 3, 1) := by decide +kernel
theorem dX9_group_93 : decode cX9_group 93 = .ok (.getfield 101, 3) := by decide +kernel
theorem dX9_group_96 : decode cX9_group 96 = .ok (.ireturn, 1) := by decide +kernel
theorem dX9_group_97 : decode cX9_group 97 = .ok (.aload_n 3, 1) := by decide +kernel
theorem dX9_group_98 : decode cX9_group 98 = .ok (.getfield 106, 3) := by decide +kernel
theorem dX9_group_101 : decode cX9_group 101 = .ok (.ireturn, 1) := by decide +kernel
theorem dX9_group_102 : decode cX9_group 102 = .ok (.aload_n 3, 1) := by decide +kernel
theorem dX9_group_103 : decode cX9_group 103 = .ok (.getfield 109, 3) := by decide +kernel
theorem dX9_group_106 : decode cX9_group 106 = .ok (.ireturn, 1) := by decide +kernel
theorem dX9_group_107 : decode cX9_group 107 = .ok (.aload_n 3, 1) := by decide +kernel
theorem dX9_group_108 : decode cX9_group 108 = .ok (.getfield 112, 3) := by decide +kernel
theorem dX9_group_111 : decode cX9_group 111 = .ok (.ireturn, 1) := by decide +kernel
theorem dX9_group_112 : decode cX9_group 112 = .ok (.aload_n 3, 1) := by decide +kernel
theorem dX9_group_113 : decode cX9_group 113 = .ok (.getfield 115, 3) := by decide +kernel
theorem dX9_group_116 : decode cX9_group 116 = .ok (.ireturn, 1) := by decide +kernel
theorem dX9_group_117 : decode cX9_group 117 = .ok (.aload_n 3, 1) := by decide +kernel
theorem dX9_group_118 : decode cX9_group 118 = .ok (.iconst 0, 1) := by decide +kernel
theorem dX9_group_119 : decode cX9_group 119 = .ok (.invokevirtual 118, 3) := by decide +kernel
theorem dX9_group_122 : decode cX9_group 122 = .ok (.ireturn, 1) := by decide +kernel
theorem dX9_group_123 : decode cX9_group 123 = .ok (.aload_n 3, 1) := by decide +kernel
theorem dX9_group_124 : decode cX9_group 124 = .ok (.iconst 1, 1) := by decide +kernel
theorem dX9_group_125 : decode cX9_group 125 = .ok (.invokevirtual 118, 3) := by decide +kernel
theorem dX9_group_128 : decode cX9_group 128 = .ok (.ireturn, 1) := by decide +kernel
theorem dX9_group_129 : decode cX9_group 129 = .ok (.aload_n 3, 1) := by decide +kernel
theorem dX9_group_130 : decode cX9_group 130 = .ok (.iconst 2, 1) := by decide +kernel
theorem dX9_group_131 : decode cX9_group 131 = .ok (.invokevirtual 118, 3) := by decide +kernel
theorem dX9_group_134 : decode cX9_group 134 = .ok (.ireturn, 1) := by decide +kernel
theorem dX9_group_135 : decode cX9_group 135 = .ok (.aload_n 3, 1) := by decide +kernel
theorem dX9_group_136 : decode cX9_group 136 = .ok (.getfield 122, 3) := by decide +kernel
theorem dX9_group_139 : decode cX9_group 139 = .ok (.ireturn, 1) := by decide +kernel
theorem dX9_group_140 : decode cX9_group 140 = .ok (.aload_n 3, 1) := by decide +kernel
theorem dX9_group_141 : decode cX9_group 141 = .ok (.getfield 125, 3) := by decide +kernel
theorem dX9_group_144 : decode cX9_group 144 = .ok (.ireturn, 1) := by decide +kernel
theorem dX9_group_145 : decode cX9_group 145 = .ok (.aload_n 3, 1) := by decide +kernel
theorem dX9_group_146 : decode cX9_group 146 = .ok (.getfield 128, 3) := by decide +kernel
theorem dX9_group_149 : decode cX9_group 149 = .ok (.ireturn, 1) := by decide +kernel
theorem dX9_group_150 : decode cX9_group 150 = .ok (.aload_n 3, 1) := by decide +kernel
theorem dX9_group_151 : decode cX9_group 151 = .ok (.getfield 131, 3) := by decide +kernel
theorem dX9_group_154 : decode cX9_group 154 = .ok (.ireturn, 1) := by decide +kernel
theorem dX9_group_155 : decode cX9_group 155 = .ok (.aload_n 0, 1) := by decide +kernel
theorem dX9_group_156 : decode cX9_group 156 = .ok (.getfield 10, 3) := by decide +kernel
theorem dX9_group_159 : decode cX9_group 159 = .ok (.iload_n 1, 1) := by decide +kernel
theorem dX9_group_160 : decode cX9_group 160 = .ok (.invokevirtual 134, 3) := by decide +kernel
theorem dX9_group_163 : decode cX9_group 163 = .ok (.ireturn, 1) := by decide +kernel
theorem dX9_group_164 : decode cX9_group 164 = .ok (.aload_n 0, 1) := by decide +kernel
theorem dX9_group_165 : decode cX9_group 165 = .ok (.getfield 61, 3) := by decide +kernel
theorem dX9_group_168 : decode cX9_group 168 = .ok (.aload_n 0, 1) := by decide +kernel
theorem dX9_group_169 : decode cX9_group 169 = .ok (.getfield 10, 3) := by decide +kernel
theorem dX9_group_172 : decode cX9_group 172 = .ok (.aload_n 0, 1) := by decide +kernel
theorem dX9_group_173 : decode cX9_group 173 = .ok (.getfield 47, 3) := by decide +kernel
theorem dX9_group_176 : decode cX9_group 176 = .ok (.invokevirtual 82, 3) := by decide +kernel
theorem dX9_group_179 : decode cX9_group 179 = .ok (.aload_n 0, 1) := by decide +kernel
theorem dX9_group_180 : decode cX9_group 180 = .ok (.getfield 61, 3) := by decide +kernel
theorem dX9_group_183 : decode cX9_group 183 = .ok (.iload_n 1, 1) := by decide +kernel
theorem dX9_group_184 : decode cX9_group 184 = .ok (.invokevirtual 137, 3) := by decide +kernel
theorem dX9_group_187 : decode cX9_group 187 = .ok (.ireturn, 1) := by decide +kernel
theorem dX9_group_188 : decode cX9_group 188 = .ok (.aload_n 0, 1) := by decide +kernel
theorem dX9_group_189 : decode cX9_group 189 = .ok (.getfield 61, 3) := by decide +kernel
theorem dX9_group_192 : decode cX9_group 192 = .ok (.aload_n 0, 1) := by decide +kernel
theorem dX9_group_193 : decode cX9_group 193 = .ok (.getfield 10, 3) := by decide +kernel
theorem dX9_group_196 : decode cX9_group 196 = .ok (.aload_n 0, 1) := by decide +kernel
theorem dX9_group_197 : decode cX9_group 197 = .ok (.getfield 47, 3) := by decide +kernel
theorem dX9_group_200 : decode cX9_group 200 = .ok (.invokevirtual 82, 3) := by decide +kernel
theorem dX9_group_203 : decode cX9_group 203 = .ok (.aload_n 0, 1) := by decide +kernel
theorem dX9_group_204 : decode cX9_group 204 = .ok (.getfield 61, 3) := by decide +kernel
theorem dX9_group_207 : decode cX9_group 207 = .ok (.iload_n 1, 1) := by decide +kernel
theorem dX9_group_208 : decode cX9_group 208 = .ok (.invokevirtual 140, 3) := by decide +kernel
theorem dX9_group_211 : decode cX9_group 211 = .ok (.ireturn, 1) := by decide +kernel
theorem dX9_group_212 : decode cX9_group 212 = .ok (.ldc 95, 2) := by decide +kernel
theorem dX9_group_214 : decode cX9_group 214 = .ok (.ireturn, 1) := by decide +kernel
theorem dX9_line_0 : decode cX9_line 0 = .ok (.aload_n 0, 1) := by decide +kernel
theorem dX9_line_1 : decode cX9_line 1 = .ok (.getfield 10, 3) := by decide +kernel
theorem dX9_line_4 : decode cX9_line 4 = .ok (.iload_n 1, 1) := by decide +kernel
theorem dX9_line_5 : decode cX9_line 5 = .ok (.iload_n 2, 1) := by decide +kernel
theorem dX9_line_6 : decode cX9_line 6 = .ok (.invokevirtual 143, 3) := by decide +kernel
theorem dX9_line_9 : decode cX9_line 9 = .ok (.astore 4, 2) := by decide +kernel
theorem dX9_line_11 : decode cX9_line 11 = .ok (.aload 4, 2) := by decide +kernel
theorem dX9_line_13 : decode cX9_line 13 = .ok (.ifnonnull 6, 3) := by decide +kernel
theorem dX9_line_16 : decode cX9_line 16 = .ok (.ldc 100, 2) := by decide +kernel
theorem dX9_line_18 : decode cX9_line 18 = .ok (.ireturn, 1) := by decide +kernel
theorem dX9_line_19 : decode cX9_line 19 = .ok (.iload_n 3, 1) := by decide +kernel
theorem dX9_line_20 : decode cX9_line 20 = .ok (.tableswitch 52 0 2 #[28, 36, 44], 28) := by decide +kernel
theorem dX9_line_48 : decode cX9_line 48 = .ok (.aload 4, 2) := by decide +kernel
theorem dX9_line_50 : decode cX9_line 50 = .ok (.getfield 147, 3) := by decide +kernel
theorem dX9_line_53 : decode cX9_line 53 = .ok (.iload_n 2, 1) := by decide +kernel
theorem dX9_line_54 : decode cX9_line 54 = .ok (.iaload, 1) := by decide +kernel
theorem dX9_line_55 : decode cX9_line 55 = .ok (.ireturn, 1) := by decide +kernel
theorem dX9_line_56 : decode cX9_line 56 = .ok (.aload 4, 2) := by decide +kernel
theorem dX9_line_58 : decode cX9_line 58 = .ok (.getfield 151, 3) := by decide +kernel
theorem dX9_line_61 : decode cX9_line 61 = .ok (.iload_n 2, 1) := by decide +kernel
theorem dX9_line_62 : decode cX9_line 62 = .ok (.iaload, 1) := by decide +kernel
theorem dX9_line_63 : decode cX9_line 63 = .ok (.ireturn, 1) := by decide +kernel
theorem dX9_line_64 : decode cX9_line 64 = .ok (.aload 4, 2) := by decide +kernel
theorem dX9_line_66 : decode cX9_line 66 = .ok (.getfield 154, 3) := by decide +kernel
theorem dX9_line_69 : decode cX9_line 69 = .ok (.iload_n 2, 1) := by decide +kernel
theorem dX9_line_70 : decode cX9_line 70 = .ok (.iaload, 1) := by decide +kernel
theorem dX9_line_71 : decode cX9_line 71 = .ok (.ireturn, 1) := by decide +kernel
theorem dX9_line_72 : decode cX9_line 72 = .ok (.ldc 95, 2) := by decide +kernel
theorem dX9_line_74 : decode cX9_line 74 = .ok (.ireturn, 1) := by decide +kernel
theorem dX9_build_0 : decode cX9_build 0 = .ok (.iload_n 1, 1) := by decide +kernel
theorem dX9_build_1 : decode cX9_build 1 = .ok (.iconst 1, 1) := by decide +kernel
theorem dX9_build_2 : decode cX9_build 2 = .ok (.iconst 4, 1) := by decide +kernel
theorem dX9_build_3 : decode cX9_build 3 = .ok (.invokestatic 157, 3) := by decide +kernel
theorem dX9_build_6 : decode cX9_build 6 = .ok (.ifCond .ne 6, 3) := by decide +kernel
theorem dX9_build_9 : decode cX9_build 9 = .ok (.ldc 95, 2) := by decide +kernel
theorem dX9_build_11 : decode cX9_build 11 = .ok (.ireturn, 1) := by decide +kernel
theorem dX9_build_12 : decode cX9_build 12 = .ok (.aload_n 0, 1) := by decide +kernel
theorem dX9_build_13 : decode cX9_build 13 = .ok (.getfield 19, 3) := by decide +kernel
theorem dX9_build_16 : decode cX9_build 16 = .ok (.aload_n 0, 1) := by decide +kernel
theorem dX9_build_17 : decode cX9_build 17 = .ok (.getfield 10, 3) := by decide +kernel
theorem dX9_build_20 : decode cX9_build 20 = .ok (.invokevirtual 161, 3) := by decide +kernel
theorem dX9_build_23 : decode cX9_build 23 = .ok (.aload_n 0, 1) := by decide +kernel
theorem dX9_build_24 : decode cX9_build 24 = .ok (.getfield 10, 3) := by decide +kernel
theorem dX9_build_27 : decode cX9_build 27 = .ok (.getfield 65, 3) := by decide +kernel
theorem dX9_build_30 : decode cX9_build 30 = .ok (.istore_n 2, 1) := by decide +kernel
theorem dX9_build_31 : decode cX9_build 31 = .ok (.aload_n 0, 1) := by decide +kernel
theorem dX9_build_32 : decode cX9_build 32 = .ok (.getfield 10, 3) := by decide +kernel
theorem dX9_build_35 : decode cX9_build 35 = .ok (.iload_n 1, 1) := by decide +kernel
theorem dX9_build_36 : decode cX9_build 36 = .ok (.invokevirtual 165, 3) := by decide +kernel
theorem dX9_build_39 : decode cX9_build 39 = .ok (.iload_n 2, 1) := by decide +kernel
theorem dX9_build_40 : decode cX9_build 40 = .ok (.ireturn, 1) := by decide +kernel
theorem dX9_shape_0 : decode cX9_shape 0 = .ok (.aload_n 0, 1) := by decide +kernel
theorem dX9_shape_1 : decode cX9_shape 1 = .ok (.getfield 10, 3) := by decide +kernel
theorem dX9_shape_4 : decode cX9_shape 4 = .ok (.iload_n 1, 1) := by decide +kernel
theorem dX9_shape_5 : decode cX9_shape 5 = .ok (.invokevirtual 96, 3) := by decide +kernel
theorem dX9_shape_8 : decode cX9_shape 8 = .ok (.astore 7, 2) := by decide +kernel
theorem dX9_shape_10 : decode cX9_shape 10 = .ok (.aload 7, 2) := by decide +kernel
theorem dX9_shape_12 : decode cX9_shape 12 = .ok (.ifnull 27, 3) := by decide +kernel
theorem dX9_shape_15 : decode cX9_shape 15 = .ok (.iload 5, 2) := by decide +kernel
theorem dX9_shape_17 : decode cX9_shape 17 = .ok (.iload_n 1, 1) := by decide +kernel
theorem dX9_shape_18 : decode cX9_shape 18 = .ok (.if_icmp .eq 21, 3) := by decide +kernel
theorem dX9_shape_21 : decode cX9_shape 21 = .ok (.iload 5, 2) := by decide +kernel
theorem dX9_shape_23 : decode cX9_shape 23 = .ok (.iconst (-1), 1) := by decide +kernel
theorem dX9_shape_24 : decode cX9_shape 24 = .ok (.if_icmp .eq 18, 3) := by decide +kernel
theorem dX9_shape_27 : decode cX9_shape 27 = .ok (.aload_n 0, 1) := by decide +kernel
theorem dX9_shape_28 : decode cX9_shape 28 = .ok (.getfield 10, 3) := by decide +kernel
theorem dX9_shape_31 : decode cX9_shape 31 = .ok (.iload 5, 2) := by decide +kernel
theorem dX9_shape_33 : decode cX9_shape 33 = .ok (.invokevirtual 96, 3) := by decide +kernel
theorem dX9_shape_36 : decode cX9_shape 36 = .ok (.ifnonnull 6, 3) := by decide +kernel
theorem dX9_shape_39 : decode cX9_shape 39 = .ok (.ldc 100, 2) := by decide +kernel
theorem dX9_shape_41 : decode cX9_shape 41 = .ok (.ireturn, 1) := by decide +kernel
theorem dX9_shape_42 : decode cX9_shape 42 = .ok (.iload_n 2, 1) := by decide +kernel
theorem dX9_shape_43 : decode cX9_shape 43 = .ok (.iconst 1, 1) := by decide +kernel
theorem dX9_shape_44 : decode cX9_shape 44 = .ok (.bipush 6, 2) := by decide +kernel
theorem dX9_shape_46 : decode cX9_shape 46 = .ok (.invokestatic 157, 3) := by decide +kernel
theorem dX9_shape_49 : decode cX9_shape 49 = .ok (.ifCond .eq 33, 3) := by decide +kernel
theorem dX9_shape_52 : decode cX9_shape 52 = .ok (.iload_n 3, 1) := by decide +kernel
theorem dX9_shape_53 : decode cX9_shape 53 = .ok (.iconst 0, 1) := by decide +kernel
theorem dX9_shape_54 : decode cX9_shape 54 = .ok (.bipush 6, 2) := by decide +kernel
theorem dX9_shape_56 : decode cX9_shape 56 = .ok (.invokestatic 157, 3) := by decide +kernel
theorem dX9_shape_59 : decode cX9_shape 59 = .ok (.ifCond .eq 23, 3) := by decide +kernel
theorem dX9_shape_62 : decode cX9_shape 62 = .ok (.iload 4, 2) := by decide +kernel
theorem dX9_shape_64 : decode cX9_shape 64 = .ok (.iconst 0, 1) := by decide +kernel
theorem dX9_shape_65 : decode cX9_shape 65 = .ok (.iload_n 2, 1) := by decide +kernel
theorem dX9_shape_66 : decode cX9_shape 66 = .ok (.invokestatic 157, 3) := by decide +kernel
theorem dX9_shape_69 : decode cX9_shape 69 = .ok (.ifCond .eq 13, 3) := by decide +kernel
theorem dX9_shape_72 : decode cX9_shape 72 = .ok (.iload 6, 2) := by decide +kernel
theorem dX9_shape_74 : decode cX9_shape 74 = .ok (.iconst 0, 1) := by decide +kernel
theorem dX9_shape_75 : decode cX9_shape 75 = .ok (.iconst 3, 1) := by decide +kernel
theorem dX9_shape_76 : decode cX9_shape 76 = .ok (.invokestatic 157, 3) := by decide +kernel
theorem dX9_shape_79 : decode cX9_shape 79 = .ok (.ifCond .ne 6, 3) := by decide +kernel
theorem dX9_shape_82 : decode cX9_shape 82 = .ok (.ldc 95, 2) := by decide +kernel
theorem dX9_shape_84 : decode cX9_shape 84 = .ok (.ireturn, 1) := by decide +kernel
theorem dX9_shape_85 : decode cX9_shape 85 = .ok (.aload_n 0, 1) := by decide +kernel
theorem dX9_shape_86 : decode cX9_shape 86 = .ok (.getfield 19, 3) := by decide +kernel
theorem dX9_shape_89 : decode cX9_shape 89 = .ok (.aload_n 0, 1) := by decide +kernel
theorem dX9_shape_90 : decode cX9_shape 90 = .ok (.getfield 10, 3) := by decide +kernel
theorem dX9_shape_93 : decode cX9_shape 93 = .ok (.invokevirtual 161, 3) := by decide +kernel
theorem dX9_shape_96 : decode cX9_shape 96 = .ok (.aload 7, 2) := by decide +kernel
theorem dX9_shape_98 : decode cX9_shape 98 = .ok (.iconst 1, 1) := by decide +kernel
theorem dX9_shape_99 : decode cX9_shape 99 = .ok (.invokevirtual 169, 3) := by decide +kernel
theorem dX9_shape_102 : decode cX9_shape 102 = .ok (.istore 8, 2) := by decide +kernel
theorem dX9_shape_104 : decode cX9_shape 104 = .ok (.aload 7, 2) := by decide +kernel
theorem dX9_shape_106 : decode cX9_shape 106 = .ok (.iload_n 2, 1) := by decide +kernel
theorem dX9_shape_107 : decode cX9_shape 107 = .ok (.putfield 101, 3) := by decide +kernel
theorem dX9_shape_110 : decode cX9_shape 110 = .ok (.aload 7, 2) := by decide +kernel
theorem dX9_shape_112 : decode cX9_shape 112 = .ok (.iload_n 3, 1) := by decide +kernel
theorem dX9_shape_113 : decode cX9_shape 113 = .ok (.putfield 106, 3) := by decide +kernel
theorem dX9_shape_116 : decode cX9_shape 116 = .ok (.aload 7, 2) := by decide +kernel
theorem dX9_shape_118 : decode cX9_shape 118 = .ok (.iload 4, 2) := by decide +kernel
theorem dX9_shape_120 : decode cX9_shape 120 = .ok (.putfield 109, 3) := by decide +kernel
theorem dX9_shape_123 : decode cX9_shape 123 = .ok (.aload 7, 2) := by decide +kernel
theorem dX9_shape_125 : decode cX9_shape 125 = .ok (.iload 5, 2) := by decide +kernel
theorem dX9_shape_127 : decode cX9_shape 127 = .ok (.putfield 112, 3) := by decide +kernel
theorem dX9_shape_130 : decode cX9_shape 130 = .ok (.aload 7, 2) := by decide +kernel
theorem dX9_shape_132 : decode cX9_shape 132 = .ok (.iload 6, 2) := by decide +kernel
theorem dX9_shape_134 : decode cX9_shape 134 = .ok (.putfield 115, 3) := by decide +kernel
theorem dX9_shape_137 : decode cX9_shape 137 = .ok (.aload 7, 2) := by decide +kernel
theorem dX9_shape_139 : decode cX9_shape 139 = .ok (.invokevirtual 172, 3) := by decide +kernel
theorem dX9_shape_142 : decode cX9_shape 142 = .ok (.iload 8, 2) := by decide +kernel
theorem dX9_shape_144 : decode cX9_shape 144 = .ok (.ireturn, 1) := by decide +kernel
theorem dX9_call_0 : decode cX9_call 0 = .ok (.aload_n 0, 1) := by decide +kernel
theorem dX9_call_1 : decode cX9_call 1 = .ok (.getfield 10, 3) := by decide +kernel
theorem dX9_call_4 : decode cX9_call 4 = .ok (.iload_n 1, 1) := by decide +kernel
theorem dX9_call_5 : decode cX9_call 5 = .ok (.invokevirtual 96, 3) := by decide +kernel
theorem dX9_call_8 : decode cX9_call 8 = .ok (.ifnonnull 6, 3) := by decide +kernel
theorem dX9_call_11 : decode cX9_call 11 = .ok (.ldc 100, 2) := by decide +kernel
theorem dX9_call_13 : decode cX9_call 13 = .ok (.ireturn, 1) := by decide +kernel
theorem dX9_call_14 : decode cX9_call 14 = .ok (.aload_n 0, 1) := by decide +kernel
theorem dX9_call_15 : decode cX9_call 15 = .ok (.getfield 19, 3) := by decide +kernel
theorem dX9_call_18 : decode cX9_call 18 = .ok (.aload_n 0, 1) := by decide +kernel
theorem dX9_call_19 : decode cX9_call 19 = .ok (.getfield 10, 3) := by decide +kernel
theorem dX9_call_22 : decode cX9_call 22 = .ok (.invokevirtual 161, 3) := by decide +kernel
theorem dX9_call_25 : decode cX9_call 25 = .ok (.aload_n 0, 1) := by decide +kernel
theorem dX9_call_26 : decode cX9_call 26 = .ok (.getfield 10, 3) := by decide +kernel
theorem dX9_call_29 : decode cX9_call 29 = .ok (.iload_n 1, 1) := by decide +kernel
theorem dX9_call_30 : decode cX9_call 30 = .ok (.invokevirtual 175, 3) := by decide +kernel
theorem dX9_call_33 : decode cX9_call 33 = .ok (.ireturn, 1) := by decide +kernel
theorem dX9_end_0 : decode cX9_end 0 = .ok (.aload_n 0, 1) := by decide +kernel
theorem dX9_end_1 : decode cX9_end 1 = .ok (.getfield 10, 3) := by decide +kernel
theorem dX9_end_4 : decode cX9_end 4 = .ok (.iload_n 1, 1) := by decide +kernel
theorem dX9_end_5 : decode cX9_end 5 = .ok (.iload_n 2, 1) := by decide +kernel
theorem dX9_end_6 : decode cX9_end 6 = .ok (.invokevirtual 143, 3) := by decide +kernel
theorem dX9_end_9 : decode cX9_end 9 = .ok (.astore_n 3, 1) := by decide +kernel
theorem dX9_end_10 : decode cX9_end 10 = .ok (.aload_n 3, 1) := by decide +kernel
theorem dX9_end_11 : decode cX9_end 11 = .ok (.ifnonnull 6, 3) := by decide +kernel
theorem dX9_end_14 : decode cX9_end 14 = .ok (.ldc 100, 2) := by decide +kernel
theorem dX9_end_16 : decode cX9_end 16 = .ok (.ireturn, 1) := by decide +kernel
theorem dX9_end_17 : decode cX9_end 17 = .ok (.aload_n 3, 1) := by decide +kernel
theorem dX9_end_18 : decode cX9_end 18 = .ok (.getfield 147, 3) := by decide +kernel
theorem dX9_end_21 : decode cX9_end 21 = .ok (.iload_n 2, 1) := by decide +kernel
theorem dX9_end_22 : decode cX9_end 22 = .ok (.iaload, 1) := by decide +kernel
theorem dX9_end_23 : decode cX9_end 23 = .ok (.iconst 1, 1) := by decide +kernel
theorem dX9_end_24 : decode cX9_end 24 = .ok (.if_icmp .eq 6, 3) := by decide +kernel
theorem dX9_end_27 : decode cX9_end 27 = .ok (.ldc 178, 2) := by decide +kernel
theorem dX9_end_29 : decode cX9_end 29 = .ok (.ireturn, 1) := by decide +kernel
theorem dX9_end_30 : decode cX9_end 30 = .ok (.aload_n 0, 1) := by decide +kernel
theorem dX9_end_31 : decode cX9_end 31 = .ok (.getfield 19, 3) := by decide +kernel
theorem dX9_end_34 : decode cX9_end 34 = .ok (.aload_n 0, 1) := by decide +kernel
theorem dX9_end_35 : decode cX9_end 35 = .ok (.getfield 10, 3) := by decide +kernel
theorem dX9_end_38 : decode cX9_end 38 = .ok (.invokevirtual 161, 3) := by decide +kernel
theorem dX9_end_41 : decode cX9_end 41 = .ok (.aload_n 0, 1) := by decide +kernel
theorem dX9_end_42 : decode cX9_end 42 = .ok (.getfield 10, 3) := by decide +kernel
theorem dX9_end_45 : decode cX9_end 45 = .ok (.aload_n 3, 1) := by decide +kernel
theorem dX9_end_46 : decode cX9_end 46 = .ok (.iload_n 2, 1) := by decide +kernel
theorem dX9_end_47 : decode cX9_end 47 = .ok (.invokevirtual 179, 3) := by decide +kernel
theorem dX9_end_50 : decode cX9_end 50 = .ok (.ireturn, 1) := by decide +kernel
theorem dX9_damage_0 : decode cX9_damage 0 = .ok (.aload_n 0, 1) := by decide +kernel
theorem dX9_damage_1 : decode cX9_damage 1 = .ok (.getfield 10, 3) := by decide +kernel
theorem dX9_damage_4 : decode cX9_damage 4 = .ok (.iload_n 1, 1) := by decide +kernel
theorem dX9_damage_5 : decode cX9_damage 5 = .ok (.iload_n 2, 1) := by decide +kernel
theorem dX9_damage_6 : decode cX9_damage 6 = .ok (.invokevirtual 143, 3) := by decide +kernel
theorem dX9_damage_9 : decode cX9_damage 9 = .ok (.astore_n 3, 1) := by decide +kernel
theorem dX9_damage_10 : decode cX9_damage 10 = .ok (.aload_n 3, 1) := by decide +kernel
theorem dX9_damage_11 : decode cX9_damage 11 = .ok (.ifnonnull 6, 3) := by decide +kernel
theorem dX9_damage_14 : decode cX9_damage 14 = .ok (.ldc 100, 2) := by decide +kernel
theorem dX9_damage_16 : decode cX9_damage 16 = .ok (.ireturn, 1) := by decide +kernel
theorem dX9_damage_17 : decode cX9_damage 17 = .ok (.aload_n 3, 1) := by decide +kernel
theorem dX9_damage_18 : decode cX9_damage 18 = .ok (.getfield 147, 3) := by decide +kernel
theorem dX9_damage_21 : decode cX9_damage 21 = .ok (.iload_n 2, 1) := by decide +kernel
theorem dX9_damage_22 : decode cX9_damage 22 = .ok (.iaload, 1) := by decide +kernel
theorem dX9_damage_23 : decode cX9_damage 23 = .ok (.iconst 2, 1) := by decide +kernel
theorem dX9_damage_24 : decode cX9_damage 24 = .ok (.if_icmp .ne 6, 3) := by decide +kernel
theorem dX9_damage_27 : decode cX9_damage 27 = .ok (.ldc 178, 2) := by decide +kernel
theorem dX9_damage_29 : decode cX9_damage 29 = .ok (.ireturn, 1) := by decide +kernel
theorem dX9_damage_30 : decode cX9_damage 30 = .ok (.aload_n 0, 1) := by decide +kernel
theorem dX9_damage_31 : decode cX9_damage 31 = .ok (.getfield 19, 3) := by decide +kernel
theorem dX9_damage_34 : decode cX9_damage 34 = .ok (.aload_n 0, 1) := by decide +kernel
theorem dX9_damage_35 : decode cX9_damage 35 = .ok (.getfield 10, 3) := by decide +kernel
theorem dX9_damage_38 : decode cX9_damage 38 = .ok (.invokevirtual 161, 3) := by decide +kernel
theorem dX9_damage_41 : decode cX9_damage 41 = .ok (.aload_n 0, 1) := by decide +kernel
theorem dX9_damage_42 : decode cX9_damage 42 = .ok (.getfield 10, 3) := by decide +kernel
theorem dX9_damage_45 : decode cX9_damage 45 = .ok (.aload_n 3, 1) := by decide +kernel
theorem dX9_damage_46 : decode cX9_damage 46 = .ok (.iload_n 2, 1) := by decide +kernel
theorem dX9_damage_47 : decode cX9_damage 47 = .ok (.invokevirtual 183, 3) := by decide +kernel
theorem dX9_damage_50 : decode cX9_damage 50 = .ok (.ireturn, 1) := by decide +kernel
theorem dX9_mend_0 : decode cX9_mend 0 = .ok (.aload_n 0, 1) := by decide +kernel
theorem dX9_mend_1 : decode cX9_mend 1 = .ok (.getfield 10, 3) := by decide +kernel
theorem dX9_mend_4 : decode cX9_mend 4 = .ok (.iload_n 1, 1) := by decide +kernel
theorem dX9_mend_5 : decode cX9_mend 5 = .ok (.iload_n 2, 1) := by decide +kernel
theorem dX9_mend_6 : decode cX9_mend 6 = .ok (.invokevirtual 143, 3) := by decide +kernel
theorem dX9_mend_9 : decode cX9_mend 9 = .ok (.astore_n 3, 1) := by decide +kernel
theorem dX9_mend_10 : decode cX9_mend 10 = .ok (.aload_n 3, 1) := by decide +kernel
theorem dX9_mend_11 : decode cX9_mend 11 = .ok (.ifnonnull 6, 3) := by decide +kernel
theorem dX9_mend_14 : decode cX9_mend 14 = .ok (.ldc 100, 2) := by decide +kernel
theorem dX9_mend_16 : decode cX9_mend 16 = .ok (.ireturn, 1) := by decide +kernel
theorem dX9_mend_17 : decode cX9_mend 17 = .ok (.aload_n 3, 1) := by decide +kernel
theorem dX9_mend_18 : decode cX9_mend 18 = .ok (.getfield 147, 3) := by decide +kernel
theorem dX9_mend_21 : decode cX9_mend 21 = .ok (.iload_n 2, 1) := by decide +kernel
theorem dX9_mend_22 : decode cX9_mend 22 = .ok (.iaload, 1) := by decide +kernel
theorem dX9_mend_23 : decode cX9_mend 23 = .ok (.iconst 2, 1) := by decide +kernel
theorem dX9_mend_24 : decode cX9_mend 24 = .ok (.if_icmp .eq 6, 3) := by decide +kernel
theorem dX9_mend_27 : decode cX9_mend 27 = .ok (.ldc 178, 2) := by decide +kernel
theorem dX9_mend_29 : decode cX9_mend 29 = .ok (.ireturn, 1) := by decide +kernel
theorem dX9_mend_30 : decode cX9_mend 30 = .ok (.aload_n 0, 1) := by decide +kernel
theorem dX9_mend_31 : decode cX9_mend 31 = .ok (.getfield 19, 3) := by decide +kernel
theorem dX9_mend_34 : decode cX9_mend 34 = .ok (.aload_n 0, 1) := by decide +kernel
theorem dX9_mend_35 : decode cX9_mend 35 = .ok (.getfield 10, 3) := by decide +kernel
theorem dX9_mend_38 : decode cX9_mend 38 = .ok (.invokevirtual 161, 3) := by decide +kernel
theorem dX9_mend_41 : decode cX9_mend 41 = .ok (.aload_n 0, 1) := by decide +kernel
theorem dX9_mend_42 : decode cX9_mend 42 = .ok (.getfield 10, 3) := by decide +kernel
theorem dX9_mend_45 : decode cX9_mend 45 = .ok (.aload_n 3, 1) := by decide +kernel
theorem dX9_mend_46 : decode cX9_mend 46 = .ok (.iload_n 2, 1) := by decide +kernel
theorem dX9_mend_47 : decode cX9_mend 47 = .ok (.invokevirtual 186, 3) := by decide +kernel
theorem dX9_mend_50 : decode cX9_mend 50 = .ok (.aload_n 3, 1) := by decide +kernel
theorem dX9_mend_51 : decode cX9_mend 51 = .ok (.iconst 0, 1) := by decide +kernel
theorem dX9_mend_52 : decode cX9_mend 52 = .ok (.invokevirtual 169, 3) := by decide +kernel
theorem dX9_mend_55 : decode cX9_mend 55 = .ok (.ireturn, 1) := by decide +kernel
theorem dX9_drift_0 : decode cX9_drift 0 = .ok (.iload_n 1, 1) := by decide +kernel
theorem dX9_drift_1 : decode cX9_drift 1 = .ok (.iconst 1, 1) := by decide +kernel
theorem dX9_drift_2 : decode cX9_drift 2 = .ok (.bipush 20, 2) := by decide +kernel
theorem dX9_drift_4 : decode cX9_drift 4 = .ok (.invokestatic 157, 3) := by decide +kernel
theorem dX9_drift_7 : decode cX9_drift 7 = .ok (.ifCond .ne 6, 3) := by decide +kernel
theorem dX9_drift_10 : decode cX9_drift 10 = .ok (.ldc 95, 2) := by decide +kernel
theorem dX9_drift_12 : decode cX9_drift 12 = .ok (.ireturn, 1) := by decide +kernel
theorem dX9_drift_13 : decode cX9_drift 13 = .ok (.iconst 0, 1) := by decide +kernel
theorem dX9_drift_14 : decode cX9_drift 14 = .ok (.istore_n 2, 1) := by decide +kernel
theorem dX9_drift_15 : decode cX9_drift 15 = .ok (.iload_n 2, 1) := by decide +kernel
theorem dX9_drift_16 : decode cX9_drift 16 = .ok (.iload_n 1, 1) := by decide +kernel
theorem dX9_drift_17 : decode cX9_drift 17 = .ok (.if_icmp .ge 31, 3) := by decide +kernel
theorem dX9_drift_20 : decode cX9_drift 20 = .ok (.aload_n 0, 1) := by decide +kernel
theorem dX9_drift_21 : decode cX9_drift 21 = .ok (.getfield 19, 3) := by decide +kernel
theorem dX9_drift_24 : decode cX9_drift 24 = .ok (.aload_n 0, 1) := by decide +kernel
theorem dX9_drift_25 : decode cX9_drift 25 = .ok (.getfield 10, 3) := by decide +kernel
theorem dX9_drift_28 : decode cX9_drift 28 = .ok (.invokevirtual 161, 3) := by decide +kernel
theorem dX9_drift_31 : decode cX9_drift 31 = .ok (.aload_n 0, 1) := by decide +kernel
theorem dX9_drift_32 : decode cX9_drift 32 = .ok (.getfield 40, 3) := by decide +kernel
theorem dX9_drift_35 : decode cX9_drift 35 = .ok (.aload_n 0, 1) := by decide +kernel
theorem dX9_drift_36 : decode cX9_drift 36 = .ok (.getfield 10, 3) := by decide +kernel
theorem dX9_drift_39 : decode cX9_drift 39 = .ok (.invokevirtual 190, 3) := by decide +kernel
theorem dX9_drift_42 : decode cX9_drift 42 = .ok (.iinc 2 1, 3) := by decide +kernel
theorem dX9_drift_45 : decode cX9_drift 45 = .ok (.goto (-30), 3) := by decide +kernel
theorem dX9_drift_48 : decode cX9_drift 48 = .ok (.aload_n 0, 1) := by decide +kernel
theorem dX9_drift_49 : decode cX9_drift 49 = .ok (.getfield 10, 3) := by decide +kernel
theorem dX9_drift_52 : decode cX9_drift 52 = .ok (.invokevirtual 75, 3) := by decide +kernel
theorem dX9_drift_55 : decode cX9_drift 55 = .ok (.ireturn, 1) := by decide +kernel
theorem dX9_undo_0 : decode cX9_undo 0 = .ok (.iload_n 1, 1) := by decide +kernel
theorem dX9_undo_1 : decode cX9_undo 1 = .ok (.iconst 1, 1) := by decide +kernel
theorem dX9_undo_2 : decode cX9_undo 2 = .ok (.bipush 20, 2) := by decide +kernel
theorem dX9_undo_4 : decode cX9_undo 4 = .ok (.invokestatic 157, 3) := by decide +kernel
theorem dX9_undo_7 : decode cX9_undo 7 = .ok (.ifCond .ne 6, 3) := by decide +kernel
theorem dX9_undo_10 : decode cX9_undo 10 = .ok (.ldc 95, 2) := by decide +kernel
theorem dX9_undo_12 : decode cX9_undo 12 = .ok (.ireturn, 1) := by decide +kernel
theorem dX9_undo_13 : decode cX9_undo 13 = .ok (.iload_n 1, 1) := by decide +kernel
theorem dX9_undo_14 : decode cX9_undo 14 = .ok (.aload_n 0, 1) := by decide +kernel
theorem dX9_undo_15 : decode cX9_undo 15 = .ok (.getfield 19, 3) := by decide +kernel
theorem dX9_undo_18 : decode cX9_undo 18 = .ok (.getfield 94, 3) := by decide +kernel
theorem dX9_undo_21 : decode cX9_undo 21 = .ok (.if_icmp .le 6, 3) := by decide +kernel
theorem dX9_undo_24 : decode cX9_undo 24 = .ok (.ldc 178, 2) := by decide +kernel
theorem dX9_undo_26 : decode cX9_undo 26 = .ok (.ireturn, 1) := by decide +kernel
theorem dX9_undo_27 : decode cX9_undo 27 = .ok (.aload_n 0, 1) := by decide +kernel
theorem dX9_undo_28 : decode cX9_undo 28 = .ok (.getfield 19, 3) := by decide +kernel
theorem dX9_undo_31 : decode cX9_undo 31 = .ok (.iload_n 1, 1) := by decide +kernel
theorem dX9_undo_32 : decode cX9_undo 32 = .ok (.aload_n 0, 1) := by decide +kernel
theorem dX9_undo_33 : decode cX9_undo 33 = .ok (.getfield 10, 3) := by decide +kernel
theorem dX9_undo_36 : decode cX9_undo 36 = .ok (.invokevirtual 193, 3) := by decide +kernel
theorem dX9_undo_39 : decode cX9_undo 39 = .ok (.aload_n 0, 1) := by decide +kernel
theorem dX9_undo_40 : decode cX9_undo 40 = .ok (.getfield 10, 3) := by decide +kernel
theorem dX9_undo_43 : decode cX9_undo 43 = .ok (.getfield 69, 3) := by decide +kernel
theorem dX9_undo_46 : decode cX9_undo 46 = .ok (.ireturn, 1) := by decide +kernel
theorem dX9_run_0 : decode cX9_run 0 = .ok (.aload_n 0, 1) := by decide +kernel
theorem dX9_run_1 : decode cX9_run 1 = .ok (.getfield 10, 3) := by decide +kernel
theorem dX9_run_4 : decode cX9_run 4 = .ok (.iload_n 1, 1) := by decide +kernel
theorem dX9_run_5 : decode cX9_run 5 = .ok (.invokevirtual 96, 3) := by decide +kernel
theorem dX9_run_8 : decode cX9_run 8 = .ok (.astore 4, 2) := by decide +kernel
theorem dX9_run_10 : decode cX9_run 10 = .ok (.aload 4, 2) := by decide +kernel
theorem dX9_run_12 : decode cX9_run 12 = .ok (.ifnonnull 7, 3) := by decide +kernel
theorem dX9_run_15 : decode cX9_run 15 = .ok (.ldc2_w 197, 3) := by decide +kernel
theorem dX9_run_18 : decode cX9_run 18 = .ok (.lreturn, 1) := by decide +kernel
theorem dX9_run_19 : decode cX9_run 19 = .ok (.iload_n 2, 1) := by decide +kernel
theorem dX9_run_20 : decode cX9_run 20 = .ok (.iconst 0, 1) := by decide +kernel
theorem dX9_run_21 : decode cX9_run 21 = .ok (.bipush 6, 2) := by decide +kernel
theorem dX9_run_23 : decode cX9_run 23 = .ok (.invokestatic 157, 3) := by decide +kernel
theorem dX9_run_26 : decode cX9_run 26 = .ok (.ifCond .eq 12, 3) := by decide +kernel
theorem dX9_run_29 : decode cX9_run 29 = .ok (.iload_n 3, 1) := by decide +kernel
theorem dX9_run_30 : decode cX9_run 30 = .ok (.iconst 0, 1) := by decide +kernel
theorem dX9_run_31 : decode cX9_run 31 = .ok (.iconst 5, 1) := by decide +kernel
theorem dX9_run_32 : decode cX9_run 32 = .ok (.invokestatic 157, 3) := by decide +kernel
theorem dX9_run_35 : decode cX9_run 35 = .ok (.ifCond .ne 7, 3) := by decide +kernel
theorem dX9_run_38 : decode cX9_run 38 = .ok (.ldc2_w 199, 3) := by decide +kernel
theorem dX9_run_41 : decode cX9_run 41 = .ok (.lreturn, 1) := by decide +kernel
theorem dX9_run_42 : decode cX9_run 42 = .ok (.aload_n 0, 1) := by decide +kernel
theorem dX9_run_43 : decode cX9_run 43 = .ok (.getfield 47, 3) := by decide +kernel
theorem dX9_run_46 : decode cX9_run 46 = .ok (.aload 4, 2) := by decide +kernel
theorem dX9_run_48 : decode cX9_run 48 = .ok (.getfield 101, 3) := by decide +kernel
theorem dX9_run_51 : decode cX9_run 51 = .ok (.aload 4, 2) := by decide +kernel
theorem dX9_run_53 : decode cX9_run 53 = .ok (.getfield 106, 3) := by decide +kernel
theorem dX9_run_56 : decode cX9_run 56 = .ok (.aload 4, 2) := by decide +kernel
theorem dX9_run_58 : decode cX9_run 58 = .ok (.getfield 109, 3) := by decide +kernel
theorem dX9_run_61 : decode cX9_run 61 = .ok (.iload_n 2, 1) := by decide +kernel
theorem dX9_run_62 : decode cX9_run 62 = .ok (.invokevirtual 201, 3) := by decide +kernel
theorem dX9_run_65 : decode cX9_run 65 = .ok (.iload_n 3, 1) := by decide +kernel
theorem dX9_run_66 : decode cX9_run 66 = .ok (.iconst 2, 1) := by decide +kernel
theorem dX9_run_67 : decode cX9_run 67 = .ok (.if_icmp .ge 27, 3) := by decide +kernel
theorem dX9_run_70 : decode cX9_run 70 = .ok (.aload_n 0, 1) := by decide +kernel
theorem dX9_run_71 : decode cX9_run 71 = .ok (.getfield 54, 3) := by decide +kernel
theorem dX9_run_74 : decode cX9_run 74 = .ok (.aload_n 0, 1) := by decide +kernel
theorem dX9_run_75 : decode cX9_run 75 = .ok (.getfield 47, 3) := by decide +kernel
theorem dX9_run_78 : decode cX9_run 78 = .ok (.invokevirtual 205, 3) := by decide +kernel
theorem dX9_run_81 : decode cX9_run 81 = .ok (.aload_n 0, 1) := by decide +kernel
theorem dX9_run_82 : decode cX9_run 82 = .ok (.getfield 47, 3) := by decide +kernel
theorem dX9_run_85 : decode cX9_run 85 = .ok (.invokevirtual 209, 3) := by decide +kernel
theorem dX9_run_88 : decode cX9_run 88 = .ok (.invokevirtual 212, 3) := by decide +kernel
theorem dX9_run_91 : decode cX9_run 91 = .ok (.goto 53, 3) := by decide +kernel
theorem dX9_run_94 : decode cX9_run 94 = .ok (.iload_n 3, 1) := by decide +kernel
theorem dX9_run_95 : decode cX9_run 95 = .ok (.iconst 4, 1) := by decide +kernel
theorem dX9_run_96 : decode cX9_run 96 = .ok (.if_icmp .ge 27, 3) := by decide +kernel
theorem dX9_run_99 : decode cX9_run 99 = .ok (.aload_n 0, 1) := by decide +kernel
theorem dX9_run_100 : decode cX9_run 100 = .ok (.getfield 54, 3) := by decide +kernel
theorem dX9_run_103 : decode cX9_run 103 = .ok (.aload_n 0, 1) := by decide +kernel
theorem dX9_run_104 : decode cX9_run 104 = .ok (.getfield 47, 3) := by decide +kernel
theorem dX9_run_107 : decode cX9_run 107 = .ok (.invokevirtual 216, 3) := by decide +kernel
theorem dX9_run_110 : decode cX9_run 110 = .ok (.aload_n 0, 1) := by decide +kernel
theorem dX9_run_111 : decode cX9_run 111 = .ok (.getfield 47, 3) := by decide +kernel
theorem dX9_run_114 : decode cX9_run 114 = .ok (.invokevirtual 209, 3) := by decide +kernel
theorem dX9_run_117 : decode cX9_run 117 = .ok (.invokevirtual 212, 3) := by decide +kernel
theorem dX9_run_120 : decode cX9_run 120 = .ok (.goto 24, 3) := by decide +kernel
theorem dX9_run_123 : decode cX9_run 123 = .ok (.aload_n 0, 1) := by decide +kernel
theorem dX9_run_124 : decode cX9_run 124 = .ok (.getfield 54, 3) := by decide +kernel
theorem dX9_run_127 : decode cX9_run 127 = .ok (.aload_n 0, 1) := by decide +kernel
theorem dX9_run_128 : decode cX9_run 128 = .ok (.getfield 47, 3) := by decide +kernel
theorem dX9_run_131 : decode cX9_run 131 = .ok (.invokevirtual 219, 3) := by decide +kernel
theorem dX9_run_134 : decode cX9_run 134 = .ok (.aload_n 0, 1) := by decide +kernel
theorem dX9_run_135 : decode cX9_run 135 = .ok (.getfield 47, 3) := by decide +kernel
theorem dX9_run_138 : decode cX9_run 138 = .ok (.invokevirtual 209, 3) := by decide +kernel
theorem dX9_run_141 : decode cX9_run 141 = .ok (.invokevirtual 212, 3) := by decide +kernel
theorem dX9_run_144 : decode cX9_run 144 = .ok (.aload_n 0, 1) := by decide +kernel
theorem dX9_run_145 : decode cX9_run 145 = .ok (.getfield 54, 3) := by decide +kernel
theorem dX9_run_148 : decode cX9_run 148 = .ok (.iload_n 3, 1) := by decide +kernel
theorem dX9_run_149 : decode cX9_run 149 = .ok (.iconst 2, 1) := by decide +kernel
theorem dX9_run_150 : decode cX9_run 150 = .ok (.irem, 1) := by decide +kernel
theorem dX9_run_151 : decode cX9_run 151 = .ok (.invokevirtual 222, 3) := by decide +kernel
theorem dX9_run_154 : decode cX9_run 154 = .ok (.lreturn, 1) := by decide +kernel
theorem dX9_over_0 : decode cX9_over 0 = .ok (.aload_n 0, 1) := by decide +kernel
theorem dX9_over_1 : decode cX9_over 1 = .ok (.getfield 10, 3) := by decide +kernel
theorem dX9_over_4 : decode cX9_over 4 = .ok (.iload_n 1, 1) := by decide +kernel
theorem dX9_over_5 : decode cX9_over 5 = .ok (.invokevirtual 96, 3) := by decide +kernel
theorem dX9_over_8 : decode cX9_over 8 = .ok (.astore_n 3, 1) := by decide +kernel
theorem dX9_over_9 : decode cX9_over 9 = .ok (.aload_n 3, 1) := by decide +kernel
theorem dX9_over_10 : decode cX9_over 10 = .ok (.ifnonnull 7, 3) := by decide +kernel
theorem dX9_over_13 : decode cX9_over 13 = .ok (.ldc2_w 197, 3) := by decide +kernel
theorem dX9_over_16 : decode cX9_over 16 = .ok (.lreturn, 1) := by decide +kernel
theorem dX9_over_17 : decode cX9_over 17 = .ok (.iload_n 2, 1) := by decide +kernel
theorem dX9_over_18 : decode cX9_over 18 = .ok (.iconst 0, 1) := by decide +kernel
theorem dX9_over_19 : decode cX9_over 19 = .ok (.iconst 3, 1) := by decide +kernel
theorem dX9_over_20 : decode cX9_over 20 = .ok (.invokestatic 157, 3) := by decide +kernel
theorem dX9_over_23 : decode cX9_over 23 = .ok (.ifCond .ne 7, 3) := by decide +kernel
theorem dX9_over_26 : decode cX9_over 26 = .ok (.ldc2_w 199, 3) := by decide +kernel
theorem dX9_over_29 : decode cX9_over 29 = .ok (.lreturn, 1) := by decide +kernel
theorem dX9_over_30 : decode cX9_over 30 = .ok (.aload_n 0, 1) := by decide +kernel
theorem dX9_over_31 : decode cX9_over 31 = .ok (.getfield 47, 3) := by decide +kernel
theorem dX9_over_34 : decode cX9_over 34 = .ok (.aload_n 3, 1) := by decide +kernel
theorem dX9_over_35 : decode cX9_over 35 = .ok (.getfield 101, 3) := by decide +kernel
theorem dX9_over_38 : decode cX9_over 38 = .ok (.aload_n 3, 1) := by decide +kernel
theorem dX9_over_39 : decode cX9_over 39 = .ok (.getfield 106, 3) := by decide +kernel
theorem dX9_over_42 : decode cX9_over 42 = .ok (.iconst 0, 1) := by decide +kernel
theorem dX9_over_43 : decode cX9_over 43 = .ok (.iconst 0, 1) := by decide +kernel
theorem dX9_over_44 : decode cX9_over 44 = .ok (.invokevirtual 201, 3) := by decide +kernel
theorem dX9_over_47 : decode cX9_over 47 = .ok (.aload_n 0, 1) := by decide +kernel
theorem dX9_over_48 : decode cX9_over 48 = .ok (.getfield 54, 3) := by decide +kernel
theorem dX9_over_51 : decode cX9_over 51 = .ok (.aload_n 3, 1) := by decide +kernel
theorem dX9_over_52 : decode cX9_over 52 = .ok (.getfield 106, 3) := by decide +kernel
theorem dX9_over_55 : decode cX9_over 55 = .ok (.i2l, 1) := by decide +kernel
theorem dX9_over_56 : decode cX9_over 56 = .ok (.aload_n 0, 1) := by decide +kernel
theorem dX9_over_57 : decode cX9_over 57 = .ok (.getfield 47, 3) := by decide +kernel
theorem dX9_over_60 : decode cX9_over 60 = .ok (.invokevirtual 205, 3) := by decide +kernel
theorem dX9_over_63 : decode cX9_over 63 = .ok (.lmul, 1) := by decide +kernel
theorem dX9_over_64 : decode cX9_over 64 = .ok (.aload_n 0, 1) := by decide +kernel
theorem dX9_over_65 : decode cX9_over 65 = .ok (.getfield 47, 3) := by decide +kernel
theorem dX9_over_68 : decode cX9_over 68 = .ok (.invokevirtual 209, 3) := by decide +kernel
theorem dX9_over_71 : decode cX9_over 71 = .ok (.invokevirtual 212, 3) := by decide +kernel
theorem dX9_over_74 : decode cX9_over 74 = .ok (.iload_n 2, 1) := by decide +kernel
theorem dX9_over_75 : decode cX9_over 75 = .ok (.iconst 2, 1) := by decide +kernel
theorem dX9_over_76 : decode cX9_over 76 = .ok (.if_icmp .lt 18, 3) := by decide +kernel
theorem dX9_over_79 : decode cX9_over 79 = .ok (.aload_n 0, 1) := by decide +kernel
theorem dX9_over_80 : decode cX9_over 80 = .ok (.getfield 54, 3) := by decide +kernel
theorem dX9_over_83 : decode cX9_over 83 = .ok (.aload_n 3, 1) := by decide +kernel
theorem dX9_over_84 : decode cX9_over 84 = .ok (.getfield 101, 3) := by decide +kernel
theorem dX9_over_87 : decode cX9_over 87 = .ok (.aload_n 3, 1) := by decide +kernel
theorem dX9_over_88 : decode cX9_over 88 = .ok (.getfield 106, 3) := by decide +kernel
theorem dX9_over_91 : decode cX9_over 91 = .ok (.invokevirtual 226, 3) := by decide +kernel
theorem dX9_over_94 : decode cX9_over 94 = .ok (.aload_n 0, 1) := by decide +kernel
theorem dX9_over_95 : decode cX9_over 95 = .ok (.getfield 54, 3) := by decide +kernel
theorem dX9_over_98 : decode cX9_over 98 = .ok (.iload_n 2, 1) := by decide +kernel
theorem dX9_over_99 : decode cX9_over 99 = .ok (.iconst 2, 1) := by decide +kernel
theorem dX9_over_100 : decode cX9_over 100 = .ok (.irem, 1) := by decide +kernel
theorem dX9_over_101 : decode cX9_over 101 = .ok (.invokevirtual 222, 3) := by decide +kernel
theorem dX9_over_104 : decode cX9_over 104 = .ok (.lreturn, 1) := by decide +kernel
theorem dX9_linesFor_0 : decode cX9_linesFor 0 = .ok (.aload_n 0, 1) := by decide +kernel
theorem dX9_linesFor_1 : decode cX9_linesFor 1 = .ok (.getfield 10, 3) := by decide +kernel
theorem dX9_linesFor_4 : decode cX9_linesFor 4 = .ok (.iload_n 1, 1) := by decide +kernel
theorem dX9_linesFor_5 : decode cX9_linesFor 5 = .ok (.invokevirtual 96, 3) := by decide +kernel
theorem dX9_linesFor_8 : decode cX9_linesFor 8 = .ok (.astore 4, 2) := by decide +kernel
theorem dX9_linesFor_10 : decode cX9_linesFor 10 = .ok (.aload 4, 2) := by decide +kernel
theorem dX9_linesFor_12 : decode cX9_linesFor 12 = .ok (.ifnonnull 6, 3) := by decide +kernel
theorem dX9_linesFor_15 : decode cX9_linesFor 15 = .ok (.ldc 100, 2) := by decide +kernel
theorem dX9_linesFor_17 : decode cX9_linesFor 17 = .ok (.ireturn, 1) := by decide +kernel
theorem dX9_linesFor_18 : decode cX9_linesFor 18 = .ok (.iload_n 2, 1) := by decide +kernel
theorem dX9_linesFor_19 : decode cX9_linesFor 19 = .ok (.iconst 0, 1) := by decide +kernel
theorem dX9_linesFor_20 : decode cX9_linesFor 20 = .ok (.bipush 6, 2) := by decide +kernel
theorem dX9_linesFor_22 : decode cX9_linesFor 22 = .ok (.invokestatic 157, 3) := by decide +kernel
theorem dX9_linesFor_25 : decode cX9_linesFor 25 = .ok (.ifCond .eq 14, 3) := by decide +kernel
theorem dX9_linesFor_28 : decode cX9_linesFor 28 = .ok (.iload_n 3, 1) := by decide +kernel
theorem dX9_linesFor_29 : decode cX9_linesFor 29 = .ok (.iconst 1, 1) := by decide +kernel
theorem dX9_linesFor_30 : decode cX9_linesFor 30 = .ok (.sipush 999, 3) := by decide +kernel
theorem dX9_linesFor_33 : decode cX9_linesFor 33 = .ok (.invokestatic 157, 3) := by decide +kernel
theorem dX9_linesFor_36 : decode cX9_linesFor 36 = .ok (.ifCond .ne 6, 3) := by decide +kernel
theorem dX9_linesFor_39 : decode cX9_linesFor 39 = .ok (.ldc 95, 2) := by decide +kernel
theorem dX9_linesFor_41 : decode cX9_linesFor 41 = .ok (.ireturn, 1) := by decide +kernel
theorem dX9_linesFor_42 : decode cX9_linesFor 42 = .ok (.iconst 1, 1) := by decide +kernel
theorem dX9_linesFor_43 : decode cX9_linesFor 43 = .ok (.istore 5, 2) := by decide +kernel
theorem dX9_linesFor_45 : decode cX9_linesFor 45 = .ok (.iload 5, 2) := by decide +kernel
theorem dX9_linesFor_47 : decode cX9_linesFor 47 = .ok (.bipush 6, 2) := by decide +kernel
theorem dX9_linesFor_49 : decode cX9_linesFor 49 = .ok (.if_icmp .gt 39, 3) := by decide +kernel
theorem dX9_linesFor_52 : decode cX9_linesFor 52 = .ok (.aload_n 0, 1) := by decide +kernel
theorem dX9_linesFor_53 : decode cX9_linesFor 53 = .ok (.getfield 47, 3) := by decide +kernel
theorem dX9_linesFor_56 : decode cX9_linesFor 56 = .ok (.iload 5, 2) := by decide +kernel
theorem dX9_linesFor_58 : decode cX9_linesFor 58 = .ok (.aload 4, 2) := by decide +kernel
theorem dX9_linesFor_60 : decode cX9_linesFor 60 = .ok (.getfield 106, 3) := by decide +kernel
theorem dX9_linesFor_63 : decode cX9_linesFor 63 = .ok (.iconst 0, 1) := by decide +kernel
theorem dX9_linesFor_64 : decode cX9_linesFor 64 = .ok (.iload_n 2, 1) := by decide +kernel
theorem dX9_linesFor_65 : decode cX9_linesFor 65 = .ok (.invokevirtual 201, 3) := by decide +kernel
theorem dX9_linesFor_68 : decode cX9_linesFor 68 = .ok (.aload_n 0, 1) := by decide +kernel
theorem dX9_linesFor_69 : decode cX9_linesFor 69 = .ok (.getfield 47, 3) := by decide +kernel
theorem dX9_linesFor_72 : decode cX9_linesFor 72 = .ok (.iload_n 3, 1) := by decide +kernel
theorem dX9_linesFor_73 : decode cX9_linesFor 73 = .ok (.invokevirtual 230, 3) := by decide +kernel
theorem dX9_linesFor_76 : decode cX9_linesFor 76 = .ok (.ifCond .eq 6, 3) := by decide +kernel
theorem dX9_linesFor_79 : decode cX9_linesFor 79 = .ok (.iload 5, 2) := by decide +kernel
theorem dX9_linesFor_81 : decode cX9_linesFor 81 = .ok (.ireturn, 1) := by decide +kernel
theorem dX9_linesFor_82 : decode cX9_linesFor 82 = .ok (.iinc 5 1, 3) := by decide +kernel
theorem dX9_linesFor_85 : decode cX9_linesFor 85 = .ok (.goto (-40), 3) := by decide +kernel
theorem dX9_linesFor_88 : decode cX9_linesFor 88 = .ok (.iconst (-1), 1) := by decide +kernel
theorem dX9_linesFor_89 : decode cX9_linesFor 89 = .ok (.ireturn, 1) := by decide +kernel
theorem dX9_bestReserve_0 : decode cX9_bestReserve 0 = .ok (.aload_n 0, 1) := by decide +kernel
theorem dX9_bestReserve_1 : decode cX9_bestReserve 1 = .ok (.getfield 10, 3) := by decide +kernel
theorem dX9_bestReserve_4 : decode cX9_bestReserve 4 = .ok (.iload_n 1, 1) := by decide +kernel
theorem dX9_bestReserve_5 : decode cX9_bestReserve 5 = .ok (.invokevirtual 96, 3) := by decide +kernel
theorem dX9_bestReserve_8 : decode cX9_bestReserve 8 = .ok (.astore 4, 2) := by decide +kernel
theorem dX9_bestReserve_10 : decode cX9_bestReserve 10 = .ok (.aload 4, 2) := by decide +kernel
theorem dX9_bestReserve_12 : decode cX9_bestReserve 12 = .ok (.ifnonnull 6, 3) := by decide +kernel
theorem dX9_bestReserve_15 : decode cX9_bestReserve 15 = .ok (.ldc 100, 2) := by decide +kernel
theorem dX9_bestReserve_17 : decode cX9_bestReserve 17 = .ok (.ireturn, 1) := by decide +kernel
theorem dX9_bestReserve_18 : decode cX9_bestReserve 18 = .ok (.iload_n 2, 1) := by decide +kernel
theorem dX9_bestReserve_19 : decode cX9_bestReserve 19 = .ok (.iconst 0, 1) := by decide +kernel
theorem dX9_bestReserve_20 : decode cX9_bestReserve 20 = .ok (.bipush 6, 2) := by decide +kernel
theorem dX9_bestReserve_22 : decode cX9_bestReserve 22 = .ok (.invokestatic 157, 3) := by decide +kernel
theorem dX9_bestReserve_25 : decode cX9_bestReserve 25 = .ok (.ifCond .eq 14, 3) := by decide +kernel
theorem dX9_bestReserve_28 : decode cX9_bestReserve 28 = .ok (.iload_n 3, 1) := by decide +kernel
theorem dX9_bestReserve_29 : decode cX9_bestReserve 29 = .ok (.iconst 1, 1) := by decide +kernel
theorem dX9_bestReserve_30 : decode cX9_bestReserve 30 = .ok (.sipush 999, 3) := by decide +kernel
theorem dX9_bestReserve_33 : decode cX9_bestReserve 33 = .ok (.invokestatic 157, 3) := by decide +kernel
theorem dX9_bestReserve_36 : decode cX9_bestReserve 36 = .ok (.ifCond .ne 6, 3) := by decide +kernel
theorem dX9_bestReserve_39 : decode cX9_bestReserve 39 = .ok (.ldc 95, 2) := by decide +kernel
theorem dX9_bestReserve_41 : decode cX9_bestReserve 41 = .ok (.ireturn, 1) := by decide +kernel
theorem dX9_bestReserve_42 : decode cX9_bestReserve 42 = .ok (.iconst 0, 1) := by decide +kernel
theorem dX9_bestReserve_43 : decode cX9_bestReserve 43 = .ok (.istore 5, 2) := by decide +kernel
theorem dX9_bestReserve_45 : decode cX9_bestReserve 45 = .ok (.iload 5, 2) := by decide +kernel
theorem dX9_bestReserve_47 : decode cX9_bestReserve 47 = .ok (.aload 4, 2) := by decide +kernel
theorem dX9_bestReserve_49 : decode cX9_bestReserve 49 = .ok (.getfield 101, 3) := by decide +kernel
theorem dX9_bestReserve_52 : decode cX9_bestReserve 52 = .ok (.if_icmp .gt 43, 3) := by decide +kernel
theorem dX9_bestReserve_55 : decode cX9_bestReserve 55 = .ok (.aload_n 0, 1) := by decide +kernel
theorem dX9_bestReserve_56 : decode cX9_bestReserve 56 = .ok (.getfield 47, 3) := by decide +kernel
theorem dX9_bestReserve_59 : decode cX9_bestReserve 59 = .ok (.aload 4, 2) := by decide +kernel
theorem dX9_bestReserve_61 : decode cX9_bestReserve 61 = .ok (.getfield 101, 3) := by decide +kernel
theorem dX9_bestReserve_64 : decode cX9_bestReserve 64 = .ok (.aload 4, 2) := by decide +kernel
theorem dX9_bestReserve_66 : decode cX9_bestReserve 66 = .ok (.getfield 106, 3) := by decide +kernel
theorem dX9_bestReserve_69 : decode cX9_bestReserve 69 = .ok (.iload 5, 2) := by decide +kernel
theorem dX9_bestReserve_71 : decode cX9_bestReserve 71 = .ok (.iload_n 2, 1) := by decide +kernel
theorem dX9_bestReserve_72 : decode cX9_bestReserve 72 = .ok (.invokevirtual 201, 3) := by decide +kernel
theorem dX9_bestReserve_75 : decode cX9_bestReserve 75 = .ok (.aload_n 0, 1) := by decide +kernel
theorem dX9_bestReserve_76 : decode cX9_bestReserve 76 = .ok (.getfield 47, 3) := by decide +kernel
theorem dX9_bestReserve_79 : decode cX9_bestReserve 79 = .ok (.iload_n 3, 1) := by decide +kernel
theorem dX9_bestReserve_80 : decode cX9_bestReserve 80 = .ok (.invokevirtual 230, 3) := by decide +kernel
theorem dX9_bestReserve_83 : decode cX9_bestReserve 83 = .ok (.ifCond .eq 6, 3) := by decide +kernel
theorem dX9_bestReserve_86 : decode cX9_bestReserve 86 = .ok (.iload 5, 2) := by decide +kernel
theorem dX9_bestReserve_88 : decode cX9_bestReserve 88 = .ok (.ireturn, 1) := by decide +kernel
theorem dX9_bestReserve_89 : decode cX9_bestReserve 89 = .ok (.iinc 5 1, 3) := by decide +kernel
theorem dX9_bestReserve_92 : decode cX9_bestReserve 92 = .ok (.goto (-47), 3) := by decide +kernel
theorem dX9_bestReserve_95 : decode cX9_bestReserve 95 = .ok (.iconst (-1), 1) := by decide +kernel
theorem dX9_bestReserve_96 : decode cX9_bestReserve 96 = .ok (.ireturn, 1) := by decide +kernel
theorem dX9_write_0 : decode cX9_write 0 = .ok (.aload_n 0, 1) := by decide +kernel
theorem dX9_write_1 : decode cX9_write 1 = .ok (.getfield 10, 3) := by decide +kernel
theorem dX9_write_4 : decode cX9_write 4 = .ok (.iload_n 1, 1) := by decide +kernel
theorem dX9_write_5 : decode cX9_write 5 = .ok (.iload_n 2, 1) := by decide +kernel
theorem dX9_write_6 : decode cX9_write 6 = .ok (.invokevirtual 143, 3) := by decide +kernel
theorem dX9_write_9 : decode cX9_write 9 = .ok (.astore 4, 2) := by decide +kernel
theorem dX9_write_11 : decode cX9_write 11 = .ok (.aload 4, 2) := by decide +kernel
theorem dX9_write_13 : decode cX9_write 13 = .ok (.ifnonnull 6, 3) := by decide +kernel
theorem dX9_write_16 : decode cX9_write 16 = .ok (.ldc 100, 2) := by decide +kernel
theorem dX9_write_18 : decode cX9_write 18 = .ok (.ireturn, 1) := by decide +kernel
theorem dX9_write_19 : decode cX9_write 19 = .ok (.iload_n 3, 1) := by decide +kernel
theorem dX9_write_20 : decode cX9_write 20 = .ok (.iconst 0, 1) := by decide +kernel
theorem dX9_write_21 : decode cX9_write 21 = .ok (.iconst 2, 1) := by decide +kernel
theorem dX9_write_22 : decode cX9_write 22 = .ok (.invokestatic 157, 3) := by decide +kernel
theorem dX9_write_25 : decode cX9_write 25 = .ok (.ifCond .ne 6, 3) := by decide +kernel
theorem dX9_write_28 : decode cX9_write 28 = .ok (.ldc 95, 2) := by decide +kernel
theorem dX9_write_30 : decode cX9_write 30 = .ok (.ireturn, 1) := by decide +kernel
theorem dX9_write_31 : decode cX9_write 31 = .ok (.aload_n 0, 1) := by decide +kernel
theorem dX9_write_32 : decode cX9_write 32 = .ok (.getfield 33, 3) := by decide +kernel
theorem dX9_write_35 : decode cX9_write 35 = .ok (.getfield 89, 3) := by decide +kernel
theorem dX9_write_38 : decode cX9_write 38 = .ok (.bipush 20, 2) := by decide +kernel
theorem dX9_write_40 : decode cX9_write 40 = .ok (.if_icmp .lt 6, 3) := by decide +kernel
theorem dX9_write_43 : decode cX9_write 43 = .ok (.ldc 234, 2) := by decide +kernel
theorem dX9_write_45 : decode cX9_write 45 = .ok (.ireturn, 1) := by decide +kernel
theorem dX9_write_46 : decode cX9_write 46 = .ok (.aload_n 0, 1) := by decide +kernel
theorem dX9_write_47 : decode cX9_write 47 = .ok (.getfield 33, 3) := by decide +kernel
theorem dX9_write_50 : decode cX9_write 50 = .ok (.iload_n 1, 1) := by decide +kernel
theorem dX9_write_51 : decode cX9_write 51 = .ok (.iload_n 2, 1) := by decide +kernel
theorem dX9_write_52 : decode cX9_write 52 = .ok (.iload_n 3, 1) := by decide +kernel
theorem dX9_write_53 : decode cX9_write 53 = .ok (.invokevirtual 235, 3) := by decide +kernel
theorem dX9_write_56 : decode cX9_write 56 = .ok (.aload_n 0, 1) := by decide +kernel
theorem dX9_write_57 : decode cX9_write 57 = .ok (.getfield 33, 3) := by decide +kernel
theorem dX9_write_60 : decode cX9_write 60 = .ok (.getfield 89, 3) := by decide +kernel
theorem dX9_write_63 : decode cX9_write 63 = .ok (.ireturn, 1) := by decide +kernel
theorem dX9_tear_0 : decode cX9_tear 0 = .ok (.aload_n 0, 1) := by decide +kernel
theorem dX9_tear_1 : decode cX9_tear 1 = .ok (.getfield 33, 3) := by decide +kernel
theorem dX9_tear_4 : decode cX9_tear 4 = .ok (.getfield 89, 3) := by decide +kernel
theorem dX9_tear_7 : decode cX9_tear 7 = .ok (.istore_n 1, 1) := by decide +kernel
theorem dX9_tear_8 : decode cX9_tear 8 = .ok (.aload_n 0, 1) := by decide +kernel
theorem dX9_tear_9 : decode cX9_tear 9 = .ok (.getfield 33, 3) := by decide +kernel
theorem dX9_tear_12 : decode cX9_tear 12 = .ok (.invokevirtual 239, 3) := by decide +kernel
theorem dX9_tear_15 : decode cX9_tear 15 = .ok (.iload_n 1, 1) := by decide +kernel
theorem dX9_tear_16 : decode cX9_tear 16 = .ok (.ireturn, 1) := by decide +kernel
theorem dX9_seed_0 : decode cX9_seed 0 = .ok (.iload_n 1, 1) := by decide +kernel
theorem dX9_seed_1 : decode cX9_seed 1 = .ok (.ifCond .ge 6, 3) := by decide +kernel
theorem dX9_seed_4 : decode cX9_seed 4 = .ok (.ldc 95, 2) := by decide +kernel
theorem dX9_seed_6 : decode cX9_seed 6 = .ok (.ireturn, 1) := by decide +kernel
theorem dX9_seed_7 : decode cX9_seed 7 = .ok (.aload_n 0, 1) := by decide +kernel
theorem dX9_seed_8 : decode cX9_seed 8 = .ok (.getfield 40, 3) := by decide +kernel
theorem dX9_seed_11 : decode cX9_seed 11 = .ok (.getfield 242, 3) := by decide +kernel
theorem dX9_seed_14 : decode cX9_seed 14 = .ok (.istore_n 2, 1) := by decide +kernel
theorem dX9_seed_15 : decode cX9_seed 15 = .ok (.aload_n 0, 1) := by decide +kernel
theorem dX9_seed_16 : decode cX9_seed 16 = .ok (.getfield 40, 3) := by decide +kernel
theorem dX9_seed_19 : decode cX9_seed 19 = .ok (.iload_n 1, 1) := by decide +kernel
theorem dX9_seed_20 : decode cX9_seed 20 = .ok (.putfield 242, 3) := by decide +kernel
theorem dX9_seed_23 : decode cX9_seed 23 = .ok (.iload_n 2, 1) := by decide +kernel
theorem dX9_seed_24 : decode cX9_seed 24 = .ok (.ireturn, 1) := by decide +kernel
theorem dX9_keep_0 : decode cX9_keep 0 = .ok (.iload_n 1, 1) := by decide +kernel
theorem dX9_keep_1 : decode cX9_keep 1 = .ok (.iconst 0, 1) := by decide +kernel
theorem dX9_keep_2 : decode cX9_keep 2 = .ok (.iconst 1, 1) := by decide +kernel
theorem dX9_keep_3 : decode cX9_keep 3 = .ok (.invokestatic 157, 3) := by decide +kernel
theorem dX9_keep_6 : decode cX9_keep 6 = .ok (.ifCond .ne 6, 3) := by decide +kernel
theorem dX9_keep_9 : decode cX9_keep 9 = .ok (.ldc 100, 2) := by decide +kernel
theorem dX9_keep_11 : decode cX9_keep 11 = .ok (.ireturn, 1) := by decide +kernel
theorem dX9_keep_12 : decode cX9_keep 12 = .ok (.aload_n 0, 1) := by decide +kernel
theorem dX9_keep_13 : decode cX9_keep 13 = .ok (.getfield 25, 3) := by decide +kernel
theorem dX9_keep_16 : decode cX9_keep 16 = .ok (.iload_n 1, 1) := by decide +kernel
theorem dX9_keep_17 : decode cX9_keep 17 = .ok (.aaload, 1) := by decide +kernel
theorem dX9_keep_18 : decode cX9_keep 18 = .ok (.aload_n 0, 1) := by decide +kernel
theorem dX9_keep_19 : decode cX9_keep 19 = .ok (.getfield 10, 3) := by decide +kernel
theorem dX9_keep_22 : decode cX9_keep 22 = .ok (.aload_n 0, 1) := by decide +kernel
theorem dX9_keep_23 : decode cX9_keep 23 = .ok (.getfield 40, 3) := by decide +kernel
theorem dX9_keep_26 : decode cX9_keep 26 = .ok (.invokevirtual 245, 3) := by decide +kernel
theorem dX9_keep_29 : decode cX9_keep 29 = .ok (.aload_n 0, 1) := by decide +kernel
theorem dX9_keep_30 : decode cX9_keep 30 = .ok (.getfield 19, 3) := by decide +kernel
theorem dX9_keep_33 : decode cX9_keep 33 = .ok (.invokevirtual 249, 3) := by decide +kernel
theorem dX9_keep_36 : decode cX9_keep 36 = .ok (.iconst 1, 1) := by decide +kernel
theorem dX9_keep_37 : decode cX9_keep 37 = .ok (.ireturn, 1) := by decide +kernel
theorem dX9_goBack_0 : decode cX9_goBack 0 = .ok (.iload_n 1, 1) := by decide +kernel
theorem dX9_goBack_1 : decode cX9_goBack 1 = .ok (.iconst 0, 1) := by decide +kernel
theorem dX9_goBack_2 : decode cX9_goBack 2 = .ok (.iconst 1, 1) := by decide +kernel
theorem dX9_goBack_3 : decode cX9_goBack 3 = .ok (.invokestatic 157, 3) := by decide +kernel
theorem dX9_goBack_6 : decode cX9_goBack 6 = .ok (.ifCond .ne 6, 3) := by decide +kernel
theorem dX9_goBack_9 : decode cX9_goBack 9 = .ok (.ldc 100, 2) := by decide +kernel
theorem dX9_goBack_11 : decode cX9_goBack 11 = .ok (.ireturn, 1) := by decide +kernel
theorem dX9_goBack_12 : decode cX9_goBack 12 = .ok (.aload_n 0, 1) := by decide +kernel
theorem dX9_goBack_13 : decode cX9_goBack 13 = .ok (.getfield 25, 3) := by decide +kernel
theorem dX9_goBack_16 : decode cX9_goBack 16 = .ok (.iload_n 1, 1) := by decide +kernel
theorem dX9_goBack_17 : decode cX9_goBack 17 = .ok (.aaload, 1) := by decide +kernel
theorem dX9_goBack_18 : decode cX9_goBack 18 = .ok (.getfield 252, 3) := by decide +kernel
theorem dX9_goBack_21 : decode cX9_goBack 21 = .ok (.ifCond .ne 6, 3) := by decide +kernel
theorem dX9_goBack_24 : decode cX9_goBack 24 = .ok (.ldc 178, 2) := by decide +kernel
theorem dX9_goBack_26 : decode cX9_goBack 26 = .ok (.ireturn, 1) := by decide +kernel
theorem dX9_goBack_27 : decode cX9_goBack 27 = .ok (.aload_n 0, 1) := by decide +kernel
theorem dX9_goBack_28 : decode cX9_goBack 28 = .ok (.getfield 25, 3) := by decide +kernel
theorem dX9_goBack_31 : decode cX9_goBack 31 = .ok (.iload_n 1, 1) := by decide +kernel
theorem dX9_goBack_32 : decode cX9_goBack 32 = .ok (.aaload, 1) := by decide +kernel
theorem dX9_goBack_33 : decode cX9_goBack 33 = .ok (.aload_n 0, 1) := by decide +kernel
theorem dX9_goBack_34 : decode cX9_goBack 34 = .ok (.getfield 10, 3) := by decide +kernel
theorem dX9_goBack_37 : decode cX9_goBack 37 = .ok (.aload_n 0, 1) := by decide +kernel
theorem dX9_goBack_38 : decode cX9_goBack 38 = .ok (.getfield 40, 3) := by decide +kernel
theorem dX9_goBack_41 : decode cX9_goBack 41 = .ok (.invokevirtual 256, 3) := by decide +kernel
theorem dX9_goBack_44 : decode cX9_goBack 44 = .ok (.aload_n 0, 1) := by decide +kernel
theorem dX9_goBack_45 : decode cX9_goBack 45 = .ok (.getfield 19, 3) := by decide +kernel
theorem dX9_goBack_48 : decode cX9_goBack 48 = .ok (.invokevirtual 249, 3) := by decide +kernel
theorem dX9_goBack_51 : decode cX9_goBack 51 = .ok (.iconst 1, 1) := by decide +kernel
theorem dX9_goBack_52 : decode cX9_goBack 52 = .ok (.ireturn, 1) := by decide +kernel
theorem dX9_isWithin_0 : decode cX9_isWithin 0 = .ok (.iload_n 0, 1) := by decide +kernel
theorem dX9_isWithin_1 : decode cX9_isWithin 1 = .ok (.iload_n 1, 1) := by decide +kernel
theorem dX9_isWithin_2 : decode cX9_isWithin 2 = .ok (.if_icmp .lt 12, 3) := by decide +kernel
theorem dX9_isWithin_5 : decode cX9_isWithin 5 = .ok (.iload_n 0, 1) := by decide +kernel
theorem dX9_isWithin_6 : decode cX9_isWithin 6 = .ok (.iload_n 2, 1) := by decide +kernel
theorem dX9_isWithin_7 : decode cX9_isWithin 7 = .ok (.if_icmp .gt 7, 3) := by decide +kernel
theorem dX9_isWithin_10 : decode cX9_isWithin 10 = .ok (.iconst 1, 1) := by decide +kernel
theorem dX9_isWithin_11 : decode cX9_isWithin 11 = .ok (.goto 4, 3) := by decide +kernel
theorem dX9_isWithin_14 : decode cX9_isWithin 14 = .ok (.iconst 0, 1) := by decide +kernel
theorem dX9_isWithin_15 : decode cX9_isWithin 15 = .ok (.ireturn, 1) := by decide +kernel
theorem dX10_init_0 : decode cX10_init 0 = .ok (.aload_n 0, 1) := by decide +kernel
theorem dX10_init_1 : decode cX10_init 1 = .ok (.invokespecial 1, 3) := by decide +kernel
theorem dX10_init_4 : decode cX10_init 4 = .ok (.aload_n 0, 1) := by decide +kernel
theorem dX10_init_5 : decode cX10_init 5 = .ok (.sipush 139, 3) := by decide +kernel
theorem dX10_init_8 : decode cX10_init 8 = .ok (.newarray .int, 2) := by decide +kernel
theorem dX10_init_10 : decode cX10_init 10 = .ok (.putfield 7, 3) := by decide +kernel
theorem dX10_init_13 : decode cX10_init 13 = .ok (.aload_n 0, 1) := by decide +kernel
theorem dX10_init_14 : decode cX10_init 14 = .ok (.sipush 2780, 3) := by decide +kernel
theorem dX10_init_17 : decode cX10_init 17 = .ok (.newarray .int, 2) := by decide +kernel
theorem dX10_init_19 : decode cX10_init 19 = .ok (.putfield 13, 3) := by decide +kernel
theorem dX10_init_22 : decode cX10_init 22 = .ok (.aload_n 0, 1) := by decide +kernel
theorem dX10_init_23 : decode cX10_init 23 = .ok (.sipush 278, 3) := by decide +kernel
theorem dX10_init_26 : decode cX10_init 26 = .ok (.newarray .int, 2) := by decide +kernel
theorem dX10_init_28 : decode cX10_init 28 = .ok (.putfield 16, 3) := by decide +kernel
theorem dX10_init_31 : decode cX10_init 31 = .ok (.aload_n 0, 1) := by decide +kernel
theorem dX10_init_32 : decode cX10_init 32 = .ok (.iconst 2, 1) := by decide +kernel
theorem dX10_init_33 : decode cX10_init 33 = .ok (.newarray .long, 2) := by decide +kernel
theorem dX10_init_35 : decode cX10_init 35 = .ok (.putfield 19, 3) := by decide +kernel
theorem dX10_init_38 : decode cX10_init 38 = .ok (.aload_n 0, 1) := by decide +kernel
theorem dX10_init_39 : decode cX10_init 39 = .ok (.iconst 2, 1) := by decide +kernel
theorem dX10_init_40 : decode cX10_init 40 = .ok (.newarray .boolean, 2) := by decide +kernel
theorem dX10_init_42 : decode cX10_init 42 = .ok (.putfield 23, 3) := by decide +kernel
theorem dX10_init_45 : decode cX10_init 45 = .ok (.aload_n 0, 1) := by decide +kernel
theorem dX10_init_46 : decode cX10_init 46 = .ok (.bipush 60, 2) := by decide +kernel
theorem dX10_init_48 : decode cX10_init 48 = .ok (.newarray .int, 2) := by decide +kernel
theorem dX10_init_50 : decode cX10_init 50 = .ok (.putfield 27, 3) := by decide +kernel
theorem dX10_init_53 : decode cX10_init 53 = .ok (.aload_n 0, 1) := by decide +kernel
theorem dX10_init_54 : decode cX10_init 54 = .ok (.bipush 7, 2) := by decide +kernel
theorem dX10_init_56 : decode cX10_init 56 = .ok (.newarray .long, 2) := by decide +kernel
theorem dX10_init_58 : decode cX10_init 58 = .ok (.putfield 30, 3) := by decide +kernel
theorem dX10_init_61 : decode cX10_init 61 = .ok (.aload_n 0, 1) := by decide +kernel
theorem dX10_init_62 : decode cX10_init 62 = .ok (.iconst 4, 1) := by decide +kernel
theorem dX10_init_63 : decode cX10_init 63 = .ok (.newarray .int, 2) := by decide +kernel
theorem dX10_init_65 : decode cX10_init 65 = .ok (.putfield 33, 3) := by decide +kernel
theorem dX10_init_68 : decode cX10_init 68 = .ok (.aload_n 0, 1) := by decide +kernel
theorem dX10_init_69 : decode cX10_init 69 = .ok (.iconst 4, 1) := by decide +kernel
theorem dX10_init_70 : decode cX10_init 70 = .ok (.newarray .int, 2) := by decide +kernel
theorem dX10_init_72 : decode cX10_init 72 = .ok (.putfield 36, 3) := by decide +kernel
theorem dX10_init_75 : decode cX10_init 75 = .ok (.aload_n 0, 1) := by decide +kernel
theorem dX10_init_76 : decode cX10_init 76 = .ok (.iconst 4, 1) := by decide +kernel
theorem dX10_init_77 : decode cX10_init 77 = .ok (.newarray .int, 2) := by decide +kernel
theorem dX10_init_79 : decode cX10_init 79 = .ok (.putfield 39, 3) := by decide +kernel
theorem dX10_init_82 : decode cX10_init 82 = .ok (.aload_n 0, 1) := by decide +kernel
theorem dX10_init_83 : decode cX10_init 83 = .ok (.iconst 2, 1) := by decide +kernel
theorem dX10_init_84 : decode cX10_init 84 = .ok (.invokevirtual 42, 3) := by decide +kernel
theorem dX10_init_87 : decode cX10_init 87 = .ok (.return_, 1) := by decide +kernel
theorem dX10_in_0 : decode cX10_in 0 = .ok (.iload_n 0, 1) := by decide +kernel
theorem dX10_in_1 : decode cX10_in 1 = .ok (.iload_n 1, 1) := by decide +kernel
theorem dX10_in_2 : decode cX10_in 2 = .ok (.if_icmp .lt 12, 3) := by decide +kernel
theorem dX10_in_5 : decode cX10_in 5 = .ok (.iload_n 0, 1) := by decide +kernel
theorem dX10_in_6 : decode cX10_in 6 = .ok (.iload_n 2, 1) := by decide +kernel
theorem dX10_in_7 : decode cX10_in 7 = .ok (.if_icmp .gt 7, 3) := by decide +kernel
theorem dX10_in_10 : decode cX10_in 10 = .ok (.iconst 1, 1) := by decide +kernel
theorem dX10_in_11 : decode cX10_in 11 = .ok (.goto 4, 3) := by decide +kernel
theorem dX10_in_14 : decode cX10_in 14 = .ok (.iconst 0, 1) := by decide +kernel
theorem dX10_in_15 : decode cX10_in 15 = .ok (.ireturn, 1) := by decide +kernel
theorem dX10_isGroup_0 : decode cX10_isGroup 0 = .ok (.iload_n 1, 1) := by decide +kernel
theorem dX10_isGroup_1 : decode cX10_isGroup 1 = .ok (.iconst 0, 1) := by decide +kernel
theorem dX10_isGroup_2 : decode cX10_isGroup 2 = .ok (.aload_n 0, 1) := by decide +kernel
theorem dX10_isGroup_3 : decode cX10_isGroup 3 = .ok (.getfield 7, 3) := by decide +kernel
theorem dX10_isGroup_6 : decode cX10_isGroup 6 = .ok (.iconst 0, 1) := by decide +kernel
theorem dX10_isGroup_7 : decode cX10_isGroup 7 = .ok (.iaload, 1) := by decide +kernel
theorem dX10_isGroup_8 : decode cX10_isGroup 8 = .ok (.iconst 1, 1) := by decide +kernel
theorem dX10_isGroup_9 : decode cX10_isGroup 9 = .ok (.isub, 1) := by decide +kernel
theorem dX10_isGroup_10 : decode cX10_isGroup 10 = .ok (.invokestatic 46, 3) := by decide +kernel
theorem dX10_isGroup_13 : decode cX10_isGroup 13 = .ok (.ireturn, 1) := by decide +kernel
theorem dX10_of_0 : decode cX10_of 0 = .ok (.aload_n 0, 1) := by decide +kernel
theorem dX10_of_1 : decode cX10_of 1 = .ok (.getfield 7, 3) := by decide +kernel
theorem dX10_of_4 : decode cX10_of 4 = .ok (.iconst 3, 1) := by decide +kernel
theorem dX10_of_5 : decode cX10_of 5 = .ok (.bipush 34, 2) := by decide +kernel
theorem dX10_of_7 : decode cX10_of 7 = .ok (.iload_n 1, 1) := by decide +kernel
theorem dX10_of_8 : decode cX10_of 8 = .ok (.imul, 1) := by decide +kernel
theorem dX10_of_9 : decode cX10_of 9 = .ok (.iadd, 1) := by decide +kernel
theorem dX10_of_10 : decode cX10_of 10 = .ok (.iload_n 2, 1) := by decide +kernel
theorem dX10_of_11 : decode cX10_of 11 = .ok (.iadd, 1) := by decide +kernel
theorem dX10_of_12 : decode cX10_of 12 = .ok (.iaload, 1) := by decide +kernel
theorem dX10_of_13 : decode cX10_of 13 = .ok (.ireturn, 1) := by decide +kernel
theorem dX10_put_0 : decode cX10_put 0 = .ok (.aload_n 0, 1) := by decide +kernel
theorem dX10_put_1 : decode cX10_put 1 = .ok (.getfield 7, 3) := by decide +kernel
theorem dX10_put_4 : decode cX10_put 4 = .ok (.iconst 3, 1) := by decide +kernel
theorem dX10_put_5 : decode cX10_put 5 = .ok (.bipush 34, 2) := by decide +kernel
theorem dX10_put_7 : decode cX10_put 7 = .ok (.iload_n 1, 1) := by decide +kernel
theorem dX10_put_8 : decode cX10_put 8 = .ok (.imul, 1) := by decide +kernel
theorem dX10_put_9 : decode cX10_put 9 = .ok (.iadd, 1) := by decide +kernel
theorem dX10_put_10 : decode cX10_put 10 = .ok (.iload_n 2, 1) := by decide +kernel
theorem dX10_put_11 : decode cX10_put 11 = .ok (.iadd, 1) := by decide +kernel
theorem dX10_put_12 : decode cX10_put 12 = .ok (.iload_n 3, 1) := by decide +kernel
theorem dX10_put_13 : decode cX10_put 13 = .ok (.iastore, 1) := by decide +kernel
theorem dX10_put_14 : decode cX10_put 14 = .ok (.return_, 1) := by decide +kernel
theorem dX10_isLine_0 : decode cX10_isLine 0 = .ok (.aload_n 0, 1) := by decide +kernel
theorem dX10_isLine_1 : decode cX10_isLine 1 = .ok (.iload_n 1, 1) := by decide +kernel
theorem dX10_isLine_2 : decode cX10_isLine 2 = .ok (.invokevirtual 50, 3) := by decide +kernel
theorem dX10_isLine_5 : decode cX10_isLine 5 = .ok (.ifCond .eq 23, 3) := by decide +kernel
theorem dX10_isLine_8 : decode cX10_isLine 8 = .ok (.iload_n 2, 1) := by decide +kernel
theorem dX10_isLine_9 : decode cX10_isLine 9 = .ok (.iconst 0, 1) := by decide +kernel
theorem dX10_isLine_10 : decode cX10_isLine 10 = .ok (.aload_n 0, 1) := by decide +kernel
theorem dX10_isLine_11 : decode cX10_isLine 11 = .ok (.iload_n 1, 1) := by decide +kernel
theorem dX10_isLine_12 : decode cX10_isLine 12 = .ok (.iconst 0, 1) := by decide +kernel
theorem dX10_isLine_13 : decode cX10_isLine 13 = .ok (.invokevirtual 54, 3) := by decide +kernel
theorem dX10_isLine_16 : decode cX10_isLine 16 = .ok (.iconst 1, 1) := by decide +kernel
theorem dX10_isLine_17 : decode cX10_isLine 17 = .ok (.isub, 1) := by decide +kernel
theorem dX10_isLine_18 : decode cX10_isLine 18 = .ok (.invokestatic 46, 3) := by decide +kernel
theorem dX10_isLine_21 : decode cX10_isLine 21 = .ok (.ifCond .eq 7, 3) := by decide +kernel
theorem dX10_isLine_24 : decode cX10_isLine 24 = .ok (.iconst 1, 1) := by decide +kernel
theorem dX10_isLine_25 : decode cX10_isLine 25 = .ok (.goto 4, 3) := by decide +kernel
theorem dX10_isLine_28 : decode cX10_isLine 28 = .ok (.iconst 0, 1) := by decide +kernel
theorem dX10_isLine_29 : decode cX10_isLine 29 = .ok (.ireturn, 1) := by decide +kernel
theorem dX10_ofL_0 : decode cX10_ofL 0 = .ok (.aload_n 0, 1) := by decide +kernel
theorem dX10_ofL_1 : decode cX10_ofL 1 = .ok (.iload_n 1, 1) := by decide +kernel
theorem dX10_ofL_2 : decode cX10_ofL 2 = .ok (.bipush 10, 2) := by decide +kernel
theorem dX10_ofL_4 : decode cX10_ofL 4 = .ok (.iconst 4, 1) := by decide +kernel
theorem dX10_ofL_5 : decode cX10_ofL 5 = .ok (.iload_n 2, 1) := by decide +kernel
theorem dX10_ofL_6 : decode cX10_ofL 6 = .ok (.imul, 1) := by decide +kernel
theorem dX10_ofL_7 : decode cX10_ofL 7 = .ok (.iadd, 1) := by decide +kernel
theorem dX10_ofL_8 : decode cX10_ofL 8 = .ok (.iload_n 3, 1) := by decide +kernel
theorem dX10_ofL_9 : decode cX10_ofL 9 = .ok (.iadd, 1) := by decide +kernel
theorem dX10_ofL_10 : decode cX10_ofL 10 = .ok (.invokevirtual 54, 3) := by decide +kernel
theorem dX10_ofL_13 : decode cX10_ofL 13 = .ok (.ireturn, 1) := by decide +kernel
theorem dX10_putL_0 : decode cX10_putL 0 = .ok (.aload_n 0, 1) := by decide +kernel
theorem dX10_putL_1 : decode cX10_putL 1 = .ok (.iload_n 1, 1) := by decide +kernel
theorem dX10_putL_2 : decode cX10_putL 2 = .ok (.bipush 10, 2) := by decide +kernel
theorem dX10_putL_4 : decode cX10_putL 4 = .ok (.iconst 4, 1) := by decide +kernel
theorem dX10_putL_5 : decode cX10_putL 5 = .ok (.iload_n 2, 1) := by decide +kernel
theorem dX10_putL_6 : decode cX10_putL 6 = .ok (.imul, 1) := by decide +kernel
theorem dX10_putL_7 : decode cX10_putL 7 = .ok (.iadd, 1) := by decide +kernel
theorem dX10_putL_8 : decode cX10_putL 8 = .ok (.iconst 0, 1) := by decide +kernel
theorem dX10_putL_9 : decode cX10_putL 9 = .ok (.iadd, 1) := by decide +kernel
theorem dX10_putL_10 : decode cX10_putL 10 = .ok (.iload_n 3, 1) := by decide +kernel
theorem dX10_putL_11 : decode cX10_putL 11 = .ok (.invokevirtual 58, 3) := by decide +kernel
theorem dX10_putL_14 : decode cX10_putL 14 = .ok (.aload_n 0, 1) := by decide +kernel
theorem dX10_putL_15 : decode cX10_putL 15 = .ok (.iload_n 1, 1) := by decide +kernel
theorem dX10_putL_16 : decode cX10_putL 16 = .ok (.bipush 10, 2) := by decide +kernel
theorem dX10_putL_18 : decode cX10_putL 18 = .ok (.iconst 4, 1) := by decide +kernel
theorem dX10_putL_19 : decode cX10_putL 19 = .ok (.iload_n 2, 1) := by decide +kernel
theorem dX10_putL_20 : decode cX10_putL 20 = .ok (.imul, 1) := by decide +kernel
theorem dX10_putL_21 : decode cX10_putL 21 = .ok (.iadd, 1) := by decide +kernel
theorem dX10_putL_22 : decode cX10_putL 22 = .ok (.iconst 1, 1) := by decide +kernel
theorem dX10_putL_23 : decode cX10_putL 23 = .ok (.iadd, 1) := by decide +kernel
theorem dX10_putL_24 : decode cX10_putL 24 = .ok (.iload 4, 2) := by decide +kernel
theorem dX10_putL_26 : decode cX10_putL 26 = .ok (.invokevirtual 58, 3) := by decide +kernel
theorem dX10_putL_29 : decode cX10_putL 29 = .ok (.aload_n 0, 1) := by decide +kernel
theorem dX10_putL_30 : decode cX10_putL 30 = .ok (.iload_n 1, 1) := by decide +kernel
theorem dX10_putL_31 : decode cX10_putL 31 = .ok (.bipush 10, 2) := by decide +kernel
theorem dX10_putL_33 : decode cX10_putL 33 = .ok (.iconst 4, 1) := by decide +kernel
theorem dX10_putL_34 : decode cX10_putL 34 = .ok (.iload_n 2, 1) := by decide +kernel
theorem dX10_putL_35 : decode cX10_putL 35 = .ok (.imul, 1) := by decide +kernel
theorem dX10_putL_36 : decode cX10_putL 36 = .ok (.iadd, 1) := by decide +kernel
theorem dX10_putL_37 : decode cX10_putL 37 = .ok (.iconst 2, 1) := by decide +kernel
theorem dX10_putL_38 : decode cX10_putL 38 = .ok (.iadd, 1) := by decide +kernel
theorem dX10_putL_39 : decode cX10_putL 39 = .ok (.iload 5, 2) := by decide +kernel
theorem dX10_putL_41 : decode cX10_putL 41 = .ok (.invokevirtual 58, 3) := by decide +kernel
theorem dX10_putL_44 : decode cX10_putL 44 = .ok (.aload_n 0, 1) := by decide +kernel
theorem dX10_putL_45 : decode cX10_putL 45 = .ok (.iload_n 1, 1) := by decide +kernel
theorem dX10_putL_46 : decode cX10_putL 46 = .ok (.bipush 10, 2) := by decide +kernel
theorem dX10_putL_48 : decode cX10_putL 48 = .ok (.iconst 4, 1) := by decide +kernel
theorem dX10_putL_49 : decode cX10_putL 49 = .ok (.iload_n 2, 1) := by decide +kernel
theorem dX10_putL_50 : decode cX10_putL 50 = .ok (.imul, 1) := by decide +kernel
theorem dX10_putL_51 : decode cX10_putL 51 = .ok (.iadd, 1) := by decide +kernel
theorem dX10_putL_52 : decode cX10_putL 52 = .ok (.iconst 3, 1) := by decide +kernel
theorem dX10_putL_53 : decode cX10_putL 53 = .ok (.iadd, 1) := by decide +kernel
theorem dX10_putL_54 : decode cX10_putL 54 = .ok (.iload 6, 2) := by decide +kernel
theorem dX10_putL_56 : decode cX10_putL 56 = .ok (.invokevirtual 58, 3) := by decide +kernel
theorem dX10_putL_59 : decode cX10_putL 59 = .ok (.return_, 1) := by decide +kernel
theorem dX10_frees_0 : decode cX10_frees 0 = .ok (.aload_n 0, 1) := by decide +kernel
theorem dX10_frees_1 : decode cX10_frees 1 = .ok (.iload_n 1, 1) := by decide +kernel
theorem dX10_frees_2 : decode cX10_frees 2 = .ok (.iconst 5, 1) := by decide +kernel
theorem dX10_frees_3 : decode cX10_frees 3 = .ok (.iconst (-1), 1) := by decide +kernel
theorem dX10_frees_4 : decode cX10_frees 4 = .ok (.invokevirtual 58, 3) := by decide +kernel
theorem dX10_frees_7 : decode cX10_frees 7 = .ok (.iconst 0, 1) := by decide +kernel
theorem dX10_frees_8 : decode cX10_frees 8 = .ok (.istore_n 2, 1) := by decide +kernel
theorem dX10_frees_9 : decode cX10_frees 9 = .ok (.iload_n 2, 1) := by decide +kernel
theorem dX10_frees_10 : decode cX10_frees 10 = .ok (.bipush 6, 2) := by decide +kernel
theorem dX10_frees_12 : decode cX10_frees 12 = .ok (.if_icmp .ge 19, 3) := by decide +kernel
theorem dX10_frees_15 : decode cX10_frees 15 = .ok (.aload_n 0, 1) := by decide +kernel
theorem dX10_frees_16 : decode cX10_frees 16 = .ok (.iload_n 1, 1) := by decide +kernel
theorem dX10_frees_17 : decode cX10_frees 17 = .ok (.iload_n 2, 1) := by decide +kernel
theorem dX10_frees_18 : decode cX10_frees 18 = .ok (.iconst 0, 1) := by decide +kernel
theorem dX10_frees_19 : decode cX10_frees 19 = .ok (.iconst (-1), 1) := by decide +kernel
theorem dX10_frees_20 : decode cX10_frees 20 = .ok (.iconst (-1), 1) := by decide +kernel
theorem dX10_frees_21 : decode cX10_frees 21 = .ok (.iconst (-1), 1) := by decide +kernel
theorem dX10_frees_22 : decode cX10_frees 22 = .ok (.invokevirtual 62, 3) := by decide +kernel
theorem dX10_frees_25 : decode cX10_frees 25 = .ok (.iinc 2 1, 3) := by decide +kernel
theorem dX10_frees_28 : decode cX10_frees 28 = .ok (.goto (-19), 3) := by decide +kernel
theorem dX10_frees_31 : decode cX10_frees 31 = .ok (.return_, 1) := by decide +kernel
theorem dX10_builds_0 : decode cX10_builds 0 = .ok (.iconst 0, 1) := by decide +kernel
theorem dX10_builds_1 : decode cX10_builds 1 = .ok (.istore_n 2, 1) := by decide +kernel
theorem dX10_builds_2 : decode cX10_builds 2 = .ok (.iload_n 2, 1) := by decide +kernel
theorem dX10_builds_3 : decode cX10_builds 3 = .ok (.sipush 139, 3) := by decide +kernel
theorem dX10_builds_6 : decode cX10_builds 6 = .ok (.if_icmp .ge 16, 3) := by decide +kernel
theorem dX10_builds_9 : decode cX10_builds 9 = .ok (.aload_n 0, 1) := by decide +kernel
theorem dX10_builds_10 : decode cX10_builds 10 = .ok (.getfield 7, 3) := by decide +kernel
theorem dX10_builds_13 : decode cX10_builds 13 = .ok (.iload_n 2, 1) := by decide +kernel
theorem dX10_builds_14 : decode cX10_builds 14 = .ok (.iconst 0, 1) := by decide +kernel
theorem dX10_builds_15 : decode cX10_builds 15 = .ok (.iastore, 1) := by decide +kernel
theorem dX10_builds_16 : decode cX10_builds 16 = .ok (.iinc 2 1, 3) := by decide +kernel
theorem dX10_builds_19 : decode cX10_builds 19 = .ok (.goto (-17), 3) := by decide +kernel
theorem dX10_builds_22 : decode cX10_builds 22 = .ok (.aload_n 0, 1) := by decide +kernel
theorem dX10_builds_23 : decode cX10_builds 23 = .ok (.getfield 7, 3) := by decide +kernel
theorem dX10_builds_26 : decode cX10_builds 26 = .ok (.iconst 0, 1) := by decide +kernel
theorem dX10_builds_27 : decode cX10_builds 27 = .ok (.iload_n 1, 1) := by decide +kernel
theorem dX10_builds_28 : decode cX10_builds 28 = .ok (.iastore, 1) := by decide +kernel
theorem dX10_builds_29 : decode cX10_builds 29 = .ok (.iconst 0, 1) := by decide +kernel
theorem dX10_builds_30 : decode cX10_builds 30 = .ok (.istore_n 2, 1) := by decide +kernel
theorem dX10_builds_31 : decode cX10_builds 31 = .ok (.iload_n 2, 1) := by decide +kernel
theorem dX10_builds_32 : decode cX10_builds 32 = .ok (.iconst 4, 1) := by decide +kernel
theorem dX10_builds_33 : decode cX10_builds 33 = .ok (.if_icmp .ge 35, 3) := by decide +kernel
theorem dX10_builds_36 : decode cX10_builds 36 = .ok (.aload_n 0, 1) := by decide +kernel
theorem dX10_builds_37 : decode cX10_builds 37 = .ok (.iload_n 2, 1) := by decide +kernel
theorem dX10_builds_38 : decode cX10_builds 38 = .ok (.iconst 0, 1) := by decide +kernel
theorem dX10_builds_39 : decode cX10_builds 39 = .ok (.iconst 3, 1) := by decide +kernel
theorem dX10_builds_40 : decode cX10_builds 40 = .ok (.invokevirtual 58, 3) := by decide +kernel
theorem dX10_builds_43 : decode cX10_builds 43 = .ok (.aload_n 0, 1) := by decide +kernel
theorem dX10_builds_44 : decode cX10_builds 44 = .ok (.iload_n 2, 1) := by decide +kernel
theorem dX10_builds_45 : decode cX10_builds 45 = .ok (.iconst 1, 1) := by decide +kernel
theorem dX10_builds_46 : decode cX10_builds 46 = .ok (.iconst 2, 1) := by decide +kernel
theorem dX10_builds_47 : decode cX10_builds 47 = .ok (.invokevirtual 58, 3) := by decide +kernel
theorem dX10_builds_50 : decode cX10_builds 50 = .ok (.aload_n 0, 1) := by decide +kernel
theorem dX10_builds_51 : decode cX10_builds 51 = .ok (.iload_n 2, 1) := by decide +kernel
theorem dX10_builds_52 : decode cX10_builds 52 = .ok (.iconst 3, 1) := by decide +kernel
theorem dX10_builds_53 : decode cX10_builds 53 = .ok (.iconst (-1), 1) := by decide +kernel
theorem dX10_builds_54 : decode cX10_builds 54 = .ok (.invokevirtual 58, 3) := by decide +kernel
theorem dX10_builds_57 : decode cX10_builds 57 = .ok (.aload_n 0, 1) := by decide +kernel
theorem dX10_builds_58 : decode cX10_builds 58 = .ok (.iload_n 2, 1) := by decide +kernel
theorem dX10_builds_59 : decode cX10_builds 59 = .ok (.invokevirtual 66, 3) := by decide +kernel
theorem dX10_builds_62 : decode cX10_builds 62 = .ok (.iinc 2 1, 3) := by decide +kernel
theorem dX10_builds_65 : decode cX10_builds 65 = .ok (.goto (-34), 3) := by decide +kernel
theorem dX10_builds_68 : decode cX10_builds 68 = .ok (.return_, 1) := by decide +kernel
theorem dX10_notes_0 : decode cX10_notes 0 = .ok (.aload_n 0, 1) := by decide +kernel
theorem dX10_notes_1 : decode cX10_notes 1 = .ok (.getfield 69, 3) := by decide +kernel
theorem dX10_notes_4 : decode cX10_notes 4 = .ok (.bipush 20, 2) := by decide +kernel
theorem dX10_notes_6 : decode cX10_notes 6 = .ok (.if_icmp .ne 44, 3) := by decide +kernel
theorem dX10_notes_9 : decode cX10_notes 9 = .ok (.iconst 0, 1) := by decide +kernel
theorem dX10_notes_10 : decode cX10_notes 10 = .ok (.istore_n 1, 1) := by decide +kernel
theorem dX10_notes_11 : decode cX10_notes 11 = .ok (.iload_n 1, 1) := by decide +kernel
theorem dX10_notes_12 : decode cX10_notes 12 = .ok (.sipush 2641, 3) := by decide +kernel
theorem dX10_notes_15 : decode cX10_notes 15 = .ok (.if_icmp .ge 25, 3) := by decide +kernel
theorem dX10_notes_18 : decode cX10_notes 18 = .ok (.aload_n 0, 1) := by decide +kernel
theorem dX10_notes_19 : decode cX10_notes 19 = .ok (.getfield 13, 3) := by decide +kernel
theorem dX10_notes_22 : decode cX10_notes 22 = .ok (.iload_n 1, 1) := by decide +kernel
theorem dX10_notes_23 : decode cX10_notes 23 = .ok (.aload_n 0, 1) := by decide +kernel
theorem dX10_notes_24 : decode cX10_notes 24 = .ok (.getfield 13, 3) := by decide +kernel
theorem dX10_notes_27 : decode cX10_notes 27 = .ok (.iload_n 1, 1) := by decide +kernel
theorem dX10_notes_28 : decode cX10_notes 28 = .ok (.sipush 139, 3) := by decide +kernel
theorem dX10_notes_31 : decode cX10_notes 31 = .ok (.iadd, 1) := by decide +kernel
theorem dX10_notes_32 : decode cX10_notes 32 = .ok (.iaload, 1) := by decide +kernel
theorem dX10_notes_33 : decode cX10_notes 33 = .ok (.iastore, 1) := by decide +kernel
theorem dX10_notes_34 : decode cX10_notes 34 = .ok (.iinc 1 1, 3) := by decide +kernel
theorem dX10_notes_37 : decode cX10_notes 37 = .ok (.goto (-26), 3) := by decide +kernel
theorem dX10_notes_40 : decode cX10_notes 40 = .ok (.aload_n 0, 1) := by decide +kernel
theorem dX10_notes_41 : decode cX10_notes 41 = .ok (.dup, 1) := by decide +kernel
theorem dX10_notes_42 : decode cX10_notes 42 = .ok (.getfield 69, 3) := by decide +kernel
theorem dX10_notes_45 : decode cX10_notes 45 = .ok (.iconst 1, 1) := by decide +kernel
theorem dX10_notes_46 : decode cX10_notes 46 = .ok (.isub, 1) := by decide +kernel
theorem dX10_notes_47 : decode cX10_notes 47 = .ok (.putfield 69, 3) := by decide +kernel
theorem dX10_notes_50 : decode cX10_notes 50 = .ok (.iconst 0, 1) := by decide +kernel
theorem dX10_notes_51 : decode cX10_notes 51 = .ok (.istore_n 1, 1) := by decide +kernel
theorem dX10_notes_52 : decode cX10_notes 52 = .ok (.iload_n 1, 1) := by decide +kernel
theorem dX10_notes_53 : decode cX10_notes 53 = .ok (.sipush 139, 3) := by decide +kernel
theorem dX10_notes_56 : decode cX10_notes 56 = .ok (.if_icmp .ge 30, 3) := by decide +kernel
theorem dX10_notes_59 : decode cX10_notes 59 = .ok (.aload_n 0, 1) := by decide +kernel
theorem dX10_notes_60 : decode cX10_notes 60 = .ok (.getfield 13, 3) := by decide +kernel
theorem dX10_notes_63 : decode cX10_notes 63 = .ok (.sipush 139, 3) := by decide +kernel
theorem dX10_notes_66 : decode cX10_notes 66 = .ok (.aload_n 0, 1) := by decide +kernel
theorem dX10_notes_67 : decode cX10_notes 67 = .ok (.getfield 69, 3) := by decide +kernel
theorem dX10_notes_70 : decode cX10_notes 70 = .ok (.imul, 1) := by decide +kernel
theorem dX10_notes_71 : decode cX10_notes 71 = .ok (.iload_n 1, 1) := by decide +kernel
theorem dX10_notes_72 : decode cX10_notes 72 = .ok (.iadd, 1) := by decide +kernel
theorem dX10_notes_73 : decode cX10_notes 73 = .ok (.aload_n 0, 1) := by decide +kernel
theorem dX10_notes_74 : decode cX10_notes 74 = .ok (.getfield 7, 3) := by decide +kernel
theorem dX10_notes_77 : decode cX10_notes 77 = .ok (.iload_n 1, 1) := by decide +kernel
theorem dX10_notes_78 : decode cX10_notes 78 = .ok (.iaload, 1) := by decide +kernel
theorem dX10_notes_79 : decode cX10_notes 79 = .ok (.iastore, 1) := by decide +kernel
theorem dX10_notes_80 : decode cX10_notes 80 = .ok (.iinc 1 1, 3) := by decide +kernel
theorem dX10_notes_83 : decode cX10_notes 83 = .ok (.goto (-31), 3) := by decide +kernel
theorem dX10_notes_86 : decode cX10_notes 86 = .ok (.aload_n 0, 1) := by decide +kernel
theorem dX10_notes_87 : decode cX10_notes 87 = .ok (.dup, 1) := by decide +kernel
theorem dX10_notes_88 : decode cX10_notes 88 = .ok (.getfield 69, 3) := by decide +kernel
theorem dX10_notes_91 : decode cX10_notes 91 = .ok (.iconst 1, 1) := by decide +kernel
theorem dX10_notes_92 : decode cX10_notes 92 = .ok (.iadd, 1) := by decide +kernel
theorem dX10_notes_93 : decode cX10_notes 93 = .ok (.putfield 69, 3) := by decide +kernel
theorem dX10_notes_96 : decode cX10_notes 96 = .ok (.return_, 1) := by decide +kernel
theorem dX10_setOf_0 : decode cX10_setOf 0 = .ok (.iconst 0, 1) := by decide +kernel
theorem dX10_setOf_1 : decode cX10_setOf 1 = .ok (.istore_n 3, 1) := by decide +kernel
theorem dX10_setOf_2 : decode cX10_setOf 2 = .ok (.iconst 0, 1) := by decide +kernel
theorem dX10_setOf_3 : decode cX10_setOf 3 = .ok (.istore 4, 2) := by decide +kernel
theorem dX10_setOf_5 : decode cX10_setOf 5 = .ok (.iload 4, 2) := by decide +kernel
theorem dX10_setOf_7 : decode cX10_setOf 7 = .ok (.aload_n 0, 1) := by decide +kernel
theorem dX10_setOf_8 : decode cX10_setOf 8 = .ok (.iload_n 1, 1) := by decide +kernel
theorem dX10_setOf_9 : decode cX10_setOf 9 = .ok (.iconst 0, 1) := by decide +kernel
theorem dX10_setOf_10 : decode cX10_setOf 10 = .ok (.invokevirtual 54, 3) := by decide +kernel
theorem dX10_setOf_13 : decode cX10_setOf 13 = .ok (.if_icmp .ge 32, 3) := by decide +kernel
theorem dX10_setOf_16 : decode cX10_setOf 16 = .ok (.iload_n 3, 1) := by decide +kernel
theorem dX10_setOf_17 : decode cX10_setOf 17 = .ok (.aload_n 0, 1) := by decide +kernel
theorem dX10_setOf_18 : decode cX10_setOf 18 = .ok (.iload_n 1, 1) := by decide +kernel
theorem dX10_setOf_19 : decode cX10_setOf 19 = .ok (.iload 4, 2) := by decide +kernel
theorem dX10_setOf_21 : decode cX10_setOf 21 = .ok (.iconst 0, 1) := by decide +kernel
theorem dX10_setOf_22 : decode cX10_setOf 22 = .ok (.invokevirtual 73, 3) := by decide +kernel
theorem dX10_setOf_25 : decode cX10_setOf 25 = .ok (.iload_n 2, 1) := by decide +kernel
theorem dX10_setOf_26 : decode cX10_setOf 26 = .ok (.if_icmp .ne 10, 3) := by decide +kernel
theorem dX10_setOf_29 : decode cX10_setOf 29 = .ok (.iconst 1, 1) := by decide +kernel
theorem dX10_setOf_30 : decode cX10_setOf 30 = .ok (.iload 4, 2) := by decide +kernel
theorem dX10_setOf_32 : decode cX10_setOf 32 = .ok (.ishl, 1) := by decide +kernel
theorem dX10_setOf_33 : decode cX10_setOf 33 = .ok (.goto 4, 3) := by decide +kernel
theorem dX10_setOf_36 : decode cX10_setOf 36 = .ok (.iconst 0, 1) := by decide +kernel
theorem dX10_setOf_37 : decode cX10_setOf 37 = .ok (.ior, 1) := by decide +kernel
theorem dX10_setOf_38 : decode cX10_setOf 38 = .ok (.istore_n 3, 1) := by decide +kernel
theorem dX10_setOf_39 : decode cX10_setOf 39 = .ok (.iinc 4 1, 3) := by decide +kernel
theorem dX10_setOf_42 : decode cX10_setOf 42 = .ok (.goto (-37), 3) := by decide +kernel
theorem dX10_setOf_45 : decode cX10_setOf 45 = .ok (.iload_n 3, 1) := by decide +kernel
theorem dX10_setOf_46 : decode cX10_setOf 46 = .ok (.ireturn, 1) := by decide +kernel
theorem dX10_ones_0 : decode cX10_ones 0 = .ok (.iconst 0, 1) := by decide +kernel
theorem dX10_ones_1 : decode cX10_ones 1 = .ok (.istore_n 1, 1) := by decide +kernel
theorem dX10_ones_2 : decode cX10_ones 2 = .ok (.iconst 0, 1) := by decide +kernel
theorem dX10_ones_3 : decode cX10_ones 3 = .ok (.istore_n 2, 1) := by decide +kernel
theorem dX10_ones_4 : decode cX10_ones 4 = .ok (.iload_n 2, 1) := by decide +kernel
theorem dX10_ones_5 : decode cX10_ones 5 = .ok (.bipush 6, 2) := by decide +kernel
theorem dX10_ones_7 : decode cX10_ones 7 = .ok (.if_icmp .ge 17, 3) := by decide +kernel
theorem dX10_ones_10 : decode cX10_ones 10 = .ok (.iload_n 1, 1) := by decide +kernel
theorem dX10_ones_11 : decode cX10_ones 11 = .ok (.iload_n 0, 1) := by decide +kernel
theorem dX10_ones_12 : decode cX10_ones 12 = .ok (.iload_n 2, 1) := by decide +kernel
theorem dX10_ones_13 : decode cX10_ones 13 = .ok (.ishr, 1) := by decide +kernel
theorem dX10_ones_14 : decode cX10_ones 14 = .ok (.iconst 1, 1) := by decide +kernel
theorem dX10_ones_15 : decode cX10_ones 15 = .ok (.iand, 1) := by decide +kernel
theorem dX10_ones_16 : decode cX10_ones 16 = .ok (.iadd, 1) := by decide +kernel
theorem dX10_ones_17 : decode cX10_ones 17 = .ok (.istore_n 1, 1) := by decide +kernel
theorem dX10_ones_18 : decode cX10_ones 18 = .ok (.iinc 2 1, 3) := by decide +kernel
theorem dX10_ones_21 : decode cX10_ones 21 = .ok (.goto (-17), 3) := by decide +kernel
theorem dX10_ones_24 : decode cX10_ones 24 = .ok (.iload_n 1, 1) := by decide +kernel
theorem dX10_ones_25 : decode cX10_ones 25 = .ok (.ireturn, 1) := by decide +kernel
theorem dX10_choice_0 : decode cX10_choice 0 = .ok (.aload_n 0, 1) := by decide +kernel
theorem dX10_choice_1 : decode cX10_choice 1 = .ok (.iload_n 1, 1) := by decide +kernel
theorem dX10_choice_2 : decode cX10_choice 2 = .ok (.iconst 0, 1) := by decide +kernel
theorem dX10_choice_3 : decode cX10_choice 3 = .ok (.invokevirtual 54, 3) := by decide +kernel
theorem dX10_choice_6 : decode cX10_choice 6 = .ok (.istore_n 2, 1) := by decide +kernel
theorem dX10_choice_7 : decode cX10_choice 7 = .ok (.iconst (-1), 1) := by decide +kernel
theorem dX10_choice_8 : decode cX10_choice 8 = .ok (.istore_n 3, 1) := by decide +kernel
theorem dX10_choice_9 : decode cX10_choice 9 = .ok (.iconst 0, 1) := by decide +kernel
theorem dX10_choice_10 : decode cX10_choice 10 = .ok (.istore 4, 2) := by decide +kernel
theorem dX10_choice_12 : decode cX10_choice 12 = .ok (.iload 4, 2) := by decide +kernel
theorem dX10_choice_14 : decode cX10_choice 14 = .ok (.iload_n 2, 1) := by decide +kernel
theorem dX10_choice_15 : decode cX10_choice 15 = .ok (.if_icmp .ge 121, 3) := by decide +kernel
theorem dX10_choice_18 : decode cX10_choice 18 = .ok (.aload_n 0, 1) := by decide +kernel
theorem dX10_choice_19 : decode cX10_choice 19 = .ok (.iload_n 1, 1) := by decide +kernel
theorem dX10_choice_20 : decode cX10_choice 20 = .ok (.iconst 4, 1) := by decide +kernel
theorem dX10_choice_21 : decode cX10_choice 21 = .ok (.invokevirtual 54, 3) := by decide +kernel
theorem dX10_choice_24 : decode cX10_choice 24 = .ok (.iconst 1, 1) := by decide +kernel
theorem dX10_choice_25 : decode cX10_choice 25 = .ok (.if_icmp .ne 12, 3) := by decide +kernel
theorem dX10_choice_28 : decode cX10_choice 28 = .ok (.iload_n 2, 1) := by decide +kernel
theorem dX10_choice_29 : decode cX10_choice 29 = .ok (.iconst 1, 1) := by decide +kernel
theorem dX10_choice_30 : decode cX10_choice 30 = .ok (.isub, 1) := by decide +kernel
theorem dX10_choice_31 : decode cX10_choice 31 = .ok (.iload 4, 2) := by decide +kernel
theorem dX10_choice_33 : decode cX10_choice 33 = .ok (.isub, 1) := by decide +kernel
theorem dX10_choice_34 : decode cX10_choice 34 = .ok (.goto 31, 3) := by decide +kernel
theorem dX10_choice_37 : decode cX10_choice 37 = .ok (.aload_n 0, 1) := by decide +kernel
theorem dX10_choice_38 : decode cX10_choice 38 = .ok (.iload_n 1, 1) := by decide +kernel
theorem dX10_choice_39 : decode cX10_choice 39 = .ok (.iconst 4, 1) := by decide +kernel
theorem dX10_choice_40 : decode cX10_choice 40 = .ok (.invokevirtual 54, 3) := by decide +kernel
theorem dX10_choice_43 : decode cX10_choice 43 = .ok (.iconst 3, 1) := by decide +kernel
theorem dX10_choice_44 : decode cX10_choice 44 = .ok (.if_icmp .ne 19, 3) := by decide +kernel
theorem dX10_choice_47 : decode cX10_choice 47 = .ok (.aload_n 0, 1) := by decide +kernel
theorem dX10_choice_48 : decode cX10_choice 48 = .ok (.iload_n 1, 1) := by decide +kernel
theorem dX10_choice_49 : decode cX10_choice 49 = .ok (.iconst 5, 1) := by decide +kernel
theorem dX10_choice_50 : decode cX10_choice 50 = .ok (.invokevirtual 54, 3) := by decide +kernel
theorem dX10_choice_53 : decode cX10_choice 53 = .ok (.iconst 1, 1) := by decide +kernel
theorem dX10_choice_54 : decode cX10_choice 54 = .ok (.iadd, 1) := by decide +kernel
theorem dX10_choice_55 : decode cX10_choice 55 = .ok (.iload 4, 2) := by decide +kernel
theorem dX10_choice_57 : decode cX10_choice 57 = .ok (.iadd, 1) := by decide +kernel
theorem dX10_choice_58 : decode cX10_choice 58 = .ok (.iload_n 2, 1) := by decide +kernel
theorem dX10_choice_59 : decode cX10_choice 59 = .ok (.irem, 1) := by decide +kernel
theorem dX10_choice_60 : decode cX10_choice 60 = .ok (.goto 5, 3) := by decide +kernel
theorem dX10_choice_63 : decode cX10_choice 63 = .ok (.iload 4, 2) := by decide +kernel
theorem dX10_choice_65 : decode cX10_choice 65 = .ok (.istore 5, 2) := by decide +kernel
theorem dX10_choice_67 : decode cX10_choice 67 = .ok (.iload_n 3, 1) := by decide +kernel
theorem dX10_choice_68 : decode cX10_choice 68 = .ok (.iconst (-1), 1) := by decide +kernel
theorem dX10_choice_69 : decode cX10_choice 69 = .ok (.if_icmp .eq 31, 3) := by decide +kernel
theorem dX10_choice_72 : decode cX10_choice 72 = .ok (.aload_n 0, 1) := by decide +kernel
theorem dX10_choice_73 : decode cX10_choice 73 = .ok (.iload_n 1, 1) := by decide +kernel
theorem dX10_choice_74 : decode cX10_choice 74 = .ok (.iconst 4, 1) := by decide +kernel
theorem dX10_choice_75 : decode cX10_choice 75 = .ok (.invokevirtual 54, 3) := by decide +kernel
theorem dX10_choice_78 : decode cX10_choice 78 = .ok (.iconst 2, 1) := by decide +kernel
theorem dX10_choice_79 : decode cX10_choice 79 = .ok (.if_icmp .ne 25, 3) := by decide +kernel
theorem dX10_choice_82 : decode cX10_choice 82 = .ok (.aload_n 0, 1) := by decide +kernel
theorem dX10_choice_83 : decode cX10_choice 83 = .ok (.iload_n 1, 1) := by decide +kernel
theorem dX10_choice_84 : decode cX10_choice 84 = .ok (.iload 5, 2) := by decide +kernel
theorem dX10_choice_86 : decode cX10_choice 86 = .ok (.iconst 3, 1) := by decide +kernel
theorem dX10_choice_87 : decode cX10_choice 87 = .ok (.invokevirtual 73, 3) := by decide +kernel
theorem dX10_choice_90 : decode cX10_choice 90 = .ok (.aload_n 0, 1) := by decide +kernel
theorem dX10_choice_91 : decode cX10_choice 91 = .ok (.iload_n 1, 1) := by decide +kernel
theorem dX10_choice_92 : decode cX10_choice 92 = .ok (.iload_n 3, 1) := by decide +kernel
theorem dX10_choice_93 : decode cX10_choice 93 = .ok (.iconst 3, 1) := by decide +kernel
theorem dX10_choice_94 : decode cX10_choice 94 = .ok (.invokevirtual 73, 3) := by decide +kernel
theorem dX10_choice_97 : decode cX10_choice 97 = .ok (.if_icmp .ge 7, 3) := by decide +kernel
theorem dX10_choice_100 : decode cX10_choice 100 = .ok (.iconst 1, 1) := by decide +kernel
theorem dX10_choice_101 : decode cX10_choice 101 = .ok (.goto 4, 3) := by decide +kernel
theorem dX10_choice_104 : decode cX10_choice 104 = .ok (.iconst 0, 1) := by decide +kernel
theorem dX10_choice_105 : decode cX10_choice 105 = .ok (.istore 6, 2) := by decide +kernel
theorem dX10_choice_107 : decode cX10_choice 107 = .ok (.aload_n 0, 1) := by decide +kernel
theorem dX10_choice_108 : decode cX10_choice 108 = .ok (.iload_n 1, 1) := by decide +kernel
theorem dX10_choice_109 : decode cX10_choice 109 = .ok (.iload 5, 2) := by decide +kernel
theorem dX10_choice_111 : decode cX10_choice 111 = .ok (.iconst 0, 1) := by decide +kernel
theorem dX10_choice_112 : decode cX10_choice 112 = .ok (.invokevirtual 73, 3) := by decide +kernel
theorem dX10_choice_115 : decode cX10_choice 115 = .ok (.ifCond .ne 13, 3) := by decide +kernel
theorem dX10_choice_118 : decode cX10_choice 118 = .ok (.iload 6, 2) := by decide +kernel
theorem dX10_choice_120 : decode cX10_choice 120 = .ok (.ifCond .eq 8, 3) := by decide +kernel
theorem dX10_choice_123 : decode cX10_choice 123 = .ok (.iload 5, 2) := by decide +kernel
theorem dX10_choice_125 : decode cX10_choice 125 = .ok (.goto 4, 3) := by decide +kernel
theorem dX10_choice_128 : decode cX10_choice 128 = .ok (.iload_n 3, 1) := by decide +kernel
theorem dX10_choice_129 : decode cX10_choice 129 = .ok (.istore_n 3, 1) := by decide +kernel
theorem dX10_choice_130 : decode cX10_choice 130 = .ok (.iinc 4 1, 3) := by decide +kernel
theorem dX10_choice_133 : decode cX10_choice 133 = .ok (.goto (-121), 3) := by decide +kernel
theorem dX10_choice_136 : decode cX10_choice 136 = .ok (.iload_n 3, 1) := by decide +kernel
theorem dX10_choice_137 : decode cX10_choice 137 = .ok (.ireturn, 1) := by decide +kernel
theorem dX10_goesTo_0 : decode cX10_goesTo 0 = .ok (.aload_n 0, 1) := by decide +kernel
theorem dX10_goesTo_1 : decode cX10_goesTo 1 = .ok (.iload_n 1, 1) := by decide +kernel
theorem dX10_goesTo_2 : decode cX10_goesTo 2 = .ok (.iconst 0, 1) := by decide +kernel
theorem dX10_goesTo_3 : decode cX10_goesTo 3 = .ok (.invokevirtual 77, 3) := by decide +kernel
theorem dX10_goesTo_6 : decode cX10_goesTo 6 = .ok (.ifCond .eq 14, 3) := by decide +kernel
theorem dX10_goesTo_9 : decode cX10_goesTo 9 = .ok (.bipush 10, 2) := by decide +kernel
theorem dX10_goesTo_11 : decode cX10_goesTo 11 = .ok (.iload_n 1, 1) := by decide +kernel
theorem dX10_goesTo_12 : decode cX10_goesTo 12 = .ok (.imul, 1) := by decide +kernel
theorem dX10_goesTo_13 : decode cX10_goesTo 13 = .ok (.aload_n 0, 1) := by decide +kernel
theorem dX10_goesTo_14 : decode cX10_goesTo 14 = .ok (.iload_n 1, 1) := by decide +kernel
theorem dX10_goesTo_15 : decode cX10_goesTo 15 = .ok (.invokevirtual 80, 3) := by decide +kernel
theorem dX10_goesTo_18 : decode cX10_goesTo 18 = .ok (.iadd, 1) := by decide +kernel
theorem dX10_goesTo_19 : decode cX10_goesTo 19 = .ok (.ireturn, 1) := by decide +kernel
theorem dX10_goesTo_20 : decode cX10_goesTo 20 = .ok (.aload_n 0, 1) := by decide +kernel
theorem dX10_goesTo_21 : decode cX10_goesTo 21 = .ok (.iload_n 1, 1) := by decide +kernel
theorem dX10_goesTo_22 : decode cX10_goesTo 22 = .ok (.iconst 3, 1) := by decide +kernel
theorem dX10_goesTo_23 : decode cX10_goesTo 23 = .ok (.invokevirtual 54, 3) := by decide +kernel
theorem dX10_goesTo_26 : decode cX10_goesTo 26 = .ok (.istore_n 2, 1) := by decide +kernel
theorem dX10_goesTo_27 : decode cX10_goesTo 27 = .ok (.iload_n 2, 1) := by decide +kernel
theorem dX10_goesTo_28 : decode cX10_goesTo 28 = .ok (.iconst (-1), 1) := by decide +kernel
theorem dX10_goesTo_29 : decode cX10_goesTo 29 = .ok (.if_icmp .eq 34, 3) := by decide +kernel
theorem dX10_goesTo_32 : decode cX10_goesTo 32 = .ok (.aload_n 0, 1) := by decide +kernel
theorem dX10_goesTo_33 : decode cX10_goesTo 33 = .ok (.iload_n 2, 1) := by decide +kernel
theorem dX10_goesTo_34 : decode cX10_goesTo 34 = .ok (.iconst 0, 1) := by decide +kernel
theorem dX10_goesTo_35 : decode cX10_goesTo 35 = .ok (.invokevirtual 77, 3) := by decide +kernel
theorem dX10_goesTo_38 : decode cX10_goesTo 38 = .ok (.invokestatic 84, 3) := by decide +kernel
theorem dX10_goesTo_41 : decode cX10_goesTo 41 = .ok (.aload_n 0, 1) := by decide +kernel
theorem dX10_goesTo_42 : decode cX10_goesTo 42 = .ok (.iload_n 2, 1) := by decide +kernel
theorem dX10_goesTo_43 : decode cX10_goesTo 43 = .ok (.iconst 2, 1) := by decide +kernel
theorem dX10_goesTo_44 : decode cX10_goesTo 44 = .ok (.invokevirtual 54, 3) := by decide +kernel
theorem dX10_goesTo_47 : decode cX10_goesTo 47 = .ok (.if_icmp .le 16, 3) := by decide +kernel
theorem dX10_goesTo_50 : decode cX10_goesTo 50 = .ok (.bipush 10, 2) := by decide +kernel
theorem dX10_goesTo_52 : decode cX10_goesTo 52 = .ok (.iload_n 2, 1) := by decide +kernel
theorem dX10_goesTo_53 : decode cX10_goesTo 53 = .ok (.imul, 1) := by decide +kernel
theorem dX10_goesTo_54 : decode cX10_goesTo 54 = .ok (.aload_n 0, 1) := by decide +kernel
theorem dX10_goesTo_55 : decode cX10_goesTo 55 = .ok (.iload_n 2, 1) := by decide +kernel
theorem dX10_goesTo_56 : decode cX10_goesTo 56 = .ok (.invokevirtual 80, 3) := by decide +kernel
theorem dX10_goesTo_59 : decode cX10_goesTo 59 = .ok (.iadd, 1) := by decide +kernel
theorem dX10_goesTo_60 : decode cX10_goesTo 60 = .ok (.goto 4, 3) := by decide +kernel
theorem dX10_goesTo_63 : decode cX10_goesTo 63 = .ok (.iconst (-1), 1) := by decide +kernel
theorem dX10_goesTo_64 : decode cX10_goesTo 64 = .ok (.ireturn, 1) := by decide +kernel
theorem dX10_held_0 : decode cX10_held 0 = .ok (.iconst 0, 1) := by decide +kernel
theorem dX10_held_1 : decode cX10_held 1 = .ok (.istore_n 1, 1) := by decide +kernel
theorem dX10_held_2 : decode cX10_held 2 = .ok (.iconst 0, 1) := by decide +kernel
theorem dX10_held_3 : decode cX10_held 3 = .ok (.istore_n 2, 1) := by decide +kernel
theorem dX10_held_4 : decode cX10_held 4 = .ok (.iload_n 2, 1) := by decide +kernel
theorem dX10_held_5 : decode cX10_held 5 = .ok (.aload_n 0, 1) := by decide +kernel
theorem dX10_held_6 : decode cX10_held 6 = .ok (.getfield 7, 3) := by decide +kernel
theorem dX10_held_9 : decode cX10_held 9 = .ok (.iconst 0, 1) := by decide +kernel
theorem dX10_held_10 : decode cX10_held 10 = .ok (.iaload, 1) := by decide +kernel
theorem dX10_held_11 : decode cX10_held 11 = .ok (.if_icmp .ge 21, 3) := by decide +kernel
theorem dX10_held_14 : decode cX10_held 14 = .ok (.iload_n 1, 1) := by decide +kernel
theorem dX10_held_15 : decode cX10_held 15 = .ok (.aload_n 0, 1) := by decide +kernel
theorem dX10_held_16 : decode cX10_held 16 = .ok (.iload_n 2, 1) := by decide +kernel
theorem dX10_held_17 : decode cX10_held 17 = .ok (.iconst 1, 1) := by decide +kernel
theorem dX10_held_18 : decode cX10_held 18 = .ok (.invokevirtual 77, 3) := by decide +kernel
theorem dX10_held_21 : decode cX10_held 21 = .ok (.invokestatic 84, 3) := by decide +kernel
theorem dX10_held_24 : decode cX10_held 24 = .ok (.iadd, 1) := by decide +kernel
theorem dX10_held_25 : decode cX10_held 25 = .ok (.istore_n 1, 1) := by decide +kernel
theorem dX10_held_26 : decode cX10_held 26 = .ok (.iinc 2 1, 3) := by decide +kernel
theorem dX10_held_29 : decode cX10_held 29 = .ok (.goto (-25), 3) := by decide +kernel
theorem dX10_held_32 : decode cX10_held 32 = .ok (.iload_n 1, 1) := by decide +kernel
theorem dX10_held_33 : decode cX10_held 33 = .ok (.ireturn, 1) := by decide +kernel
theorem dX10_lost_0 : decode cX10_lost 0 = .ok (.iconst 0, 1) := by decide +kernel
theorem dX10_lost_1 : decode cX10_lost 1 = .ok (.istore_n 1, 1) := by decide +kernel
theorem dX10_lost_2 : decode cX10_lost 2 = .ok (.iconst 0, 1) := by decide +kernel
theorem dX10_lost_3 : decode cX10_lost 3 = .ok (.istore_n 2, 1) := by decide +kernel
theorem dX10_lost_4 : decode cX10_lost 4 = .ok (.iload_n 2, 1) := by decide +kernel
theorem dX10_lost_5 : decode cX10_lost 5 = .ok (.aload_n 0, 1) := by decide +kernel
theorem dX10_lost_6 : decode cX10_lost 6 = .ok (.getfield 7, 3) := by decide +kernel
theorem dX10_lost_9 : decode cX10_lost 9 = .ok (.iconst 0, 1) := by decide +kernel
theorem dX10_lost_10 : decode cX10_lost 10 = .ok (.iaload, 1) := by decide +kernel
theorem dX10_lost_11 : decode cX10_lost 11 = .ok (.if_icmp .ge 19, 3) := by decide +kernel
theorem dX10_lost_14 : decode cX10_lost 14 = .ok (.iload_n 1, 1) := by decide +kernel
theorem dX10_lost_15 : decode cX10_lost 15 = .ok (.aload_n 0, 1) := by decide +kernel
theorem dX10_lost_16 : decode cX10_lost 16 = .ok (.iload_n 2, 1) := by decide +kernel
theorem dX10_lost_17 : decode cX10_lost 17 = .ok (.bipush 9, 2) := by decide +kernel
theorem dX10_lost_19 : decode cX10_lost 19 = .ok (.invokevirtual 54, 3) := by decide +kernel
theorem dX10_lost_22 : decode cX10_lost 22 = .ok (.iadd, 1) := by decide +kernel
theorem dX10_lost_23 : decode cX10_lost 23 = .ok (.istore_n 1, 1) := by decide +kernel
theorem dX10_lost_24 : decode cX10_lost 24 = .ok (.iinc 2 1, 3) := by decide +kernel
theorem dX10_lost_27 : decode cX10_lost 27 = .ok (.goto (-23), 3) := by decide +kernel
theorem dX10_lost_30 : decode cX10_lost 30 = .ok (.iload_n 1, 1) := by decide +kernel
theorem dX10_lost_31 : decode cX10_lost 31 = .ok (.ireturn, 1) := by decide +kernel
theorem dX10_wrong_0 : decode cX10_wrong 0 = .ok (.iconst 0, 1) := by decide +kernel
theorem dX10_wrong_1 : decode cX10_wrong 1 = .ok (.istore_n 1, 1) := by decide +kernel
theorem dX10_wrong_2 : decode cX10_wrong 2 = .ok (.iload_n 1, 1) := by decide +kernel
theorem dX10_wrong_3 : decode cX10_wrong 3 = .ok (.aload_n 0, 1) := by decide +kernel
theorem dX10_wrong_4 : decode cX10_wrong 4 = .ok (.getfield 87, 3) := by decide +kernel
theorem dX10_wrong_7 : decode cX10_wrong 7 = .ok (.if_icmp .ge 60, 3) := by decide +kernel
theorem dX10_wrong_10 : decode cX10_wrong 10 = .ok (.aload_n 0, 1) := by decide +kernel
theorem dX10_wrong_11 : decode cX10_wrong 11 = .ok (.getfield 27, 3) := by decide +kernel
theorem dX10_wrong_14 : decode cX10_wrong 14 = .ok (.iconst 3, 1) := by decide +kernel
theorem dX10_wrong_15 : decode cX10_wrong 15 = .ok (.iload_n 1, 1) := by decide +kernel
theorem dX10_wrong_16 : decode cX10_wrong 16 = .ok (.imul, 1) := by decide +kernel
theorem dX10_wrong_17 : decode cX10_wrong 17 = .ok (.iaload, 1) := by decide +kernel
theorem dX10_wrong_18 : decode cX10_wrong 18 = .ok (.istore_n 2, 1) := by decide +kernel
theorem dX10_wrong_19 : decode cX10_wrong 19 = .ok (.aload_n 0, 1) := by decide +kernel
theorem dX10_wrong_20 : decode cX10_wrong 20 = .ok (.getfield 27, 3) := by decide +kernel
theorem dX10_wrong_23 : decode cX10_wrong 23 = .ok (.iconst 3, 1) := by decide +kernel
theorem dX10_wrong_24 : decode cX10_wrong 24 = .ok (.iload_n 1, 1) := by decide +kernel
theorem dX10_wrong_25 : decode cX10_wrong 25 = .ok (.imul, 1) := by decide +kernel
theorem dX10_wrong_26 : decode cX10_wrong 26 = .ok (.iconst 1, 1) := by decide +kernel
theorem dX10_wrong_27 : decode cX10_wrong 27 = .ok (.iadd, 1) := by decide +kernel
theorem dX10_wrong_28 : decode cX10_wrong 28 = .ok (.iaload, 1) := by decide +kernel
theorem dX10_wrong_29 : decode cX10_wrong 29 = .ok (.istore_n 3, 1) := by decide +kernel
theorem dX10_wrong_30 : decode cX10_wrong 30 = .ok (.aload_n 0, 1) := by decide +kernel
theorem dX10_wrong_31 : decode cX10_wrong 31 = .ok (.iload_n 2, 1) := by decide +kernel
theorem dX10_wrong_32 : decode cX10_wrong 32 = .ok (.iload_n 3, 1) := by decide +kernel
theorem dX10_wrong_33 : decode cX10_wrong 33 = .ok (.invokevirtual 90, 3) := by decide +kernel
theorem dX10_wrong_36 : decode cX10_wrong 36 = .ok (.ifCond .eq 23, 3) := by decide +kernel
theorem dX10_wrong_39 : decode cX10_wrong 39 = .ok (.aload_n 0, 1) := by decide +kernel
theorem dX10_wrong_40 : decode cX10_wrong 40 = .ok (.iload_n 2, 1) := by decide +kernel
theorem dX10_wrong_41 : decode cX10_wrong 41 = .ok (.iload_n 3, 1) := by decide +kernel
theorem dX10_wrong_42 : decode cX10_wrong 42 = .ok (.iconst 0, 1) := by decide +kernel
theorem dX10_wrong_43 : decode cX10_wrong 43 = .ok (.invokevirtual 73, 3) := by decide +kernel
theorem dX10_wrong_46 : decode cX10_wrong 46 = .ok (.aload_n 0, 1) := by decide +kernel
theorem dX10_wrong_47 : decode cX10_wrong 47 = .ok (.getfield 27, 3) := by decide +kernel
theorem dX10_wrong_50 : decode cX10_wrong 50 = .ok (.iconst 3, 1) := by decide +kernel
theorem dX10_wrong_51 : decode cX10_wrong 51 = .ok (.iload_n 1, 1) := by decide +kernel
theorem dX10_wrong_52 : decode cX10_wrong 52 = .ok (.imul, 1) := by decide +kernel
theorem dX10_wrong_53 : decode cX10_wrong 53 = .ok (.iconst 2, 1) := by decide +kernel
theorem dX10_wrong_54 : decode cX10_wrong 54 = .ok (.iadd, 1) := by decide +kernel
theorem dX10_wrong_55 : decode cX10_wrong 55 = .ok (.iaload, 1) := by decide +kernel
theorem dX10_wrong_56 : decode cX10_wrong 56 = .ok (.if_icmp .eq 5, 3) := by decide +kernel
theorem dX10_wrong_59 : decode cX10_wrong 59 = .ok (.iload_n 1, 1) := by decide +kernel
theorem dX10_wrong_60 : decode cX10_wrong 60 = .ok (.ireturn, 1) := by decide +kernel
theorem dX10_wrong_61 : decode cX10_wrong 61 = .ok (.iinc 1 1, 3) := by decide +kernel
theorem dX10_wrong_64 : decode cX10_wrong 64 = .ok (.goto (-62), 3) := by decide +kernel
theorem dX10_wrong_67 : decode cX10_wrong 67 = .ok (.iconst (-1), 1) := by decide +kernel
theorem dX10_wrong_68 : decode cX10_wrong 68 = .ok (.ireturn, 1) := by decide +kernel
theorem dX10_loses_0 : decode cX10_loses 0 = .ok (.iconst 0, 1) := by decide +kernel
theorem dX10_loses_1 : decode cX10_loses 1 = .ok (.istore_n 1, 1) := by decide +kernel
theorem dX10_loses_2 : decode cX10_loses 2 = .ok (.iload_n 1, 1) := by decide +kernel
theorem dX10_loses_3 : decode cX10_loses 3 = .ok (.aload_n 0, 1) := by decide +kernel
theorem dX10_loses_4 : decode cX10_loses 4 = .ok (.getfield 7, 3) := by decide +kernel
theorem dX10_loses_7 : decode cX10_loses 7 = .ok (.iconst 0, 1) := by decide +kernel
theorem dX10_loses_8 : decode cX10_loses 8 = .ok (.iaload, 1) := by decide +kernel
theorem dX10_loses_9 : decode cX10_loses 9 = .ok (.if_icmp .ge 121, 3) := by decide +kernel
theorem dX10_loses_12 : decode cX10_loses 12 = .ok (.ldc2_w 94, 3) := by decide +kernel
theorem dX10_loses_15 : decode cX10_loses 15 = .ok (.lstore_n 2, 1) := by decide +kernel
theorem dX10_loses_16 : decode cX10_loses 16 = .ok (.lload_n 2, 1) := by decide +kernel
theorem dX10_loses_17 : decode cX10_loses 17 = .ok (.lstore 4, 2) := by decide +kernel
theorem dX10_loses_19 : decode cX10_loses 19 = .ok (.iconst 0, 1) := by decide +kernel
theorem dX10_loses_20 : decode cX10_loses 20 = .ok (.istore 6, 2) := by decide +kernel
theorem dX10_loses_22 : decode cX10_loses 22 = .ok (.iload 6, 2) := by decide +kernel
theorem dX10_loses_24 : decode cX10_loses 24 = .ok (.aload_n 0, 1) := by decide +kernel
theorem dX10_loses_25 : decode cX10_loses 25 = .ok (.iload_n 1, 1) := by decide +kernel
theorem dX10_loses_26 : decode cX10_loses 26 = .ok (.iconst 0, 1) := by decide +kernel
theorem dX10_loses_27 : decode cX10_loses 27 = .ok (.invokevirtual 54, 3) := by decide +kernel
theorem dX10_loses_30 : decode cX10_loses 30 = .ok (.if_icmp .ge 72, 3) := by decide +kernel
theorem dX10_loses_33 : decode cX10_loses 33 = .ok (.sipush 1000, 3) := by decide +kernel
theorem dX10_loses_36 : decode cX10_loses 36 = .ok (.aload_n 0, 1) := by decide +kernel
theorem dX10_loses_37 : decode cX10_loses 37 = .ok (.iload_n 1, 1) := by decide +kernel
theorem dX10_loses_38 : decode cX10_loses 38 = .ok (.iconst 1, 1) := by decide +kernel
theorem dX10_loses_39 : decode cX10_loses 39 = .ok (.invokevirtual 54, 3) := by decide +kernel
theorem dX10_loses_42 : decode cX10_loses 42 = .ok (.imul, 1) := by decide +kernel
theorem dX10_loses_43 : decode cX10_loses 43 = .ok (.aload_n 0, 1) := by decide +kernel
theorem dX10_loses_44 : decode cX10_loses 44 = .ok (.iload_n 1, 1) := by decide +kernel
theorem dX10_loses_45 : decode cX10_loses 45 = .ok (.iconst 0, 1) := by decide +kernel
theorem dX10_loses_46 : decode cX10_loses 46 = .ok (.invokevirtual 54, 3) := by decide +kernel
theorem dX10_loses_49 : decode cX10_loses 49 = .ok (.iload 6, 2) := by decide +kernel
theorem dX10_loses_51 : decode cX10_loses 51 = .ok (.isub, 1) := by decide +kernel
theorem dX10_loses_52 : decode cX10_loses 52 = .ok (.aload_n 0, 1) := by decide +kernel
theorem dX10_loses_53 : decode cX10_loses 53 = .ok (.iload_n 1, 1) := by decide +kernel
theorem dX10_loses_54 : decode cX10_loses 54 = .ok (.iconst 2, 1) := by decide +kernel
theorem dX10_loses_55 : decode cX10_loses 55 = .ok (.invokevirtual 54, 3) := by decide +kernel
theorem dX10_loses_58 : decode cX10_loses 58 = .ok (.if_icmp .le 12, 3) := by decide +kernel
theorem dX10_loses_61 : decode cX10_loses 61 = .ok (.aload_n 0, 1) := by decide +kernel
theorem dX10_loses_62 : decode cX10_loses 62 = .ok (.getfield 33, 3) := by decide +kernel
theorem dX10_loses_65 : decode cX10_loses 65 = .ok (.iload_n 1, 1) := by decide +kernel
theorem dX10_loses_66 : decode cX10_loses 66 = .ok (.iaload, 1) := by decide +kernel
theorem dX10_loses_67 : decode cX10_loses 67 = .ok (.goto 4, 3) := by decide +kernel
theorem dX10_loses_70 : decode cX10_loses 70 = .ok (.iconst 0, 1) := by decide +kernel
theorem dX10_loses_71 : decode cX10_loses 71 = .ok (.iadd, 1) := by decide +kernel
theorem dX10_loses_72 : decode cX10_loses 72 = .ok (.istore 7, 2) := by decide +kernel
theorem dX10_loses_74 : decode cX10_loses 74 = .ok (.lload_n 2, 1) := by decide +kernel
theorem dX10_loses_75 : decode cX10_loses 75 = .ok (.iload 7, 2) := by decide +kernel
theorem dX10_loses_77 : decode cX10_loses 77 = .ok (.i2l, 1) := by decide +kernel
theorem dX10_loses_78 : decode cX10_loses 78 = .ok (.lmul, 1) := by decide +kernel
theorem dX10_loses_79 : decode cX10_loses 79 = .ok (.ldc2_w 96, 3) := by decide +kernel
theorem dX10_loses_82 : decode cX10_loses 82 = .ok (.iload 6, 2) := by decide +kernel
theorem dX10_loses_84 : decode cX10_loses 84 = .ok (.iconst 1, 1) := by decide +kernel
theorem dX10_loses_85 : decode cX10_loses 85 = .ok (.iadd, 1) := by decide +kernel
theorem dX10_loses_86 : decode cX10_loses 86 = .ok (.i2l, 1) := by decide +kernel
theorem dX10_loses_87 : decode cX10_loses 87 = .ok (.lmul, 1) := by decide +kernel
theorem dX10_loses_88 : decode cX10_loses 88 = .ok (.ldiv, 1) := by decide +kernel
theorem dX10_loses_89 : decode cX10_loses 89 = .ok (.lstore_n 2, 1) := by decide +kernel
theorem dX10_loses_90 : decode cX10_loses 90 = .ok (.lload 4, 2) := by decide +kernel
theorem dX10_loses_92 : decode cX10_loses 92 = .ok (.lload_n 2, 1) := by decide +kernel
theorem dX10_loses_93 : decode cX10_loses 93 = .ok (.ladd, 1) := by decide +kernel
theorem dX10_loses_94 : decode cX10_loses 94 = .ok (.lstore 4, 2) := by decide +kernel
theorem dX10_loses_96 : decode cX10_loses 96 = .ok (.iinc 6 1, 3) := by decide +kernel
theorem dX10_loses_99 : decode cX10_loses 99 = .ok (.goto (-77), 3) := by decide +kernel
theorem dX10_loses_102 : decode cX10_loses 102 = .ok (.aload_n 0, 1) := by decide +kernel
theorem dX10_loses_103 : decode cX10_loses 103 = .ok (.getfield 36, 3) := by decide +kernel
theorem dX10_loses_106 : decode cX10_loses 106 = .ok (.iload_n 1, 1) := by decide +kernel
theorem dX10_loses_107 : decode cX10_loses 107 = .ok (.ldc2_w 96, 3) := by decide +kernel
theorem dX10_loses_110 : decode cX10_loses 110 = .ok (.lload_n 2, 1) := by decide +kernel
theorem dX10_loses_111 : decode cX10_loses 111 = .ok (.lmul, 1) := by decide +kernel
theorem dX10_loses_112 : decode cX10_loses 112 = .ok (.lload 4, 2) := by decide +kernel
theorem dX10_loses_114 : decode cX10_loses 114 = .ok (.ldiv, 1) := by decide +kernel
theorem dX10_loses_115 : decode cX10_loses 115 = .ok (.l2i, 1) := by decide +kernel
theorem dX10_loses_116 : decode cX10_loses 116 = .ok (.iastore, 1) := by decide +kernel
theorem dX10_loses_117 : decode cX10_loses 117 = .ok (.aload_n 0, 1) := by decide +kernel
theorem dX10_loses_118 : decode cX10_loses 118 = .ok (.getfield 39, 3) := by decide +kernel
theorem dX10_loses_121 : decode cX10_loses 121 = .ok (.iload_n 1, 1) := by decide +kernel
theorem dX10_loses_122 : decode cX10_loses 122 = .ok (.iconst 0, 1) := by decide +kernel
theorem dX10_loses_123 : decode cX10_loses 123 = .ok (.iastore, 1) := by decide +kernel
theorem dX10_loses_124 : decode cX10_loses 124 = .ok (.iinc 1 1, 3) := by decide +kernel
theorem dX10_loses_127 : decode cX10_loses 127 = .ok (.goto (-125), 3) := by decide +kernel
theorem dX10_loses_130 : decode cX10_loses 130 = .ok (.return_, 1) := by decide +kernel
theorem dX10_together_0 : decode cX10_together 0 = .ok (.iconst 0, 1) := by decide +kernel
theorem dX10_together_1 : decode cX10_together 1 = .ok (.istore_n 1, 1) := by decide +kernel
theorem dX10_together_2 : decode cX10_together 2 = .ok (.iload_n 1, 1) := by decide +kernel
theorem dX10_together_3 : decode cX10_together 3 = .ok (.iconst 4, 1) := by decide +kernel
theorem dX10_together_4 : decode cX10_together 4 = .ok (.if_icmp .ge 16, 3) := by decide +kernel
theorem dX10_together_7 : decode cX10_together 7 = .ok (.aload_n 0, 1) := by decide +kernel
theorem dX10_together_8 : decode cX10_together 8 = .ok (.getfield 33, 3) := by decide +kernel
theorem dX10_together_11 : decode cX10_together 11 = .ok (.iload_n 1, 1) := by decide +kernel
theorem dX10_together_12 : decode cX10_together 12 = .ok (.iconst 0, 1) := by decide +kernel
theorem dX10_together_13 : decode cX10_together 13 = .ok (.iastore, 1) := by decide +kernel
theorem dX10_together_14 : decode cX10_together 14 = .ok (.iinc 1 1, 3) := by decide +kernel
theorem dX10_together_17 : decode cX10_together 17 = .ok (.goto (-15), 3) := by decide +kernel
theorem dX10_together_20 : decode cX10_together 20 = .ok (.aload_n 0, 1) := by decide +kernel
theorem dX10_together_21 : decode cX10_together 21 = .ok (.iconst 0, 1) := by decide +kernel
theorem dX10_together_22 : decode cX10_together 22 = .ok (.putfield 98, 3) := by decide +kernel
theorem dX10_together_25 : decode cX10_together 25 = .ok (.iconst 1, 1) := by decide +kernel
theorem dX10_together_26 : decode cX10_together 26 = .ok (.istore_n 1, 1) := by decide +kernel
theorem dX10_together_27 : decode cX10_together 27 = .ok (.iload_n 1, 1) := by decide +kernel
theorem dX10_together_28 : decode cX10_together 28 = .ok (.ifCond .eq 141, 3) := by decide +kernel
theorem dX10_together_31 : decode cX10_together 31 = .ok (.aload_n 0, 1) := by decide +kernel
theorem dX10_together_32 : decode cX10_together 32 = .ok (.getfield 98, 3) := by decide +kernel
theorem dX10_together_35 : decode cX10_together 35 = .ok (.bipush 30, 2) := by decide +kernel
theorem dX10_together_37 : decode cX10_together 37 = .ok (.if_icmp .ge 132, 3) := by decide +kernel
theorem dX10_together_40 : decode cX10_together 40 = .ok (.aload_n 0, 1) := by decide +kernel
theorem dX10_together_41 : decode cX10_together 41 = .ok (.dup, 1) := by decide +kernel
theorem dX10_together_42 : decode cX10_together 42 = .ok (.getfield 98, 3) := by decide +kernel
theorem dX10_together_45 : decode cX10_together 45 = .ok (.iconst 1, 1) := by decide +kernel
theorem dX10_together_46 : decode cX10_together 46 = .ok (.iadd, 1) := by decide +kernel
theorem dX10_together_47 : decode cX10_together 47 = .ok (.putfield 98, 3) := by decide +kernel
theorem dX10_together_50 : decode cX10_together 50 = .ok (.aload_n 0, 1) := by decide +kernel
theorem dX10_together_51 : decode cX10_together 51 = .ok (.invokevirtual 101, 3) := by decide +kernel
theorem dX10_together_54 : decode cX10_together 54 = .ok (.iconst 0, 1) := by decide +kernel
theorem dX10_together_55 : decode cX10_together 55 = .ok (.istore_n 2, 1) := by decide +kernel
theorem dX10_together_56 : decode cX10_together 56 = .ok (.iload_n 2, 1) := by decide +kernel
theorem dX10_together_57 : decode cX10_together 57 = .ok (.aload_n 0, 1) := by decide +kernel
theorem dX10_together_58 : decode cX10_together 58 = .ok (.getfield 7, 3) := by decide +kernel
theorem dX10_together_61 : decode cX10_together 61 = .ok (.iconst 0, 1) := by decide +kernel
theorem dX10_together_62 : decode cX10_together 62 = .ok (.iaload, 1) := by decide +kernel
theorem dX10_together_63 : decode cX10_together 63 = .ok (.if_icmp .ge 46, 3) := by decide +kernel
theorem dX10_together_66 : decode cX10_together 66 = .ok (.aload_n 0, 1) := by decide +kernel
theorem dX10_together_67 : decode cX10_together 67 = .ok (.iload_n 2, 1) := by decide +kernel
theorem dX10_together_68 : decode cX10_together 68 = .ok (.iconst 3, 1) := by decide +kernel
theorem dX10_together_69 : decode cX10_together 69 = .ok (.invokevirtual 54, 3) := by decide +kernel
theorem dX10_together_72 : decode cX10_together 72 = .ok (.iconst (-1), 1) := by decide +kernel
theorem dX10_together_73 : decode cX10_together 73 = .ok (.if_icmp .eq 30, 3) := by decide +kernel
theorem dX10_together_76 : decode cX10_together 76 = .ok (.aload_n 0, 1) := by decide +kernel
theorem dX10_together_77 : decode cX10_together 77 = .ok (.getfield 39, 3) := by decide +kernel
theorem dX10_together_80 : decode cX10_together 80 = .ok (.aload_n 0, 1) := by decide +kernel
theorem dX10_together_81 : decode cX10_together 81 = .ok (.iload_n 2, 1) := by decide +kernel
theorem dX10_together_82 : decode cX10_together 82 = .ok (.iconst 3, 1) := by decide +kernel
theorem dX10_together_83 : decode cX10_together 83 = .ok (.invokevirtual 54, 3) := by decide +kernel
theorem dX10_together_86 : decode cX10_together 86 = .ok (.dup2, 1) := by decide +kernel
theorem dX10_together_87 : decode cX10_together 87 = .ok (.iaload, 1) := by decide +kernel
theorem dX10_together_88 : decode cX10_together 88 = .ok (.aload_n 0, 1) := by decide +kernel
theorem dX10_together_89 : decode cX10_together 89 = .ok (.iload_n 2, 1) := by decide +kernel
theorem dX10_together_90 : decode cX10_together 90 = .ok (.iconst 1, 1) := by decide +kernel
theorem dX10_together_91 : decode cX10_together 91 = .ok (.invokevirtual 54, 3) := by decide +kernel
theorem dX10_together_94 : decode cX10_together 94 = .ok (.aload_n 0, 1) := by decide +kernel
theorem dX10_together_95 : decode cX10_together 95 = .ok (.getfield 36, 3) := by decide +kernel
theorem dX10_together_98 : decode cX10_together 98 = .ok (.iload_n 2, 1) := by decide +kernel
theorem dX10_together_99 : decode cX10_together 99 = .ok (.iaload, 1) := by decide +kernel
theorem dX10_together_100 : decode cX10_together 100 = .ok (.imul, 1) := by decide +kernel
theorem dX10_together_101 : decode cX10_together 101 = .ok (.iadd, 1) := by decide +kernel
theorem dX10_together_102 : decode cX10_together 102 = .ok (.iastore, 1) := by decide +kernel
theorem dX10_together_103 : decode cX10_together 103 = .ok (.iinc 2 1, 3) := by decide +kernel
theorem dX10_together_106 : decode cX10_together 106 = .ok (.goto (-50), 3) := by decide +kernel
theorem dX10_together_109 : decode cX10_together 109 = .ok (.iconst 0, 1) := by decide +kernel
theorem dX10_together_110 : decode cX10_together 110 = .ok (.istore_n 1, 1) := by decide +kernel
theorem dX10_together_111 : decode cX10_together 111 = .ok (.iconst 0, 1) := by decide +kernel
theorem dX10_together_112 : decode cX10_together 112 = .ok (.istore_n 2, 1) := by decide +kernel
theorem dX10_together_113 : decode cX10_together 113 = .ok (.iload_n 2, 1) := by decide +kernel
theorem dX10_together_114 : decode cX10_together 114 = .ok (.aload_n 0, 1) := by decide +kernel
theorem dX10_together_115 : decode cX10_together 115 = .ok (.getfield 7, 3) := by decide +kernel
theorem dX10_together_118 : decode cX10_together 118 = .ok (.iconst 0, 1) := by decide +kernel
theorem dX10_together_119 : decode cX10_together 119 = .ok (.iaload, 1) := by decide +kernel
theorem dX10_together_120 : decode cX10_together 120 = .ok (.if_icmp .ge 46, 3) := by decide +kernel
theorem dX10_together_123 : decode cX10_together 123 = .ok (.iload_n 1, 1) := by decide +kernel
theorem dX10_together_124 : decode cX10_together 124 = .ok (.ifCond .ne 18, 3) := by decide +kernel
theorem dX10_together_127 : decode cX10_together 127 = .ok (.aload_n 0, 1) := by decide +kernel
theorem dX10_together_128 : decode cX10_together 128 = .ok (.getfield 39, 3) := by decide +kernel
theorem dX10_together_131 : decode cX10_together 131 = .ok (.iload_n 2, 1) := by decide +kernel
theorem dX10_together_132 : decode cX10_together 132 = .ok (.iaload, 1) := by decide +kernel
theorem dX10_together_133 : decode cX10_together 133 = .ok (.aload_n 0, 1) := by decide +kernel
theorem dX10_together_134 : decode cX10_together 134 = .ok (.getfield 33, 3) := by decide +kernel
theorem dX10_together_137 : decode cX10_together 137 = .ok (.iload_n 2, 1) := by decide +kernel
theorem dX10_together_138 : decode cX10_together 138 = .ok (.iaload, 1) := by decide +kernel
theorem dX10_together_139 : decode cX10_together 139 = .ok (.if_icmp .eq 7, 3) := by decide +kernel
theorem dX10_together_142 : decode cX10_together 142 = .ok (.iconst 1, 1) := by decide +kernel
theorem dX10_together_143 : decode cX10_together 143 = .ok (.goto 4, 3) := by decide +kernel
theorem dX10_together_146 : decode cX10_together 146 = .ok (.iconst 0, 1) := by decide +kernel
theorem dX10_together_147 : decode cX10_together 147 = .ok (.istore_n 1, 1) := by decide +kernel
theorem dX10_together_148 : decode cX10_together 148 = .ok (.aload_n 0, 1) := by decide +kernel
theorem dX10_together_149 : decode cX10_together 149 = .ok (.getfield 33, 3) := by decide +kernel
theorem dX10_together_152 : decode cX10_together 152 = .ok (.iload_n 2, 1) := by decide +kernel
theorem dX10_together_153 : decode cX10_together 153 = .ok (.aload_n 0, 1) := by decide +kernel
theorem dX10_together_154 : decode cX10_together 154 = .ok (.getfield 39, 3) := by decide +kernel
theorem dX10_together_157 : decode cX10_together 157 = .ok (.iload_n 2, 1) := by decide +kernel
theorem dX10_together_158 : decode cX10_together 158 = .ok (.iaload, 1) := by decide +kernel
theorem dX10_together_159 : decode cX10_together 159 = .ok (.iastore, 1) := by decide +kernel
theorem dX10_together_160 : decode cX10_together 160 = .ok (.iinc 2 1, 3) := by decide +kernel
theorem dX10_together_163 : decode cX10_together 163 = .ok (.goto (-50), 3) := by decide +kernel
theorem dX10_together_166 : decode cX10_together 166 = .ok (.goto (-139), 3) := by decide +kernel
theorem dX10_together_169 : decode cX10_together 169 = .ok (.aload_n 0, 1) := by decide +kernel
theorem dX10_together_170 : decode cX10_together 170 = .ok (.invokevirtual 101, 3) := by decide +kernel
theorem dX10_together_173 : decode cX10_together 173 = .ok (.return_, 1) := by decide +kernel
theorem dX10_told_0 : decode cX10_told 0 = .ok (.iload_n 1, 1) := by decide +kernel
theorem dX10_told_1 : decode cX10_told 1 = .ok (.tableswitch 92 0 8 #[51, 51, 51, 58, 63, 68, 77, 82, 87], 51) := by decide +kernel
theorem dX10_told_52 : decode cX10_told 52 = .ok (.aload_n 0, 1) := by decide +kernel
theorem dX10_told_53 : decode cX10_told 53 = .ok (.getfield 7, 3) := by decide +kernel
theorem dX10_told_56 : decode cX10_told 56 = .ok (.iload_n 1, 1) := by decide +kernel
theorem dX10_told_57 : decode cX10_told 57 = .ok (.iaload, 1) := by decide +kernel
theorem dX10_told_58 : decode cX10_told 58 = .ok (.ireturn, 1) := by decide +kernel
theorem dX10_told_59 : decode cX10_told 59 = .ok (.aload_n 0, 1) := by decide +kernel
theorem dX10_told_60 : decode cX10_told 60 = .ok (.invokevirtual 104, 3) := by decide +kernel
theorem dX10_told_63 : decode cX10_told 63 = .ok (.ireturn, 1) := by decide +kernel
theorem dX10_told_64 : decode cX10_told 64 = .ok (.aload_n 0, 1) := by decide +kernel
theorem dX10_told_65 : decode cX10_told 65 = .ok (.invokevirtual 108, 3) := by decide +kernel
theorem dX10_told_68 : decode cX10_told 68 = .ok (.ireturn, 1) := by decide +kernel
theorem dX10_told_69 : decode cX10_told 69 = .ok (.aload_n 0, 1) := by decide +kernel
theorem dX10_told_70 : decode cX10_told 70 = .ok (.invokevirtual 111, 3) := by decide +kernel
theorem dX10_told_73 : decode cX10_told 73 = .ok (.aload_n 0, 1) := by decide +kernel
theorem dX10_told_74 : decode cX10_told 74 = .ok (.getfield 98, 3) := by decide +kernel
theorem dX10_told_77 : decode cX10_told 77 = .ok (.ireturn, 1) := by decide +kernel
theorem dX10_told_78 : decode cX10_told 78 = .ok (.aload_n 0, 1) := by decide +kernel
theorem dX10_told_79 : decode cX10_told 79 = .ok (.getfield 87, 3) := by decide +kernel
theorem dX10_told_82 : decode cX10_told 82 = .ok (.ireturn, 1) := by decide +kernel
theorem dX10_told_83 : decode cX10_told 83 = .ok (.aload_n 0, 1) := by decide +kernel
theorem dX10_told_84 : decode cX10_told 84 = .ok (.invokevirtual 114, 3) := by decide +kernel
theorem dX10_told_87 : decode cX10_told 87 = .ok (.ireturn, 1) := by decide +kernel
theorem dX10_told_88 : decode cX10_told 88 = .ok (.aload_n 0, 1) := by decide +kernel
theorem dX10_told_89 : decode cX10_told 89 = .ok (.getfield 69, 3) := by decide +kernel
theorem dX10_told_92 : decode cX10_told 92 = .ok (.ireturn, 1) := by decide +kernel
theorem dX10_told_93 : decode cX10_told 93 = .ok (.ldc 117, 2) := by decide +kernel
theorem dX10_told_95 : decode cX10_told 95 = .ok (.ireturn, 1) := by decide +kernel
theorem dX10_group_0 : decode cX10_group 0 = .ok (.aload_n 0, 1) := by decide +kernel
theorem dX10_group_1 : decode cX10_group 1 = .ok (.iload_n 1, 1) := by decide +kernel
theorem dX10_group_2 : decode cX10_group 2 = .ok (.invokevirtual 50, 3) := by decide +kernel
theorem dX10_group_5 : decode cX10_group 5 = .ok (.ifCond .ne 6, 3) := by decide +kernel
theorem dX10_group_8 : decode cX10_group 8 = .ok (.ldc 118, 2) := by decide +kernel
theorem dX10_group_10 : decode cX10_group 10 = .ok (.ireturn, 1) := by decide +kernel
theorem dX10_group_11 : decode cX10_group 11 = .ok (.iload_n 2, 1) := by decide +kernel
theorem dX10_group_12 : decode cX10_group 12 = .ok (.tableswitch 133 0 14 #[76, 76, 76, 76, 76, 83, 83, 83, 92, 92, 92, 92, 105, 111, 122], 76) := by decide +kernel
theorem dX10_group_88 : decode cX10_group 88 = .ok (.aload_n 0, 1) := by decide +kernel
theorem dX10_group_89 : decode cX10_group 89 = .ok (.iload_n 1, 1) := by decide +kernel
theorem dX10_group_90 : decode cX10_group 90 = .ok (.iload_n 2, 1) := by decide +kernel
theorem dX10_group_91 : decode cX10_group 91 = .ok (.invokevirtual 54, 3) := by decide +kernel
theorem dX10_group_94 : decode cX10_group 94 = .ok (.ireturn, 1) := by decide +kernel
theorem dX10_group_95 : decode cX10_group 95 = .ok (.aload_n 0, 1) := by decide +kernel
theorem dX10_group_96 : decode cX10_group 96 = .ok (.iload_n 1, 1) := by decide +kernel
theorem dX10_group_97 : decode cX10_group 97 = .ok (.iload_n 2, 1) := by decide +kernel
theorem dX10_group_98 : decode cX10_group 98 = .ok (.iconst 5, 1) := by decide +kernel
theorem dX10_group_99 : decode cX10_group 99 = .ok (.isub, 1) := by decide +kernel
theorem dX10_group_100 : decode cX10_group 100 = .ok (.invokevirtual 77, 3) := by decide +kernel
theorem dX10_group_103 : decode cX10_group 103 = .ok (.ireturn, 1) := by decide +kernel
theorem dX10_group_104 : decode cX10_group 104 = .ok (.aload_n 0, 1) := by decide +kernel
theorem dX10_group_105 : decode cX10_group 105 = .ok (.iload_n 1, 1) := by decide +kernel
theorem dX10_group_106 : decode cX10_group 106 = .ok (.bipush 6, 2) := by decide +kernel
theorem dX10_group_108 : decode cX10_group 108 = .ok (.iload_n 2, 1) := by decide +kernel
theorem dX10_group_109 : decode cX10_group 109 = .ok (.iadd, 1) := by decide +kernel
theorem dX10_group_110 : decode cX10_group 110 = .ok (.bipush 8, 2) := by decide +kernel
theorem dX10_group_112 : decode cX10_group 112 = .ok (.isub, 1) := by decide +kernel
theorem dX10_group_113 : decode cX10_group 113 = .ok (.invokevirtual 54, 3) := by decide +kernel
theorem dX10_group_116 : decode cX10_group 116 = .ok (.ireturn, 1) := by decide +kernel
theorem dX10_group_117 : decode cX10_group 117 = .ok (.aload_n 0, 1) := by decide +kernel
theorem dX10_group_118 : decode cX10_group 118 = .ok (.iload_n 1, 1) := by decide +kernel
theorem dX10_group_119 : decode cX10_group 119 = .ok (.invokevirtual 119, 3) := by decide +kernel
theorem dX10_group_122 : decode cX10_group 122 = .ok (.ireturn, 1) := by decide +kernel
theorem dX10_group_123 : decode cX10_group 123 = .ok (.aload_n 0, 1) := by decide +kernel
theorem dX10_group_124 : decode cX10_group 124 = .ok (.invokevirtual 111, 3) := by decide +kernel
theorem dX10_group_127 : decode cX10_group 127 = .ok (.aload_n 0, 1) := by decide +kernel
theorem dX10_group_128 : decode cX10_group 128 = .ok (.getfield 33, 3) := by decide +kernel
theorem dX10_group_131 : decode cX10_group 131 = .ok (.iload_n 1, 1) := by decide +kernel
theorem dX10_group_132 : decode cX10_group 132 = .ok (.iaload, 1) := by decide +kernel
theorem dX10_group_133 : decode cX10_group 133 = .ok (.ireturn, 1) := by decide +kernel
theorem dX10_group_134 : decode cX10_group 134 = .ok (.aload_n 0, 1) := by decide +kernel
theorem dX10_group_135 : decode cX10_group 135 = .ok (.invokevirtual 111, 3) := by decide +kernel
theorem dX10_group_138 : decode cX10_group 138 = .ok (.aload_n 0, 1) := by decide +kernel
theorem dX10_group_139 : decode cX10_group 139 = .ok (.getfield 36, 3) := by decide +kernel
theorem dX10_group_142 : decode cX10_group 142 = .ok (.iload_n 1, 1) := by decide +kernel
theorem dX10_group_143 : decode cX10_group 143 = .ok (.iaload, 1) := by decide +kernel
theorem dX10_group_144 : decode cX10_group 144 = .ok (.ireturn, 1) := by decide +kernel
theorem dX10_group_145 : decode cX10_group 145 = .ok (.ldc 117, 2) := by decide +kernel
theorem dX10_group_147 : decode cX10_group 147 = .ok (.ireturn, 1) := by decide +kernel
theorem dX10_line_0 : decode cX10_line 0 = .ok (.aload_n 0, 1) := by decide +kernel
theorem dX10_line_1 : decode cX10_line 1 = .ok (.iload_n 1, 1) := by decide +kernel
theorem dX10_line_2 : decode cX10_line 2 = .ok (.iload_n 2, 1) := by decide +kernel
theorem dX10_line_3 : decode cX10_line 3 = .ok (.invokevirtual 90, 3) := by decide +kernel
theorem dX10_line_6 : decode cX10_line 6 = .ok (.ifCond .ne 8, 3) := by decide +kernel
theorem dX10_line_9 : decode cX10_line 9 = .ok (.ldc 118, 2) := by decide +kernel
theorem dX10_line_11 : decode cX10_line 11 = .ok (.goto 24, 3) := by decide +kernel
theorem dX10_line_14 : decode cX10_line 14 = .ok (.iload_n 3, 1) := by decide +kernel
theorem dX10_line_15 : decode cX10_line 15 = .ok (.iconst 0, 1) := by decide +kernel
theorem dX10_line_16 : decode cX10_line 16 = .ok (.iconst 2, 1) := by decide +kernel
theorem dX10_line_17 : decode cX10_line 17 = .ok (.invokestatic 46, 3) := by decide +kernel
theorem dX10_line_20 : decode cX10_line 20 = .ok (.ifCond .eq 13, 3) := by decide +kernel
theorem dX10_line_23 : decode cX10_line 23 = .ok (.aload_n 0, 1) := by decide +kernel
theorem dX10_line_24 : decode cX10_line 24 = .ok (.iload_n 1, 1) := by decide +kernel
theorem dX10_line_25 : decode cX10_line 25 = .ok (.iload_n 2, 1) := by decide +kernel
theorem dX10_line_26 : decode cX10_line 26 = .ok (.iload_n 3, 1) := by decide +kernel
theorem dX10_line_27 : decode cX10_line 27 = .ok (.invokevirtual 73, 3) := by decide +kernel
theorem dX10_line_30 : decode cX10_line 30 = .ok (.goto 5, 3) := by decide +kernel
theorem dX10_line_33 : decode cX10_line 33 = .ok (.ldc 117, 2) := by decide +kernel
theorem dX10_line_35 : decode cX10_line 35 = .ok (.ireturn, 1) := by decide +kernel
theorem dX10_build_0 : decode cX10_build 0 = .ok (.iload_n 1, 1) := by decide +kernel
theorem dX10_build_1 : decode cX10_build 1 = .ok (.iconst 1, 1) := by decide +kernel
theorem dX10_build_2 : decode cX10_build 2 = .ok (.iconst 4, 1) := by decide +kernel
theorem dX10_build_3 : decode cX10_build 3 = .ok (.invokestatic 46, 3) := by decide +kernel
theorem dX10_build_6 : decode cX10_build 6 = .ok (.ifCond .ne 6, 3) := by decide +kernel
theorem dX10_build_9 : decode cX10_build 9 = .ok (.ldc 117, 2) := by decide +kernel
theorem dX10_build_11 : decode cX10_build 11 = .ok (.ireturn, 1) := by decide +kernel
theorem dX10_build_12 : decode cX10_build 12 = .ok (.aload_n 0, 1) := by decide +kernel
theorem dX10_build_13 : decode cX10_build 13 = .ok (.invokevirtual 122, 3) := by decide +kernel
theorem dX10_build_16 : decode cX10_build 16 = .ok (.aload_n 0, 1) := by decide +kernel
theorem dX10_build_17 : decode cX10_build 17 = .ok (.getfield 7, 3) := by decide +kernel
theorem dX10_build_20 : decode cX10_build 20 = .ok (.iconst 0, 1) := by decide +kernel
theorem dX10_build_21 : decode cX10_build 21 = .ok (.iaload, 1) := by decide +kernel
theorem dX10_build_22 : decode cX10_build 22 = .ok (.istore_n 2, 1) := by decide +kernel
theorem dX10_build_23 : decode cX10_build 23 = .ok (.aload_n 0, 1) := by decide +kernel
theorem dX10_build_24 : decode cX10_build 24 = .ok (.iload_n 1, 1) := by decide +kernel
theorem dX10_build_25 : decode cX10_build 25 = .ok (.invokevirtual 42, 3) := by decide +kernel
theorem dX10_build_28 : decode cX10_build 28 = .ok (.iload_n 2, 1) := by decide +kernel
theorem dX10_build_29 : decode cX10_build 29 = .ok (.ireturn, 1) := by decide +kernel
theorem dX10_shape_0 : decode cX10_shape 0 = .ok (.aload_n 0, 1) := by decide +kernel
theorem dX10_shape_1 : decode cX10_shape 1 = .ok (.iload_n 1, 1) := by decide +kernel
theorem dX10_shape_2 : decode cX10_shape 2 = .ok (.invokevirtual 50, 3) := by decide +kernel
theorem dX10_shape_5 : decode cX10_shape 5 = .ok (.ifCond .eq 24, 3) := by decide +kernel
theorem dX10_shape_8 : decode cX10_shape 8 = .ok (.iload 5, 2) := by decide +kernel
theorem dX10_shape_10 : decode cX10_shape 10 = .ok (.iconst (-1), 1) := by decide +kernel
theorem dX10_shape_11 : decode cX10_shape 11 = .ok (.if_icmp .eq 12, 3) := by decide +kernel
theorem dX10_shape_14 : decode cX10_shape 14 = .ok (.aload_n 0, 1) := by decide +kernel
theorem dX10_shape_15 : decode cX10_shape 15 = .ok (.iload 5, 2) := by decide +kernel
theorem dX10_shape_17 : decode cX10_shape 17 = .ok (.invokevirtual 50, 3) := by decide +kernel
theorem dX10_shape_20 : decode cX10_shape 20 = .ok (.ifCond .eq 9, 3) := by decide +kernel
theorem dX10_shape_23 : decode cX10_shape 23 = .ok (.iload 5, 2) := by decide +kernel
theorem dX10_shape_25 : decode cX10_shape 25 = .ok (.iload_n 1, 1) := by decide +kernel
theorem dX10_shape_26 : decode cX10_shape 26 = .ok (.if_icmp .ne 6, 3) := by decide +kernel
theorem dX10_shape_29 : decode cX10_shape 29 = .ok (.ldc 118, 2) := by decide +kernel
theorem dX10_shape_31 : decode cX10_shape 31 = .ok (.ireturn, 1) := by decide +kernel
theorem dX10_shape_32 : decode cX10_shape 32 = .ok (.iload_n 2, 1) := by decide +kernel
theorem dX10_shape_33 : decode cX10_shape 33 = .ok (.iconst 1, 1) := by decide +kernel
theorem dX10_shape_34 : decode cX10_shape 34 = .ok (.bipush 6, 2) := by decide +kernel
theorem dX10_shape_36 : decode cX10_shape 36 = .ok (.invokestatic 46, 3) := by decide +kernel
theorem dX10_shape_39 : decode cX10_shape 39 = .ok (.ifCond .eq 33, 3) := by decide +kernel
theorem dX10_shape_42 : decode cX10_shape 42 = .ok (.iload_n 3, 1) := by decide +kernel
theorem dX10_shape_43 : decode cX10_shape 43 = .ok (.iconst 0, 1) := by decide +kernel
theorem dX10_shape_44 : decode cX10_shape 44 = .ok (.bipush 6, 2) := by decide +kernel
theorem dX10_shape_46 : decode cX10_shape 46 = .ok (.invokestatic 46, 3) := by decide +kernel
theorem dX10_shape_49 : decode cX10_shape 49 = .ok (.ifCond .eq 23, 3) := by decide +kernel
theorem dX10_shape_52 : decode cX10_shape 52 = .ok (.iload 4, 2) := by decide +kernel
theorem dX10_shape_54 : decode cX10_shape 54 = .ok (.iconst 0, 1) := by decide +kernel
theorem dX10_shape_55 : decode cX10_shape 55 = .ok (.iload_n 2, 1) := by decide +kernel
theorem dX10_shape_56 : decode cX10_shape 56 = .ok (.invokestatic 46, 3) := by decide +kernel
theorem dX10_shape_59 : decode cX10_shape 59 = .ok (.ifCond .eq 13, 3) := by decide +kernel
theorem dX10_shape_62 : decode cX10_shape 62 = .ok (.iload 6, 2) := by decide +kernel
theorem dX10_shape_64 : decode cX10_shape 64 = .ok (.iconst 0, 1) := by decide +kernel
theorem dX10_shape_65 : decode cX10_shape 65 = .ok (.iconst 3, 1) := by decide +kernel
theorem dX10_shape_66 : decode cX10_shape 66 = .ok (.invokestatic 46, 3) := by decide +kernel
theorem dX10_shape_69 : decode cX10_shape 69 = .ok (.ifCond .ne 6, 3) := by decide +kernel
theorem dX10_shape_72 : decode cX10_shape 72 = .ok (.ldc 117, 2) := by decide +kernel
theorem dX10_shape_74 : decode cX10_shape 74 = .ok (.ireturn, 1) := by decide +kernel
theorem dX10_shape_75 : decode cX10_shape 75 = .ok (.aload_n 0, 1) := by decide +kernel
theorem dX10_shape_76 : decode cX10_shape 76 = .ok (.invokevirtual 122, 3) := by decide +kernel
theorem dX10_shape_79 : decode cX10_shape 79 = .ok (.aload_n 0, 1) := by decide +kernel
theorem dX10_shape_80 : decode cX10_shape 80 = .ok (.iload_n 1, 1) := by decide +kernel
theorem dX10_shape_81 : decode cX10_shape 81 = .ok (.iconst 1, 1) := by decide +kernel
theorem dX10_shape_82 : decode cX10_shape 82 = .ok (.invokevirtual 77, 3) := by decide +kernel
theorem dX10_shape_85 : decode cX10_shape 85 = .ok (.invokestatic 84, 3) := by decide +kernel
theorem dX10_shape_88 : decode cX10_shape 88 = .ok (.istore 7, 2) := by decide +kernel
theorem dX10_shape_90 : decode cX10_shape 90 = .ok (.aload_n 0, 1) := by decide +kernel
theorem dX10_shape_91 : decode cX10_shape 91 = .ok (.iload_n 1, 1) := by decide +kernel
theorem dX10_shape_92 : decode cX10_shape 92 = .ok (.iconst 0, 1) := by decide +kernel
theorem dX10_shape_93 : decode cX10_shape 93 = .ok (.iload_n 2, 1) := by decide +kernel
theorem dX10_shape_94 : decode cX10_shape 94 = .ok (.invokevirtual 58, 3) := by decide +kernel
theorem dX10_shape_97 : decode cX10_shape 97 = .ok (.aload_n 0, 1) := by decide +kernel
theorem dX10_shape_98 : decode cX10_shape 98 = .ok (.iload_n 1, 1) := by decide +kernel
theorem dX10_shape_99 : decode cX10_shape 99 = .ok (.iconst 1, 1) := by decide +kernel
theorem dX10_shape_100 : decode cX10_shape 100 = .ok (.iload_n 3, 1) := by decide +kernel
theorem dX10_shape_101 : decode cX10_shape 101 = .ok (.invokevirtual 58, 3) := by decide +kernel
theorem dX10_shape_104 : decode cX10_shape 104 = .ok (.aload_n 0, 1) := by decide +kernel
theorem dX10_shape_105 : decode cX10_shape 105 = .ok (.iload_n 1, 1) := by decide +kernel
theorem dX10_shape_106 : decode cX10_shape 106 = .ok (.iconst 2, 1) := by decide +kernel
theorem dX10_shape_107 : decode cX10_shape 107 = .ok (.iload 4, 2) := by decide +kernel
theorem dX10_shape_109 : decode cX10_shape 109 = .ok (.invokevirtual 58, 3) := by decide +kernel
theorem dX10_shape_112 : decode cX10_shape 112 = .ok (.aload_n 0, 1) := by decide +kernel
theorem dX10_shape_113 : decode cX10_shape 113 = .ok (.iload_n 1, 1) := by decide +kernel
theorem dX10_shape_114 : decode cX10_shape 114 = .ok (.iconst 3, 1) := by decide +kernel
theorem dX10_shape_115 : decode cX10_shape 115 = .ok (.iload 5, 2) := by decide +kernel
theorem dX10_shape_117 : decode cX10_shape 117 = .ok (.invokevirtual 58, 3) := by decide +kernel
theorem dX10_shape_120 : decode cX10_shape 120 = .ok (.aload_n 0, 1) := by decide +kernel
theorem dX10_shape_121 : decode cX10_shape 121 = .ok (.iload_n 1, 1) := by decide +kernel
theorem dX10_shape_122 : decode cX10_shape 122 = .ok (.iconst 4, 1) := by decide +kernel
theorem dX10_shape_123 : decode cX10_shape 123 = .ok (.iload 6, 2) := by decide +kernel
theorem dX10_shape_125 : decode cX10_shape 125 = .ok (.invokevirtual 58, 3) := by decide +kernel
theorem dX10_shape_128 : decode cX10_shape 128 = .ok (.aload_n 0, 1) := by decide +kernel
theorem dX10_shape_129 : decode cX10_shape 129 = .ok (.iload_n 1, 1) := by decide +kernel
theorem dX10_shape_130 : decode cX10_shape 130 = .ok (.invokevirtual 66, 3) := by decide +kernel
theorem dX10_shape_133 : decode cX10_shape 133 = .ok (.iload 7, 2) := by decide +kernel
theorem dX10_shape_135 : decode cX10_shape 135 = .ok (.ireturn, 1) := by decide +kernel
theorem dX10_comes_0 : decode cX10_comes 0 = .ok (.aload_n 0, 1) := by decide +kernel
theorem dX10_comes_1 : decode cX10_comes 1 = .ok (.iload_n 1, 1) := by decide +kernel
theorem dX10_comes_2 : decode cX10_comes 2 = .ok (.invokevirtual 119, 3) := by decide +kernel
theorem dX10_comes_5 : decode cX10_comes 5 = .ok (.istore_n 2, 1) := by decide +kernel
theorem dX10_comes_6 : decode cX10_comes 6 = .ok (.aload_n 0, 1) := by decide +kernel
theorem dX10_comes_7 : decode cX10_comes 7 = .ok (.iload_n 1, 1) := by decide +kernel
theorem dX10_comes_8 : decode cX10_comes 8 = .ok (.bipush 6, 2) := by decide +kernel
theorem dX10_comes_10 : decode cX10_comes 10 = .ok (.aload_n 0, 1) := by decide +kernel
theorem dX10_comes_11 : decode cX10_comes 11 = .ok (.iload_n 1, 1) := by decide +kernel
theorem dX10_comes_12 : decode cX10_comes 12 = .ok (.bipush 6, 2) := by decide +kernel
theorem dX10_comes_14 : decode cX10_comes 14 = .ok (.invokevirtual 54, 3) := by decide +kernel
theorem dX10_comes_17 : decode cX10_comes 17 = .ok (.iconst 1, 1) := by decide +kernel
theorem dX10_comes_18 : decode cX10_comes 18 = .ok (.iadd, 1) := by decide +kernel
theorem dX10_comes_19 : decode cX10_comes 19 = .ok (.invokevirtual 58, 3) := by decide +kernel
theorem dX10_comes_22 : decode cX10_comes 22 = .ok (.iload_n 2, 1) := by decide +kernel
theorem dX10_comes_23 : decode cX10_comes 23 = .ok (.iconst (-1), 1) := by decide +kernel
theorem dX10_comes_24 : decode cX10_comes 24 = .ok (.if_icmp .ne 8, 3) := by decide +kernel
theorem dX10_comes_27 : decode cX10_comes 27 = .ok (.bipush 9, 2) := by decide +kernel
theorem dX10_comes_29 : decode cX10_comes 29 = .ok (.goto 18, 3) := by decide +kernel
theorem dX10_comes_32 : decode cX10_comes 32 = .ok (.iload_n 2, 1) := by decide +kernel
theorem dX10_comes_33 : decode cX10_comes 33 = .ok (.bipush 10, 2) := by decide +kernel
theorem dX10_comes_35 : decode cX10_comes 35 = .ok (.idiv, 1) := by decide +kernel
theorem dX10_comes_36 : decode cX10_comes 36 = .ok (.iload_n 1, 1) := by decide +kernel
theorem dX10_comes_37 : decode cX10_comes 37 = .ok (.if_icmp .ne 8, 3) := by decide +kernel
theorem dX10_comes_40 : decode cX10_comes 40 = .ok (.bipush 7, 2) := by decide +kernel
theorem dX10_comes_42 : decode cX10_comes 42 = .ok (.goto 5, 3) := by decide +kernel
theorem dX10_comes_45 : decode cX10_comes 45 = .ok (.bipush 8, 2) := by decide +kernel
theorem dX10_comes_47 : decode cX10_comes 47 = .ok (.istore_n 3, 1) := by decide +kernel
theorem dX10_comes_48 : decode cX10_comes 48 = .ok (.aload_n 0, 1) := by decide +kernel
theorem dX10_comes_49 : decode cX10_comes 49 = .ok (.iload_n 1, 1) := by decide +kernel
theorem dX10_comes_50 : decode cX10_comes 50 = .ok (.iload_n 3, 1) := by decide +kernel
theorem dX10_comes_51 : decode cX10_comes 51 = .ok (.aload_n 0, 1) := by decide +kernel
theorem dX10_comes_52 : decode cX10_comes 52 = .ok (.iload_n 1, 1) := by decide +kernel
theorem dX10_comes_53 : decode cX10_comes 53 = .ok (.iload_n 3, 1) := by decide +kernel
theorem dX10_comes_54 : decode cX10_comes 54 = .ok (.invokevirtual 54, 3) := by decide +kernel
theorem dX10_comes_57 : decode cX10_comes 57 = .ok (.iconst 1, 1) := by decide +kernel
theorem dX10_comes_58 : decode cX10_comes 58 = .ok (.iadd, 1) := by decide +kernel
theorem dX10_comes_59 : decode cX10_comes 59 = .ok (.invokevirtual 58, 3) := by decide +kernel
theorem dX10_comes_62 : decode cX10_comes 62 = .ok (.iload_n 2, 1) := by decide +kernel
theorem dX10_comes_63 : decode cX10_comes 63 = .ok (.iconst (-1), 1) := by decide +kernel
theorem dX10_comes_64 : decode cX10_comes 64 = .ok (.if_icmp .eq 37, 3) := by decide +kernel
theorem dX10_comes_67 : decode cX10_comes 67 = .ok (.aload_n 0, 1) := by decide +kernel
theorem dX10_comes_68 : decode cX10_comes 68 = .ok (.iload_n 2, 1) := by decide +kernel
theorem dX10_comes_69 : decode cX10_comes 69 = .ok (.bipush 10, 2) := by decide +kernel
theorem dX10_comes_71 : decode cX10_comes 71 = .ok (.idiv, 1) := by decide +kernel
theorem dX10_comes_72 : decode cX10_comes 72 = .ok (.iload_n 2, 1) := by decide +kernel
theorem dX10_comes_73 : decode cX10_comes 73 = .ok (.bipush 10, 2) := by decide +kernel
theorem dX10_comes_75 : decode cX10_comes 75 = .ok (.irem, 1) := by decide +kernel
theorem dX10_comes_76 : decode cX10_comes 76 = .ok (.iconst 1, 1) := by decide +kernel
theorem dX10_comes_77 : decode cX10_comes 77 = .ok (.aload_n 0, 1) := by decide +kernel
theorem dX10_comes_78 : decode cX10_comes 78 = .ok (.getfield 7, 3) := by decide +kernel
theorem dX10_comes_81 : decode cX10_comes 81 = .ok (.iconst 2, 1) := by decide +kernel
theorem dX10_comes_82 : decode cX10_comes 82 = .ok (.iaload, 1) := by decide +kernel
theorem dX10_comes_83 : decode cX10_comes 83 = .ok (.iload_n 1, 1) := by decide +kernel
theorem dX10_comes_84 : decode cX10_comes 84 = .ok (.iconst 0, 1) := by decide +kernel
theorem dX10_comes_85 : decode cX10_comes 85 = .ok (.invokevirtual 62, 3) := by decide +kernel
theorem dX10_comes_88 : decode cX10_comes 88 = .ok (.aload_n 0, 1) := by decide +kernel
theorem dX10_comes_89 : decode cX10_comes 89 = .ok (.iload_n 2, 1) := by decide +kernel
theorem dX10_comes_90 : decode cX10_comes 90 = .ok (.bipush 10, 2) := by decide +kernel
theorem dX10_comes_92 : decode cX10_comes 92 = .ok (.idiv, 1) := by decide +kernel
theorem dX10_comes_93 : decode cX10_comes 93 = .ok (.iconst 5, 1) := by decide +kernel
theorem dX10_comes_94 : decode cX10_comes 94 = .ok (.iload_n 2, 1) := by decide +kernel
theorem dX10_comes_95 : decode cX10_comes 95 = .ok (.bipush 10, 2) := by decide +kernel
theorem dX10_comes_97 : decode cX10_comes 97 = .ok (.irem, 1) := by decide +kernel
theorem dX10_comes_98 : decode cX10_comes 98 = .ok (.invokevirtual 58, 3) := by decide +kernel
theorem dX10_comes_101 : decode cX10_comes 101 = .ok (.aload_n 0, 1) := by decide +kernel
theorem dX10_comes_102 : decode cX10_comes 102 = .ok (.getfield 7, 3) := by decide +kernel
theorem dX10_comes_105 : decode cX10_comes 105 = .ok (.iconst 2, 1) := by decide +kernel
theorem dX10_comes_106 : decode cX10_comes 106 = .ok (.dup2, 1) := by decide +kernel
theorem dX10_comes_107 : decode cX10_comes 107 = .ok (.iaload, 1) := by decide +kernel
theorem dX10_comes_108 : decode cX10_comes 108 = .ok (.iconst 1, 1) := by decide +kernel
theorem dX10_comes_109 : decode cX10_comes 109 = .ok (.iadd, 1) := by decide +kernel
theorem dX10_comes_110 : decode cX10_comes 110 = .ok (.iastore, 1) := by decide +kernel
theorem dX10_comes_111 : decode cX10_comes 111 = .ok (.aload_n 0, 1) := by decide +kernel
theorem dX10_comes_112 : decode cX10_comes 112 = .ok (.getfield 7, 3) := by decide +kernel
theorem dX10_comes_115 : decode cX10_comes 115 = .ok (.iconst 1, 1) := by decide +kernel
theorem dX10_comes_116 : decode cX10_comes 116 = .ok (.dup2, 1) := by decide +kernel
theorem dX10_comes_117 : decode cX10_comes 117 = .ok (.iaload, 1) := by decide +kernel
theorem dX10_comes_118 : decode cX10_comes 118 = .ok (.iconst 1, 1) := by decide +kernel
theorem dX10_comes_119 : decode cX10_comes 119 = .ok (.iadd, 1) := by decide +kernel
theorem dX10_comes_120 : decode cX10_comes 120 = .ok (.iastore, 1) := by decide +kernel
theorem dX10_comes_121 : decode cX10_comes 121 = .ok (.iload_n 2, 1) := by decide +kernel
theorem dX10_comes_122 : decode cX10_comes 122 = .ok (.ireturn, 1) := by decide +kernel
theorem dX10_call_0 : decode cX10_call 0 = .ok (.aload_n 0, 1) := by decide +kernel
theorem dX10_call_1 : decode cX10_call 1 = .ok (.iload_n 1, 1) := by decide +kernel
theorem dX10_call_2 : decode cX10_call 2 = .ok (.invokevirtual 50, 3) := by decide +kernel
theorem dX10_call_5 : decode cX10_call 5 = .ok (.ifCond .ne 6, 3) := by decide +kernel
theorem dX10_call_8 : decode cX10_call 8 = .ok (.ldc 118, 2) := by decide +kernel
theorem dX10_call_10 : decode cX10_call 10 = .ok (.ireturn, 1) := by decide +kernel
theorem dX10_call_11 : decode cX10_call 11 = .ok (.aload_n 0, 1) := by decide +kernel
theorem dX10_call_12 : decode cX10_call 12 = .ok (.invokevirtual 122, 3) := by decide +kernel
theorem dX10_call_15 : decode cX10_call 15 = .ok (.aload_n 0, 1) := by decide +kernel
theorem dX10_call_16 : decode cX10_call 16 = .ok (.iload_n 1, 1) := by decide +kernel
theorem dX10_call_17 : decode cX10_call 17 = .ok (.invokevirtual 125, 3) := by decide +kernel
theorem dX10_call_20 : decode cX10_call 20 = .ok (.ireturn, 1) := by decide +kernel
theorem dX10_ends_0 : decode cX10_ends 0 = .ok (.aload_n 0, 1) := by decide +kernel
theorem dX10_ends_1 : decode cX10_ends 1 = .ok (.iload_n 1, 1) := by decide +kernel
theorem dX10_ends_2 : decode cX10_ends 2 = .ok (.iload_n 2, 1) := by decide +kernel
theorem dX10_ends_3 : decode cX10_ends 3 = .ok (.iconst 1, 1) := by decide +kernel
theorem dX10_ends_4 : decode cX10_ends 4 = .ok (.invokevirtual 73, 3) := by decide +kernel
theorem dX10_ends_7 : decode cX10_ends 7 = .ok (.istore_n 3, 1) := by decide +kernel
theorem dX10_ends_8 : decode cX10_ends 8 = .ok (.aload_n 0, 1) := by decide +kernel
theorem dX10_ends_9 : decode cX10_ends 9 = .ok (.getfield 7, 3) := by decide +kernel
theorem dX10_ends_12 : decode cX10_ends 12 = .ok (.iconst 1, 1) := by decide +kernel
theorem dX10_ends_13 : decode cX10_ends 13 = .ok (.dup2, 1) := by decide +kernel
theorem dX10_ends_14 : decode cX10_ends 14 = .ok (.iaload, 1) := by decide +kernel
theorem dX10_ends_15 : decode cX10_ends 15 = .ok (.iconst 1, 1) := by decide +kernel
theorem dX10_ends_16 : decode cX10_ends 16 = .ok (.iadd, 1) := by decide +kernel
theorem dX10_ends_17 : decode cX10_ends 17 = .ok (.iastore, 1) := by decide +kernel
theorem dX10_ends_18 : decode cX10_ends 18 = .ok (.aload_n 0, 1) := by decide +kernel
theorem dX10_ends_19 : decode cX10_ends 19 = .ok (.iload_n 1, 1) := by decide +kernel
theorem dX10_ends_20 : decode cX10_ends 20 = .ok (.iload_n 2, 1) := by decide +kernel
theorem dX10_ends_21 : decode cX10_ends 21 = .ok (.iconst 0, 1) := by decide +kernel
theorem dX10_ends_22 : decode cX10_ends 22 = .ok (.iconst (-1), 1) := by decide +kernel
theorem dX10_ends_23 : decode cX10_ends 23 = .ok (.iconst (-1), 1) := by decide +kernel
theorem dX10_ends_24 : decode cX10_ends 24 = .ok (.aload_n 0, 1) := by decide +kernel
theorem dX10_ends_25 : decode cX10_ends 25 = .ok (.getfield 7, 3) := by decide +kernel
theorem dX10_ends_28 : decode cX10_ends 28 = .ok (.iconst 1, 1) := by decide +kernel
theorem dX10_ends_29 : decode cX10_ends 29 = .ok (.iaload, 1) := by decide +kernel
theorem dX10_ends_30 : decode cX10_ends 30 = .ok (.invokevirtual 62, 3) := by decide +kernel
theorem dX10_ends_33 : decode cX10_ends 33 = .ok (.iload_n 3, 1) := by decide +kernel
theorem dX10_ends_34 : decode cX10_ends 34 = .ok (.ireturn, 1) := by decide +kernel
theorem dX10_end_0 : decode cX10_end 0 = .ok (.aload_n 0, 1) := by decide +kernel
theorem dX10_end_1 : decode cX10_end 1 = .ok (.iload_n 1, 1) := by decide +kernel
theorem dX10_end_2 : decode cX10_end 2 = .ok (.iload_n 2, 1) := by decide +kernel
theorem dX10_end_3 : decode cX10_end 3 = .ok (.invokevirtual 90, 3) := by decide +kernel
theorem dX10_end_6 : decode cX10_end 6 = .ok (.ifCond .ne 6, 3) := by decide +kernel
theorem dX10_end_9 : decode cX10_end 9 = .ok (.ldc 118, 2) := by decide +kernel
theorem dX10_end_11 : decode cX10_end 11 = .ok (.ireturn, 1) := by decide +kernel
theorem dX10_end_12 : decode cX10_end 12 = .ok (.aload_n 0, 1) := by decide +kernel
theorem dX10_end_13 : decode cX10_end 13 = .ok (.iload_n 1, 1) := by decide +kernel
theorem dX10_end_14 : decode cX10_end 14 = .ok (.iload_n 2, 1) := by decide +kernel
theorem dX10_end_15 : decode cX10_end 15 = .ok (.iconst 0, 1) := by decide +kernel
theorem dX10_end_16 : decode cX10_end 16 = .ok (.invokevirtual 73, 3) := by decide +kernel
theorem dX10_end_19 : decode cX10_end 19 = .ok (.iconst 1, 1) := by decide +kernel
theorem dX10_end_20 : decode cX10_end 20 = .ok (.if_icmp .eq 6, 3) := by decide +kernel
theorem dX10_end_23 : decode cX10_end 23 = .ok (.ldc 128, 2) := by decide +kernel
theorem dX10_end_25 : decode cX10_end 25 = .ok (.ireturn, 1) := by decide +kernel
theorem dX10_end_26 : decode cX10_end 26 = .ok (.aload_n 0, 1) := by decide +kernel
theorem dX10_end_27 : decode cX10_end 27 = .ok (.invokevirtual 122, 3) := by decide +kernel
theorem dX10_end_30 : decode cX10_end 30 = .ok (.aload_n 0, 1) := by decide +kernel
theorem dX10_end_31 : decode cX10_end 31 = .ok (.iload_n 1, 1) := by decide +kernel
theorem dX10_end_32 : decode cX10_end 32 = .ok (.iload_n 2, 1) := by decide +kernel
theorem dX10_end_33 : decode cX10_end 33 = .ok (.invokevirtual 129, 3) := by decide +kernel
theorem dX10_end_36 : decode cX10_end 36 = .ok (.ireturn, 1) := by decide +kernel
theorem dX10_damage_0 : decode cX10_damage 0 = .ok (.aload_n 0, 1) := by decide +kernel
theorem dX10_damage_1 : decode cX10_damage 1 = .ok (.iload_n 1, 1) := by decide +kernel
theorem dX10_damage_2 : decode cX10_damage 2 = .ok (.iload_n 2, 1) := by decide +kernel
theorem dX10_damage_3 : decode cX10_damage 3 = .ok (.invokevirtual 90, 3) := by decide +kernel
theorem dX10_damage_6 : decode cX10_damage 6 = .ok (.ifCond .ne 6, 3) := by decide +kernel
theorem dX10_damage_9 : decode cX10_damage 9 = .ok (.ldc 118, 2) := by decide +kernel
theorem dX10_damage_11 : decode cX10_damage 11 = .ok (.ireturn, 1) := by decide +kernel
theorem dX10_damage_12 : decode cX10_damage 12 = .ok (.aload_n 0, 1) := by decide +kernel
theorem dX10_damage_13 : decode cX10_damage 13 = .ok (.iload_n 1, 1) := by decide +kernel
theorem dX10_damage_14 : decode cX10_damage 14 = .ok (.iload_n 2, 1) := by decide +kernel
theorem dX10_damage_15 : decode cX10_damage 15 = .ok (.iconst 0, 1) := by decide +kernel
theorem dX10_damage_16 : decode cX10_damage 16 = .ok (.invokevirtual 73, 3) := by decide +kernel
theorem dX10_damage_19 : decode cX10_damage 19 = .ok (.iconst 2, 1) := by decide +kernel
theorem dX10_damage_20 : decode cX10_damage 20 = .ok (.if_icmp .ne 6, 3) := by decide +kernel
theorem dX10_damage_23 : decode cX10_damage 23 = .ok (.ldc 128, 2) := by decide +kernel
theorem dX10_damage_25 : decode cX10_damage 25 = .ok (.ireturn, 1) := by decide +kernel
theorem dX10_damage_26 : decode cX10_damage 26 = .ok (.aload_n 0, 1) := by decide +kernel
theorem dX10_damage_27 : decode cX10_damage 27 = .ok (.invokevirtual 122, 3) := by decide +kernel
theorem dX10_damage_30 : decode cX10_damage 30 = .ok (.aload_n 0, 1) := by decide +kernel
theorem dX10_damage_31 : decode cX10_damage 31 = .ok (.iload_n 1, 1) := by decide +kernel
theorem dX10_damage_32 : decode cX10_damage 32 = .ok (.iload_n 2, 1) := by decide +kernel
theorem dX10_damage_33 : decode cX10_damage 33 = .ok (.iconst 1, 1) := by decide +kernel
theorem dX10_damage_34 : decode cX10_damage 34 = .ok (.invokevirtual 73, 3) := by decide +kernel
theorem dX10_damage_37 : decode cX10_damage 37 = .ok (.istore_n 3, 1) := by decide +kernel
theorem dX10_damage_38 : decode cX10_damage 38 = .ok (.aload_n 0, 1) := by decide +kernel
theorem dX10_damage_39 : decode cX10_damage 39 = .ok (.iload_n 1, 1) := by decide +kernel
theorem dX10_damage_40 : decode cX10_damage 40 = .ok (.iload_n 2, 1) := by decide +kernel
theorem dX10_damage_41 : decode cX10_damage 41 = .ok (.iconst 2, 1) := by decide +kernel
theorem dX10_damage_42 : decode cX10_damage 42 = .ok (.invokevirtual 73, 3) := by decide +kernel
theorem dX10_damage_45 : decode cX10_damage 45 = .ok (.istore 4, 2) := by decide +kernel
theorem dX10_damage_47 : decode cX10_damage 47 = .ok (.iload 4, 2) := by decide +kernel
theorem dX10_damage_49 : decode cX10_damage 49 = .ok (.iconst (-1), 1) := by decide +kernel
theorem dX10_damage_50 : decode cX10_damage 50 = .ok (.if_icmp .eq 21, 3) := by decide +kernel
theorem dX10_damage_53 : decode cX10_damage 53 = .ok (.aload_n 0, 1) := by decide +kernel
theorem dX10_damage_54 : decode cX10_damage 54 = .ok (.iload 4, 2) := by decide +kernel
theorem dX10_damage_56 : decode cX10_damage 56 = .ok (.bipush 9, 2) := by decide +kernel
theorem dX10_damage_58 : decode cX10_damage 58 = .ok (.aload_n 0, 1) := by decide +kernel
theorem dX10_damage_59 : decode cX10_damage 59 = .ok (.iload 4, 2) := by decide +kernel
theorem dX10_damage_61 : decode cX10_damage 61 = .ok (.bipush 9, 2) := by decide +kernel
theorem dX10_damage_63 : decode cX10_damage 63 = .ok (.invokevirtual 54, 3) := by decide +kernel
theorem dX10_damage_66 : decode cX10_damage 66 = .ok (.iconst 1, 1) := by decide +kernel
theorem dX10_damage_67 : decode cX10_damage 67 = .ok (.iadd, 1) := by decide +kernel
theorem dX10_damage_68 : decode cX10_damage 68 = .ok (.invokevirtual 58, 3) := by decide +kernel
theorem dX10_damage_71 : decode cX10_damage 71 = .ok (.aload_n 0, 1) := by decide +kernel
theorem dX10_damage_72 : decode cX10_damage 72 = .ok (.getfield 7, 3) := by decide +kernel
theorem dX10_damage_75 : decode cX10_damage 75 = .ok (.iconst 1, 1) := by decide +kernel
theorem dX10_damage_76 : decode cX10_damage 76 = .ok (.dup2, 1) := by decide +kernel
theorem dX10_damage_77 : decode cX10_damage 77 = .ok (.iaload, 1) := by decide +kernel
theorem dX10_damage_78 : decode cX10_damage 78 = .ok (.iconst 1, 1) := by decide +kernel
theorem dX10_damage_79 : decode cX10_damage 79 = .ok (.iadd, 1) := by decide +kernel
theorem dX10_damage_80 : decode cX10_damage 80 = .ok (.iastore, 1) := by decide +kernel
theorem dX10_damage_81 : decode cX10_damage 81 = .ok (.aload_n 0, 1) := by decide +kernel
theorem dX10_damage_82 : decode cX10_damage 82 = .ok (.iload_n 1, 1) := by decide +kernel
theorem dX10_damage_83 : decode cX10_damage 83 = .ok (.iload_n 2, 1) := by decide +kernel
theorem dX10_damage_84 : decode cX10_damage 84 = .ok (.iconst 2, 1) := by decide +kernel
theorem dX10_damage_85 : decode cX10_damage 85 = .ok (.iconst (-1), 1) := by decide +kernel
theorem dX10_damage_86 : decode cX10_damage 86 = .ok (.iconst (-1), 1) := by decide +kernel
theorem dX10_damage_87 : decode cX10_damage 87 = .ok (.iconst 0, 1) := by decide +kernel
theorem dX10_damage_88 : decode cX10_damage 88 = .ok (.invokevirtual 62, 3) := by decide +kernel
theorem dX10_damage_91 : decode cX10_damage 91 = .ok (.iload_n 3, 1) := by decide +kernel
theorem dX10_damage_92 : decode cX10_damage 92 = .ok (.ireturn, 1) := by decide +kernel
theorem dX10_mend_0 : decode cX10_mend 0 = .ok (.aload_n 0, 1) := by decide +kernel
theorem dX10_mend_1 : decode cX10_mend 1 = .ok (.iload_n 1, 1) := by decide +kernel
theorem dX10_mend_2 : decode cX10_mend 2 = .ok (.iload_n 2, 1) := by decide +kernel
theorem dX10_mend_3 : decode cX10_mend 3 = .ok (.invokevirtual 90, 3) := by decide +kernel
theorem dX10_mend_6 : decode cX10_mend 6 = .ok (.ifCond .ne 6, 3) := by decide +kernel
theorem dX10_mend_9 : decode cX10_mend 9 = .ok (.ldc 118, 2) := by decide +kernel
theorem dX10_mend_11 : decode cX10_mend 11 = .ok (.ireturn, 1) := by decide +kernel
theorem dX10_mend_12 : decode cX10_mend 12 = .ok (.aload_n 0, 1) := by decide +kernel
theorem dX10_mend_13 : decode cX10_mend 13 = .ok (.iload_n 1, 1) := by decide +kernel
theorem dX10_mend_14 : decode cX10_mend 14 = .ok (.iload_n 2, 1) := by decide +kernel
theorem dX10_mend_15 : decode cX10_mend 15 = .ok (.iconst 0, 1) := by decide +kernel
theorem dX10_mend_16 : decode cX10_mend 16 = .ok (.invokevirtual 73, 3) := by decide +kernel
theorem dX10_mend_19 : decode cX10_mend 19 = .ok (.iconst 2, 1) := by decide +kernel
theorem dX10_mend_20 : decode cX10_mend 20 = .ok (.if_icmp .eq 6, 3) := by decide +kernel
theorem dX10_mend_23 : decode cX10_mend 23 = .ok (.ldc 128, 2) := by decide +kernel
theorem dX10_mend_25 : decode cX10_mend 25 = .ok (.ireturn, 1) := by decide +kernel
theorem dX10_mend_26 : decode cX10_mend 26 = .ok (.aload_n 0, 1) := by decide +kernel
theorem dX10_mend_27 : decode cX10_mend 27 = .ok (.invokevirtual 122, 3) := by decide +kernel
theorem dX10_mend_30 : decode cX10_mend 30 = .ok (.aload_n 0, 1) := by decide +kernel
theorem dX10_mend_31 : decode cX10_mend 31 = .ok (.getfield 7, 3) := by decide +kernel
theorem dX10_mend_34 : decode cX10_mend 34 = .ok (.iconst 1, 1) := by decide +kernel
theorem dX10_mend_35 : decode cX10_mend 35 = .ok (.dup2, 1) := by decide +kernel
theorem dX10_mend_36 : decode cX10_mend 36 = .ok (.iaload, 1) := by decide +kernel
theorem dX10_mend_37 : decode cX10_mend 37 = .ok (.iconst 1, 1) := by decide +kernel
theorem dX10_mend_38 : decode cX10_mend 38 = .ok (.iadd, 1) := by decide +kernel
theorem dX10_mend_39 : decode cX10_mend 39 = .ok (.iastore, 1) := by decide +kernel
theorem dX10_mend_40 : decode cX10_mend 40 = .ok (.aload_n 0, 1) := by decide +kernel
theorem dX10_mend_41 : decode cX10_mend 41 = .ok (.iload_n 1, 1) := by decide +kernel
theorem dX10_mend_42 : decode cX10_mend 42 = .ok (.iload_n 2, 1) := by decide +kernel
theorem dX10_mend_43 : decode cX10_mend 43 = .ok (.iconst 0, 1) := by decide +kernel
theorem dX10_mend_44 : decode cX10_mend 44 = .ok (.iconst (-1), 1) := by decide +kernel
theorem dX10_mend_45 : decode cX10_mend 45 = .ok (.iconst (-1), 1) := by decide +kernel
theorem dX10_mend_46 : decode cX10_mend 46 = .ok (.aload_n 0, 1) := by decide +kernel
theorem dX10_mend_47 : decode cX10_mend 47 = .ok (.getfield 7, 3) := by decide +kernel
theorem dX10_mend_50 : decode cX10_mend 50 = .ok (.iconst 1, 1) := by decide +kernel
theorem dX10_mend_51 : decode cX10_mend 51 = .ok (.iaload, 1) := by decide +kernel
theorem dX10_mend_52 : decode cX10_mend 52 = .ok (.invokevirtual 62, 3) := by decide +kernel
theorem dX10_mend_55 : decode cX10_mend 55 = .ok (.aload_n 0, 1) := by decide +kernel
theorem dX10_mend_56 : decode cX10_mend 56 = .ok (.iload_n 1, 1) := by decide +kernel
theorem dX10_mend_57 : decode cX10_mend 57 = .ok (.iconst 0, 1) := by decide +kernel
theorem dX10_mend_58 : decode cX10_mend 58 = .ok (.invokevirtual 77, 3) := by decide +kernel
theorem dX10_mend_61 : decode cX10_mend 61 = .ok (.invokestatic 84, 3) := by decide +kernel
theorem dX10_mend_64 : decode cX10_mend 64 = .ok (.ireturn, 1) := by decide +kernel
theorem dX10_drawOf_0 : decode cX10_drawOf 0 = .ok (.aload_n 0, 1) := by decide +kernel
theorem dX10_drawOf_1 : decode cX10_drawOf 1 = .ok (.aload_n 0, 1) := by decide +kernel
theorem dX10_drawOf_2 : decode cX10_drawOf 2 = .ok (.getfield 132, 3) := by decide +kernel
theorem dX10_drawOf_5 : decode cX10_drawOf 5 = .ok (.ldc2_w 136, 3) := by decide +kernel
theorem dX10_drawOf_8 : decode cX10_drawOf 8 = .ok (.lmul, 1) := by decide +kernel
theorem dX10_drawOf_9 : decode cX10_drawOf 9 = .ok (.ldc2_w 138, 3) := by decide +kernel
theorem dX10_drawOf_12 : decode cX10_drawOf 12 = .ok (.ladd, 1) := by decide +kernel
theorem dX10_drawOf_13 : decode cX10_drawOf 13 = .ok (.ldc2_w 140, 3) := by decide +kernel
theorem dX10_drawOf_16 : decode cX10_drawOf 16 = .ok (.lrem, 1) := by decide +kernel
theorem dX10_drawOf_17 : decode cX10_drawOf 17 = .ok (.putfield 132, 3) := by decide +kernel
theorem dX10_drawOf_20 : decode cX10_drawOf 20 = .ok (.aload_n 0, 1) := by decide +kernel
theorem dX10_drawOf_21 : decode cX10_drawOf 21 = .ok (.getfield 132, 3) := by decide +kernel
theorem dX10_drawOf_24 : decode cX10_drawOf 24 = .ok (.ldc2_w 142, 3) := by decide +kernel
theorem dX10_drawOf_27 : decode cX10_drawOf 27 = .ok (.ldiv, 1) := by decide +kernel
theorem dX10_drawOf_28 : decode cX10_drawOf 28 = .ok (.iload_n 1, 1) := by decide +kernel
theorem dX10_drawOf_29 : decode cX10_drawOf 29 = .ok (.i2l, 1) := by decide +kernel
theorem dX10_drawOf_30 : decode cX10_drawOf 30 = .ok (.lrem, 1) := by decide +kernel
theorem dX10_drawOf_31 : decode cX10_drawOf 31 = .ok (.l2i, 1) := by decide +kernel
theorem dX10_drawOf_32 : decode cX10_drawOf 32 = .ok (.ireturn, 1) := by decide +kernel
theorem dX10_drift_0 : decode cX10_drift 0 = .ok (.iload_n 1, 1) := by decide +kernel
theorem dX10_drift_1 : decode cX10_drift 1 = .ok (.iconst 1, 1) := by decide +kernel
theorem dX10_drift_2 : decode cX10_drift 2 = .ok (.bipush 20, 2) := by decide +kernel
theorem dX10_drift_4 : decode cX10_drift 4 = .ok (.invokestatic 46, 3) := by decide +kernel
theorem dX10_drift_7 : decode cX10_drift 7 = .ok (.ifCond .ne 6, 3) := by decide +kernel
theorem dX10_drift_10 : decode cX10_drift 10 = .ok (.ldc 117, 2) := by decide +kernel
theorem dX10_drift_12 : decode cX10_drift 12 = .ok (.ireturn, 1) := by decide +kernel
theorem dX10_drift_13 : decode cX10_drift 13 = .ok (.iconst 0, 1) := by decide +kernel
theorem dX10_drift_14 : decode cX10_drift 14 = .ok (.istore_n 2, 1) := by decide +kernel
theorem dX10_drift_15 : decode cX10_drift 15 = .ok (.iload_n 2, 1) := by decide +kernel
theorem dX10_drift_16 : decode cX10_drift 16 = .ok (.iload_n 1, 1) := by decide +kernel
theorem dX10_drift_17 : decode cX10_drift 17 = .ok (.if_icmp .ge 81, 3) := by decide +kernel
theorem dX10_drift_20 : decode cX10_drift 20 = .ok (.aload_n 0, 1) := by decide +kernel
theorem dX10_drift_21 : decode cX10_drift 21 = .ok (.invokevirtual 122, 3) := by decide +kernel
theorem dX10_drift_24 : decode cX10_drift 24 = .ok (.aload_n 0, 1) := by decide +kernel
theorem dX10_drift_25 : decode cX10_drift 25 = .ok (.iconst 5, 1) := by decide +kernel
theorem dX10_drift_26 : decode cX10_drift 26 = .ok (.invokevirtual 144, 3) := by decide +kernel
theorem dX10_drift_29 : decode cX10_drift 29 = .ok (.istore_n 3, 1) := by decide +kernel
theorem dX10_drift_30 : decode cX10_drift 30 = .ok (.aload_n 0, 1) := by decide +kernel
theorem dX10_drift_31 : decode cX10_drift 31 = .ok (.aload_n 0, 1) := by decide +kernel
theorem dX10_drift_32 : decode cX10_drift 32 = .ok (.getfield 7, 3) := by decide +kernel
theorem dX10_drift_35 : decode cX10_drift 35 = .ok (.iconst 0, 1) := by decide +kernel
theorem dX10_drift_36 : decode cX10_drift 36 = .ok (.iaload, 1) := by decide +kernel
theorem dX10_drift_37 : decode cX10_drift 37 = .ok (.invokevirtual 144, 3) := by decide +kernel
theorem dX10_drift_40 : decode cX10_drift 40 = .ok (.istore 4, 2) := by decide +kernel
theorem dX10_drift_42 : decode cX10_drift 42 = .ok (.iload_n 3, 1) := by decide +kernel
theorem dX10_drift_43 : decode cX10_drift 43 = .ok (.iconst 3, 1) := by decide +kernel
theorem dX10_drift_44 : decode cX10_drift 44 = .ok (.if_icmp .ge 13, 3) := by decide +kernel
theorem dX10_drift_47 : decode cX10_drift 47 = .ok (.aload_n 0, 1) := by decide +kernel
theorem dX10_drift_48 : decode cX10_drift 48 = .ok (.iload 4, 2) := by decide +kernel
theorem dX10_drift_50 : decode cX10_drift 50 = .ok (.invokevirtual 125, 3) := by decide +kernel
theorem dX10_drift_53 : decode cX10_drift 53 = .ok (.pop, 1) := by decide +kernel
theorem dX10_drift_54 : decode cX10_drift 54 = .ok (.goto 38, 3) := by decide +kernel
theorem dX10_drift_57 : decode cX10_drift 57 = .ok (.aload_n 0, 1) := by decide +kernel
theorem dX10_drift_58 : decode cX10_drift 58 = .ok (.aload_n 0, 1) := by decide +kernel
theorem dX10_drift_59 : decode cX10_drift 59 = .ok (.iload 4, 2) := by decide +kernel
theorem dX10_drift_61 : decode cX10_drift 61 = .ok (.iconst 0, 1) := by decide +kernel
theorem dX10_drift_62 : decode cX10_drift 62 = .ok (.invokevirtual 54, 3) := by decide +kernel
theorem dX10_drift_65 : decode cX10_drift 65 = .ok (.invokevirtual 144, 3) := by decide +kernel
theorem dX10_drift_68 : decode cX10_drift 68 = .ok (.istore 5, 2) := by decide +kernel
theorem dX10_drift_70 : decode cX10_drift 70 = .ok (.aload_n 0, 1) := by decide +kernel
theorem dX10_drift_71 : decode cX10_drift 71 = .ok (.iload 4, 2) := by decide +kernel
theorem dX10_drift_73 : decode cX10_drift 73 = .ok (.iload 5, 2) := by decide +kernel
theorem dX10_drift_75 : decode cX10_drift 75 = .ok (.iconst 0, 1) := by decide +kernel
theorem dX10_drift_76 : decode cX10_drift 76 = .ok (.invokevirtual 73, 3) := by decide +kernel
theorem dX10_drift_79 : decode cX10_drift 79 = .ok (.iconst 1, 1) := by decide +kernel
theorem dX10_drift_80 : decode cX10_drift 80 = .ok (.if_icmp .ne 12, 3) := by decide +kernel
theorem dX10_drift_83 : decode cX10_drift 83 = .ok (.aload_n 0, 1) := by decide +kernel
theorem dX10_drift_84 : decode cX10_drift 84 = .ok (.iload 4, 2) := by decide +kernel
theorem dX10_drift_86 : decode cX10_drift 86 = .ok (.iload 5, 2) := by decide +kernel
theorem dX10_drift_88 : decode cX10_drift 88 = .ok (.invokevirtual 129, 3) := by decide +kernel
theorem dX10_drift_91 : decode cX10_drift 91 = .ok (.pop, 1) := by decide +kernel
theorem dX10_drift_92 : decode cX10_drift 92 = .ok (.iinc 2 1, 3) := by decide +kernel
theorem dX10_drift_95 : decode cX10_drift 95 = .ok (.goto (-80), 3) := by decide +kernel
theorem dX10_drift_98 : decode cX10_drift 98 = .ok (.aload_n 0, 1) := by decide +kernel
theorem dX10_drift_99 : decode cX10_drift 99 = .ok (.invokevirtual 104, 3) := by decide +kernel
theorem dX10_drift_102 : decode cX10_drift 102 = .ok (.ireturn, 1) := by decide +kernel
theorem dX10_undo_0 : decode cX10_undo 0 = .ok (.iload_n 1, 1) := by decide +kernel
theorem dX10_undo_1 : decode cX10_undo 1 = .ok (.iconst 1, 1) := by decide +kernel
theorem dX10_undo_2 : decode cX10_undo 2 = .ok (.bipush 20, 2) := by decide +kernel
theorem dX10_undo_4 : decode cX10_undo 4 = .ok (.invokestatic 46, 3) := by decide +kernel
theorem dX10_undo_7 : decode cX10_undo 7 = .ok (.ifCond .ne 6, 3) := by decide +kernel
theorem dX10_undo_10 : decode cX10_undo 10 = .ok (.ldc 117, 2) := by decide +kernel
theorem dX10_undo_12 : decode cX10_undo 12 = .ok (.ireturn, 1) := by decide +kernel
theorem dX10_undo_13 : decode cX10_undo 13 = .ok (.iload_n 1, 1) := by decide +kernel
theorem dX10_undo_14 : decode cX10_undo 14 = .ok (.aload_n 0, 1) := by decide +kernel
theorem dX10_undo_15 : decode cX10_undo 15 = .ok (.getfield 69, 3) := by decide +kernel
theorem dX10_undo_18 : decode cX10_undo 18 = .ok (.if_icmp .le 6, 3) := by decide +kernel
theorem dX10_undo_21 : decode cX10_undo 21 = .ok (.ldc 128, 2) := by decide +kernel
theorem dX10_undo_23 : decode cX10_undo 23 = .ok (.ireturn, 1) := by decide +kernel
theorem dX10_undo_24 : decode cX10_undo 24 = .ok (.aload_n 0, 1) := by decide +kernel
theorem dX10_undo_25 : decode cX10_undo 25 = .ok (.dup, 1) := by decide +kernel
theorem dX10_undo_26 : decode cX10_undo 26 = .ok (.getfield 69, 3) := by decide +kernel
theorem dX10_undo_29 : decode cX10_undo 29 = .ok (.iload_n 1, 1) := by decide +kernel
theorem dX10_undo_30 : decode cX10_undo 30 = .ok (.isub, 1) := by decide +kernel
theorem dX10_undo_31 : decode cX10_undo 31 = .ok (.putfield 69, 3) := by decide +kernel
theorem dX10_undo_34 : decode cX10_undo 34 = .ok (.iconst 0, 1) := by decide +kernel
theorem dX10_undo_35 : decode cX10_undo 35 = .ok (.istore_n 2, 1) := by decide +kernel
theorem dX10_undo_36 : decode cX10_undo 36 = .ok (.iload_n 2, 1) := by decide +kernel
theorem dX10_undo_37 : decode cX10_undo 37 = .ok (.sipush 139, 3) := by decide +kernel
theorem dX10_undo_40 : decode cX10_undo 40 = .ok (.if_icmp .ge 30, 3) := by decide +kernel
theorem dX10_undo_43 : decode cX10_undo 43 = .ok (.aload_n 0, 1) := by decide +kernel
theorem dX10_undo_44 : decode cX10_undo 44 = .ok (.getfield 7, 3) := by decide +kernel
theorem dX10_undo_47 : decode cX10_undo 47 = .ok (.iload_n 2, 1) := by decide +kernel
theorem dX10_undo_48 : decode cX10_undo 48 = .ok (.aload_n 0, 1) := by decide +kernel
theorem dX10_undo_49 : decode cX10_undo 49 = .ok (.getfield 13, 3) := by decide +kernel
theorem dX10_undo_52 : decode cX10_undo 52 = .ok (.sipush 139, 3) := by decide +kernel
theorem dX10_undo_55 : decode cX10_undo 55 = .ok (.aload_n 0, 1) := by decide +kernel
theorem dX10_undo_56 : decode cX10_undo 56 = .ok (.getfield 69, 3) := by decide +kernel
theorem dX10_undo_59 : decode cX10_undo 59 = .ok (.imul, 1) := by decide +kernel
theorem dX10_undo_60 : decode cX10_undo 60 = .ok (.iload_n 2, 1) := by decide +kernel
theorem dX10_undo_61 : decode cX10_undo 61 = .ok (.iadd, 1) := by decide +kernel
theorem dX10_undo_62 : decode cX10_undo 62 = .ok (.iaload, 1) := by decide +kernel
theorem dX10_undo_63 : decode cX10_undo 63 = .ok (.iastore, 1) := by decide +kernel
theorem dX10_undo_64 : decode cX10_undo 64 = .ok (.iinc 2 1, 3) := by decide +kernel
theorem dX10_undo_67 : decode cX10_undo 67 = .ok (.goto (-31), 3) := by decide +kernel
theorem dX10_undo_70 : decode cX10_undo 70 = .ok (.aload_n 0, 1) := by decide +kernel
theorem dX10_undo_71 : decode cX10_undo 71 = .ok (.getfield 7, 3) := by decide +kernel
theorem dX10_undo_74 : decode cX10_undo 74 = .ok (.iconst 1, 1) := by decide +kernel
theorem dX10_undo_75 : decode cX10_undo 75 = .ok (.iaload, 1) := by decide +kernel
theorem dX10_undo_76 : decode cX10_undo 76 = .ok (.ireturn, 1) := by decide +kernel
theorem dX10_weighs_0 : decode cX10_weighs 0 = .ok (.lconst 1, 1) := by decide +kernel
theorem dX10_weighs_1 : decode cX10_weighs 1 = .ok (.lstore 5, 2) := by decide +kernel
theorem dX10_weighs_3 : decode cX10_weighs 3 = .ok (.iconst 2, 1) := by decide +kernel
theorem dX10_weighs_4 : decode cX10_weighs 4 = .ok (.istore 7, 2) := by decide +kernel
theorem dX10_weighs_6 : decode cX10_weighs 6 = .ok (.iload 7, 2) := by decide +kernel
theorem dX10_weighs_8 : decode cX10_weighs 8 = .ok (.iload_n 1, 1) := by decide +kernel
theorem dX10_weighs_9 : decode cX10_weighs 9 = .ok (.if_icmp .gt 17, 3) := by decide +kernel
theorem dX10_weighs_12 : decode cX10_weighs 12 = .ok (.lload 5, 2) := by decide +kernel
theorem dX10_weighs_14 : decode cX10_weighs 14 = .ok (.iload 7, 2) := by decide +kernel
theorem dX10_weighs_16 : decode cX10_weighs 16 = .ok (.i2l, 1) := by decide +kernel
theorem dX10_weighs_17 : decode cX10_weighs 17 = .ok (.lmul, 1) := by decide +kernel
theorem dX10_weighs_18 : decode cX10_weighs 18 = .ok (.lstore 5, 2) := by decide +kernel
theorem dX10_weighs_20 : decode cX10_weighs 20 = .ok (.iinc 7 1, 3) := by decide +kernel
theorem dX10_weighs_23 : decode cX10_weighs 23 = .ok (.goto (-17), 3) := by decide +kernel
theorem dX10_weighs_26 : decode cX10_weighs 26 = .ok (.aload_n 0, 1) := by decide +kernel
theorem dX10_weighs_27 : decode cX10_weighs 27 = .ok (.lconst 0, 1) := by decide +kernel
theorem dX10_weighs_28 : decode cX10_weighs 28 = .ok (.putfield 147, 3) := by decide +kernel
theorem dX10_weighs_31 : decode cX10_weighs 31 = .ok (.iconst 0, 1) := by decide +kernel
theorem dX10_weighs_32 : decode cX10_weighs 32 = .ok (.istore 7, 2) := by decide +kernel
theorem dX10_weighs_34 : decode cX10_weighs 34 = .ok (.iload 7, 2) := by decide +kernel
theorem dX10_weighs_36 : decode cX10_weighs 36 = .ok (.iload_n 1, 1) := by decide +kernel
theorem dX10_weighs_37 : decode cX10_weighs 37 = .ok (.if_icmp .gt 57, 3) := by decide +kernel
theorem dX10_weighs_40 : decode cX10_weighs 40 = .ok (.aload_n 0, 1) := by decide +kernel
theorem dX10_weighs_41 : decode cX10_weighs 41 = .ok (.getfield 30, 3) := by decide +kernel
theorem dX10_weighs_44 : decode cX10_weighs 44 = .ok (.iload 7, 2) := by decide +kernel
theorem dX10_weighs_46 : decode cX10_weighs 46 = .ok (.lload 5, 2) := by decide +kernel
theorem dX10_weighs_48 : decode cX10_weighs 48 = .ok (.lastore, 1) := by decide +kernel
theorem dX10_weighs_49 : decode cX10_weighs 49 = .ok (.aload_n 0, 1) := by decide +kernel
theorem dX10_weighs_50 : decode cX10_weighs 50 = .ok (.dup, 1) := by decide +kernel
theorem dX10_weighs_51 : decode cX10_weighs 51 = .ok (.getfield 147, 3) := by decide +kernel
theorem dX10_weighs_54 : decode cX10_weighs 54 = .ok (.lload 5, 2) := by decide +kernel
theorem dX10_weighs_56 : decode cX10_weighs 56 = .ok (.ladd, 1) := by decide +kernel
theorem dX10_weighs_57 : decode cX10_weighs 57 = .ok (.putfield 147, 3) := by decide +kernel
theorem dX10_weighs_60 : decode cX10_weighs 60 = .ok (.lload 5, 2) := by decide +kernel
theorem dX10_weighs_62 : decode cX10_weighs 62 = .ok (.iload_n 2, 1) := by decide +kernel
theorem dX10_weighs_63 : decode cX10_weighs 63 = .ok (.iload_n 1, 1) := by decide +kernel
theorem dX10_weighs_64 : decode cX10_weighs 64 = .ok (.iload 7, 2) := by decide +kernel
theorem dX10_weighs_66 : decode cX10_weighs 66 = .ok (.isub, 1) := by decide +kernel
theorem dX10_weighs_67 : decode cX10_weighs 67 = .ok (.iload_n 3, 1) := by decide +kernel
theorem dX10_weighs_68 : decode cX10_weighs 68 = .ok (.if_icmp .le 8, 3) := by decide +kernel
theorem dX10_weighs_71 : decode cX10_weighs 71 = .ok (.iload 4, 2) := by decide +kernel
theorem dX10_weighs_73 : decode cX10_weighs 73 = .ok (.goto 4, 3) := by decide +kernel
theorem dX10_weighs_76 : decode cX10_weighs 76 = .ok (.iconst 0, 1) := by decide +kernel
theorem dX10_weighs_77 : decode cX10_weighs 77 = .ok (.iadd, 1) := by decide +kernel
theorem dX10_weighs_78 : decode cX10_weighs 78 = .ok (.i2l, 1) := by decide +kernel
theorem dX10_weighs_79 : decode cX10_weighs 79 = .ok (.lmul, 1) := by decide +kernel
theorem dX10_weighs_80 : decode cX10_weighs 80 = .ok (.iload 7, 2) := by decide +kernel
theorem dX10_weighs_82 : decode cX10_weighs 82 = .ok (.iconst 1, 1) := by decide +kernel
theorem dX10_weighs_83 : decode cX10_weighs 83 = .ok (.iadd, 1) := by decide +kernel
theorem dX10_weighs_84 : decode cX10_weighs 84 = .ok (.i2l, 1) := by decide +kernel
theorem dX10_weighs_85 : decode cX10_weighs 85 = .ok (.ldiv, 1) := by decide +kernel
theorem dX10_weighs_86 : decode cX10_weighs 86 = .ok (.lstore 5, 2) := by decide +kernel
theorem dX10_weighs_88 : decode cX10_weighs 88 = .ok (.iinc 7 1, 3) := by decide +kernel
theorem dX10_weighs_91 : decode cX10_weighs 91 = .ok (.goto (-57), 3) := by decide +kernel
theorem dX10_weighs_94 : decode cX10_weighs 94 = .ok (.return_, 1) := by decide +kernel
theorem dX10_gcd_0 : decode cX10_gcd 0 = .ok (.lload_n 0, 1) := by decide +kernel
theorem dX10_gcd_1 : decode cX10_gcd 1 = .ok (.lstore 4, 2) := by decide +kernel
theorem dX10_gcd_3 : decode cX10_gcd 3 = .ok (.lload_n 2, 1) := by decide +kernel
theorem dX10_gcd_4 : decode cX10_gcd 4 = .ok (.lstore 6, 2) := by decide +kernel
theorem dX10_gcd_6 : decode cX10_gcd 6 = .ok (.lload 6, 2) := by decide +kernel
theorem dX10_gcd_8 : decode cX10_gcd 8 = .ok (.lconst 0, 1) := by decide +kernel
theorem dX10_gcd_9 : decode cX10_gcd 9 = .ok (.lcmp, 1) := by decide +kernel
theorem dX10_gcd_10 : decode cX10_gcd 10 = .ok (.ifCond .eq 21, 3) := by decide +kernel
theorem dX10_gcd_13 : decode cX10_gcd 13 = .ok (.lload 4, 2) := by decide +kernel
theorem dX10_gcd_15 : decode cX10_gcd 15 = .ok (.lload 6, 2) := by decide +kernel
theorem dX10_gcd_17 : decode cX10_gcd 17 = .ok (.lrem, 1) := by decide +kernel
theorem dX10_gcd_18 : decode cX10_gcd 18 = .ok (.lstore 8, 2) := by decide +kernel
theorem dX10_gcd_20 : decode cX10_gcd 20 = .ok (.lload 6, 2) := by decide +kernel
theorem dX10_gcd_22 : decode cX10_gcd 22 = .ok (.lstore 4, 2) := by decide +kernel
theorem dX10_gcd_24 : decode cX10_gcd 24 = .ok (.lload 8, 2) := by decide +kernel
theorem dX10_gcd_26 : decode cX10_gcd 26 = .ok (.lstore 6, 2) := by decide +kernel
theorem dX10_gcd_28 : decode cX10_gcd 28 = .ok (.goto (-22), 3) := by decide +kernel
theorem dX10_gcd_31 : decode cX10_gcd 31 = .ok (.lload 4, 2) := by decide +kernel
theorem dX10_gcd_33 : decode cX10_gcd 33 = .ok (.lreturn, 1) := by decide +kernel
theorem dX10_part_0 : decode cX10_part 0 = .ok (.iload 4, 2) := by decide +kernel
theorem dX10_part_2 : decode cX10_part 2 = .ok (.ifCond .ne 7, 3) := by decide +kernel
theorem dX10_part_5 : decode cX10_part 5 = .ok (.lload_n 0, 1) := by decide +kernel
theorem dX10_part_6 : decode cX10_part 6 = .ok (.goto 4, 3) := by decide +kernel
theorem dX10_part_9 : decode cX10_part 9 = .ok (.lload_n 2, 1) := by decide +kernel
theorem dX10_part_10 : decode cX10_part 10 = .ok (.lload_n 0, 1) := by decide +kernel
theorem dX10_part_11 : decode cX10_part 11 = .ok (.lload_n 2, 1) := by decide +kernel
theorem dX10_part_12 : decode cX10_part 12 = .ok (.invokestatic 150, 3) := by decide +kernel
theorem dX10_part_15 : decode cX10_part 15 = .ok (.ldiv, 1) := by decide +kernel
theorem dX10_part_16 : decode cX10_part 16 = .ok (.lreturn, 1) := by decide +kernel
theorem dX10_run_0 : decode cX10_run 0 = .ok (.aload_n 0, 1) := by decide +kernel
theorem dX10_run_1 : decode cX10_run 1 = .ok (.iload_n 1, 1) := by decide +kernel
theorem dX10_run_2 : decode cX10_run 2 = .ok (.invokevirtual 50, 3) := by decide +kernel
theorem dX10_run_5 : decode cX10_run 5 = .ok (.ifCond .ne 7, 3) := by decide +kernel
theorem dX10_run_8 : decode cX10_run 8 = .ok (.ldc2_w 154, 3) := by decide +kernel
theorem dX10_run_11 : decode cX10_run 11 = .ok (.lreturn, 1) := by decide +kernel
theorem dX10_run_12 : decode cX10_run 12 = .ok (.iload_n 2, 1) := by decide +kernel
theorem dX10_run_13 : decode cX10_run 13 = .ok (.iconst 0, 1) := by decide +kernel
theorem dX10_run_14 : decode cX10_run 14 = .ok (.bipush 6, 2) := by decide +kernel
theorem dX10_run_16 : decode cX10_run 16 = .ok (.invokestatic 46, 3) := by decide +kernel
theorem dX10_run_19 : decode cX10_run 19 = .ok (.ifCond .eq 12, 3) := by decide +kernel
theorem dX10_run_22 : decode cX10_run 22 = .ok (.iload_n 3, 1) := by decide +kernel
theorem dX10_run_23 : decode cX10_run 23 = .ok (.iconst 0, 1) := by decide +kernel
theorem dX10_run_24 : decode cX10_run 24 = .ok (.iconst 5, 1) := by decide +kernel
theorem dX10_run_25 : decode cX10_run 25 = .ok (.invokestatic 46, 3) := by decide +kernel
theorem dX10_run_28 : decode cX10_run 28 = .ok (.ifCond .ne 7, 3) := by decide +kernel
theorem dX10_run_31 : decode cX10_run 31 = .ok (.ldc2_w 156, 3) := by decide +kernel
theorem dX10_run_34 : decode cX10_run 34 = .ok (.lreturn, 1) := by decide +kernel
theorem dX10_run_35 : decode cX10_run 35 = .ok (.aload_n 0, 1) := by decide +kernel
theorem dX10_run_36 : decode cX10_run 36 = .ok (.iload_n 1, 1) := by decide +kernel
theorem dX10_run_37 : decode cX10_run 37 = .ok (.iconst 0, 1) := by decide +kernel
theorem dX10_run_38 : decode cX10_run 38 = .ok (.invokevirtual 54, 3) := by decide +kernel
theorem dX10_run_41 : decode cX10_run 41 = .ok (.istore 4, 2) := by decide +kernel
theorem dX10_run_43 : decode cX10_run 43 = .ok (.aload_n 0, 1) := by decide +kernel
theorem dX10_run_44 : decode cX10_run 44 = .ok (.iload 4, 2) := by decide +kernel
theorem dX10_run_46 : decode cX10_run 46 = .ok (.aload_n 0, 1) := by decide +kernel
theorem dX10_run_47 : decode cX10_run 47 = .ok (.iload_n 1, 1) := by decide +kernel
theorem dX10_run_48 : decode cX10_run 48 = .ok (.iconst 1, 1) := by decide +kernel
theorem dX10_run_49 : decode cX10_run 49 = .ok (.invokevirtual 54, 3) := by decide +kernel
theorem dX10_run_52 : decode cX10_run 52 = .ok (.aload_n 0, 1) := by decide +kernel
theorem dX10_run_53 : decode cX10_run 53 = .ok (.iload_n 1, 1) := by decide +kernel
theorem dX10_run_54 : decode cX10_run 54 = .ok (.iconst 2, 1) := by decide +kernel
theorem dX10_run_55 : decode cX10_run 55 = .ok (.invokevirtual 54, 3) := by decide +kernel
theorem dX10_run_58 : decode cX10_run 58 = .ok (.iload_n 2, 1) := by decide +kernel
theorem dX10_run_59 : decode cX10_run 59 = .ok (.invokevirtual 158, 3) := by decide +kernel
theorem dX10_run_62 : decode cX10_run 62 = .ok (.lconst 0, 1) := by decide +kernel
theorem dX10_run_63 : decode cX10_run 63 = .ok (.lstore 5, 2) := by decide +kernel
theorem dX10_run_65 : decode cX10_run 65 = .ok (.lconst 0, 1) := by decide +kernel
theorem dX10_run_66 : decode cX10_run 66 = .ok (.lstore 7, 2) := by decide +kernel
theorem dX10_run_68 : decode cX10_run 68 = .ok (.iconst 0, 1) := by decide +kernel
theorem dX10_run_69 : decode cX10_run 69 = .ok (.istore 9, 2) := by decide +kernel
theorem dX10_run_71 : decode cX10_run 71 = .ok (.iload 9, 2) := by decide +kernel
theorem dX10_run_73 : decode cX10_run 73 = .ok (.iload 4, 2) := by decide +kernel
theorem dX10_run_75 : decode cX10_run 75 = .ok (.if_icmp .gt 55, 3) := by decide +kernel
theorem dX10_run_78 : decode cX10_run 78 = .ok (.lload 5, 2) := by decide +kernel
theorem dX10_run_80 : decode cX10_run 80 = .ok (.iload 4, 2) := by decide +kernel
theorem dX10_run_82 : decode cX10_run 82 = .ok (.iload 9, 2) := by decide +kernel
theorem dX10_run_84 : decode cX10_run 84 = .ok (.isub, 1) := by decide +kernel
theorem dX10_run_85 : decode cX10_run 85 = .ok (.aload_n 0, 1) := by decide +kernel
theorem dX10_run_86 : decode cX10_run 86 = .ok (.iload_n 1, 1) := by decide +kernel
theorem dX10_run_87 : decode cX10_run 87 = .ok (.iconst 2, 1) := by decide +kernel
theorem dX10_run_88 : decode cX10_run 88 = .ok (.invokevirtual 54, 3) := by decide +kernel
theorem dX10_run_91 : decode cX10_run 91 = .ok (.if_icmp .gt 13, 3) := by decide +kernel
theorem dX10_run_94 : decode cX10_run 94 = .ok (.aload_n 0, 1) := by decide +kernel
theorem dX10_run_95 : decode cX10_run 95 = .ok (.getfield 30, 3) := by decide +kernel
theorem dX10_run_98 : decode cX10_run 98 = .ok (.iload 9, 2) := by decide +kernel
theorem dX10_run_100 : decode cX10_run 100 = .ok (.laload, 1) := by decide +kernel
theorem dX10_run_101 : decode cX10_run 101 = .ok (.goto 4, 3) := by decide +kernel
theorem dX10_run_104 : decode cX10_run 104 = .ok (.lconst 0, 1) := by decide +kernel
theorem dX10_run_105 : decode cX10_run 105 = .ok (.ladd, 1) := by decide +kernel
theorem dX10_run_106 : decode cX10_run 106 = .ok (.lstore 5, 2) := by decide +kernel
theorem dX10_run_108 : decode cX10_run 108 = .ok (.lload 7, 2) := by decide +kernel
theorem dX10_run_110 : decode cX10_run 110 = .ok (.iload 9, 2) := by decide +kernel
theorem dX10_run_112 : decode cX10_run 112 = .ok (.i2l, 1) := by decide +kernel
theorem dX10_run_113 : decode cX10_run 113 = .ok (.aload_n 0, 1) := by decide +kernel
theorem dX10_run_114 : decode cX10_run 114 = .ok (.getfield 30, 3) := by decide +kernel
theorem dX10_run_117 : decode cX10_run 117 = .ok (.iload 9, 2) := by decide +kernel
theorem dX10_run_119 : decode cX10_run 119 = .ok (.laload, 1) := by decide +kernel
theorem dX10_run_120 : decode cX10_run 120 = .ok (.lmul, 1) := by decide +kernel
theorem dX10_run_121 : decode cX10_run 121 = .ok (.ladd, 1) := by decide +kernel
theorem dX10_run_122 : decode cX10_run 122 = .ok (.lstore 7, 2) := by decide +kernel
theorem dX10_run_124 : decode cX10_run 124 = .ok (.iinc 9 1, 3) := by decide +kernel
theorem dX10_run_127 : decode cX10_run 127 = .ok (.goto (-56), 3) := by decide +kernel
theorem dX10_run_130 : decode cX10_run 130 = .ok (.iload_n 3, 1) := by decide +kernel
theorem dX10_run_131 : decode cX10_run 131 = .ok (.iconst 2, 1) := by decide +kernel
theorem dX10_run_132 : decode cX10_run 132 = .ok (.if_icmp .ge 13, 3) := by decide +kernel
theorem dX10_run_135 : decode cX10_run 135 = .ok (.aload_n 0, 1) := by decide +kernel
theorem dX10_run_136 : decode cX10_run 136 = .ok (.getfield 30, 3) := by decide +kernel
theorem dX10_run_139 : decode cX10_run 139 = .ok (.iload 4, 2) := by decide +kernel
theorem dX10_run_141 : decode cX10_run 141 = .ok (.laload, 1) := by decide +kernel
theorem dX10_run_142 : decode cX10_run 142 = .ok (.goto 15, 3) := by decide +kernel
theorem dX10_run_145 : decode cX10_run 145 = .ok (.iload_n 3, 1) := by decide +kernel
theorem dX10_run_146 : decode cX10_run 146 = .ok (.iconst 4, 1) := by decide +kernel
theorem dX10_run_147 : decode cX10_run 147 = .ok (.if_icmp .ge 8, 3) := by decide +kernel
theorem dX10_run_150 : decode cX10_run 150 = .ok (.lload 5, 2) := by decide +kernel
theorem dX10_run_152 : decode cX10_run 152 = .ok (.goto 5, 3) := by decide +kernel
theorem dX10_run_155 : decode cX10_run 155 = .ok (.lload 7, 2) := by decide +kernel
theorem dX10_run_157 : decode cX10_run 157 = .ok (.aload_n 0, 1) := by decide +kernel
theorem dX10_run_158 : decode cX10_run 158 = .ok (.getfield 147, 3) := by decide +kernel
theorem dX10_run_161 : decode cX10_run 161 = .ok (.iload_n 3, 1) := by decide +kernel
theorem dX10_run_162 : decode cX10_run 162 = .ok (.iconst 2, 1) := by decide +kernel
theorem dX10_run_163 : decode cX10_run 163 = .ok (.irem, 1) := by decide +kernel
theorem dX10_run_164 : decode cX10_run 164 = .ok (.invokestatic 162, 3) := by decide +kernel
theorem dX10_run_167 : decode cX10_run 167 = .ok (.lreturn, 1) := by decide +kernel
theorem dX10_over_0 : decode cX10_over 0 = .ok (.aload_n 0, 1) := by decide +kernel
theorem dX10_over_1 : decode cX10_over 1 = .ok (.iload_n 1, 1) := by decide +kernel
theorem dX10_over_2 : decode cX10_over 2 = .ok (.invokevirtual 50, 3) := by decide +kernel
theorem dX10_over_5 : decode cX10_over 5 = .ok (.ifCond .ne 7, 3) := by decide +kernel
theorem dX10_over_8 : decode cX10_over 8 = .ok (.ldc2_w 154, 3) := by decide +kernel
theorem dX10_over_11 : decode cX10_over 11 = .ok (.lreturn, 1) := by decide +kernel
theorem dX10_over_12 : decode cX10_over 12 = .ok (.iload_n 2, 1) := by decide +kernel
theorem dX10_over_13 : decode cX10_over 13 = .ok (.iconst 0, 1) := by decide +kernel
theorem dX10_over_14 : decode cX10_over 14 = .ok (.iconst 3, 1) := by decide +kernel
theorem dX10_over_15 : decode cX10_over 15 = .ok (.invokestatic 46, 3) := by decide +kernel
theorem dX10_over_18 : decode cX10_over 18 = .ok (.ifCond .ne 7, 3) := by decide +kernel
theorem dX10_over_21 : decode cX10_over 21 = .ok (.ldc2_w 156, 3) := by decide +kernel
theorem dX10_over_24 : decode cX10_over 24 = .ok (.lreturn, 1) := by decide +kernel
theorem dX10_over_25 : decode cX10_over 25 = .ok (.aload_n 0, 1) := by decide +kernel
theorem dX10_over_26 : decode cX10_over 26 = .ok (.iload_n 1, 1) := by decide +kernel
theorem dX10_over_27 : decode cX10_over 27 = .ok (.iconst 0, 1) := by decide +kernel
theorem dX10_over_28 : decode cX10_over 28 = .ok (.invokevirtual 54, 3) := by decide +kernel
theorem dX10_over_31 : decode cX10_over 31 = .ok (.istore_n 3, 1) := by decide +kernel
theorem dX10_over_32 : decode cX10_over 32 = .ok (.aload_n 0, 1) := by decide +kernel
theorem dX10_over_33 : decode cX10_over 33 = .ok (.iload_n 1, 1) := by decide +kernel
theorem dX10_over_34 : decode cX10_over 34 = .ok (.iconst 1, 1) := by decide +kernel
theorem dX10_over_35 : decode cX10_over 35 = .ok (.invokevirtual 54, 3) := by decide +kernel
theorem dX10_over_38 : decode cX10_over 38 = .ok (.istore 4, 2) := by decide +kernel
theorem dX10_over_40 : decode cX10_over 40 = .ok (.aload_n 0, 1) := by decide +kernel
theorem dX10_over_41 : decode cX10_over 41 = .ok (.iload_n 3, 1) := by decide +kernel
theorem dX10_over_42 : decode cX10_over 42 = .ok (.iload 4, 2) := by decide +kernel
theorem dX10_over_44 : decode cX10_over 44 = .ok (.iconst 0, 1) := by decide +kernel
theorem dX10_over_45 : decode cX10_over 45 = .ok (.iconst 0, 1) := by decide +kernel
theorem dX10_over_46 : decode cX10_over 46 = .ok (.invokevirtual 158, 3) := by decide +kernel
theorem dX10_over_49 : decode cX10_over 49 = .ok (.iload 4, 2) := by decide +kernel
theorem dX10_over_51 : decode cX10_over 51 = .ok (.i2l, 1) := by decide +kernel
theorem dX10_over_52 : decode cX10_over 52 = .ok (.aload_n 0, 1) := by decide +kernel
theorem dX10_over_53 : decode cX10_over 53 = .ok (.getfield 30, 3) := by decide +kernel
theorem dX10_over_56 : decode cX10_over 56 = .ok (.iload_n 3, 1) := by decide +kernel
theorem dX10_over_57 : decode cX10_over 57 = .ok (.laload, 1) := by decide +kernel
theorem dX10_over_58 : decode cX10_over 58 = .ok (.lmul, 1) := by decide +kernel
theorem dX10_over_59 : decode cX10_over 59 = .ok (.aload_n 0, 1) := by decide +kernel
theorem dX10_over_60 : decode cX10_over 60 = .ok (.getfield 147, 3) := by decide +kernel
theorem dX10_over_63 : decode cX10_over 63 = .ok (.iconst 0, 1) := by decide +kernel
theorem dX10_over_64 : decode cX10_over 64 = .ok (.invokestatic 162, 3) := by decide +kernel
theorem dX10_over_67 : decode cX10_over 67 = .ok (.lstore 5, 2) := by decide +kernel
theorem dX10_over_69 : decode cX10_over 69 = .ok (.iload 4, 2) := by decide +kernel
theorem dX10_over_71 : decode cX10_over 71 = .ok (.i2l, 1) := by decide +kernel
theorem dX10_over_72 : decode cX10_over 72 = .ok (.aload_n 0, 1) := by decide +kernel
theorem dX10_over_73 : decode cX10_over 73 = .ok (.getfield 30, 3) := by decide +kernel
theorem dX10_over_76 : decode cX10_over 76 = .ok (.iload_n 3, 1) := by decide +kernel
theorem dX10_over_77 : decode cX10_over 77 = .ok (.laload, 1) := by decide +kernel
theorem dX10_over_78 : decode cX10_over 78 = .ok (.lmul, 1) := by decide +kernel
theorem dX10_over_79 : decode cX10_over 79 = .ok (.aload_n 0, 1) := by decide +kernel
theorem dX10_over_80 : decode cX10_over 80 = .ok (.getfield 147, 3) := by decide +kernel
theorem dX10_over_83 : decode cX10_over 83 = .ok (.iconst 1, 1) := by decide +kernel
theorem dX10_over_84 : decode cX10_over 84 = .ok (.invokestatic 162, 3) := by decide +kernel
theorem dX10_over_87 : decode cX10_over 87 = .ok (.lstore 7, 2) := by decide +kernel
theorem dX10_over_89 : decode cX10_over 89 = .ok (.iload_n 2, 1) := by decide +kernel
theorem dX10_over_90 : decode cX10_over 90 = .ok (.iconst 2, 1) := by decide +kernel
theorem dX10_over_91 : decode cX10_over 91 = .ok (.if_icmp .ge 15, 3) := by decide +kernel
theorem dX10_over_94 : decode cX10_over 94 = .ok (.iload_n 2, 1) := by decide +kernel
theorem dX10_over_95 : decode cX10_over 95 = .ok (.ifCond .ne 8, 3) := by decide +kernel
theorem dX10_over_98 : decode cX10_over 98 = .ok (.lload 5, 2) := by decide +kernel
theorem dX10_over_100 : decode cX10_over 100 = .ok (.goto 5, 3) := by decide +kernel
theorem dX10_over_103 : decode cX10_over 103 = .ok (.lload 7, 2) := by decide +kernel
theorem dX10_over_105 : decode cX10_over 105 = .ok (.lreturn, 1) := by decide +kernel
theorem dX10_over_106 : decode cX10_over 106 = .ok (.iload_n 3, 1) := by decide +kernel
theorem dX10_over_107 : decode cX10_over 107 = .ok (.iconst 1, 1) := by decide +kernel
theorem dX10_over_108 : decode cX10_over 108 = .ok (.iadd, 1) := by decide +kernel
theorem dX10_over_109 : decode cX10_over 109 = .ok (.iload 4, 2) := by decide +kernel
theorem dX10_over_111 : decode cX10_over 111 = .ok (.isub, 1) := by decide +kernel
theorem dX10_over_112 : decode cX10_over 112 = .ok (.i2l, 1) := by decide +kernel
theorem dX10_over_113 : decode cX10_over 113 = .ok (.lload 7, 2) := by decide +kernel
theorem dX10_over_115 : decode cX10_over 115 = .ok (.lmul, 1) := by decide +kernel
theorem dX10_over_116 : decode cX10_over 116 = .ok (.lload 5, 2) := by decide +kernel
theorem dX10_over_118 : decode cX10_over 118 = .ok (.ladd, 1) := by decide +kernel
theorem dX10_over_119 : decode cX10_over 119 = .ok (.lstore 9, 2) := by decide +kernel
theorem dX10_over_121 : decode cX10_over 121 = .ok (.lload 7, 2) := by decide +kernel
theorem dX10_over_123 : decode cX10_over 123 = .ok (.lload 5, 2) := by decide +kernel
theorem dX10_over_125 : decode cX10_over 125 = .ok (.lsub, 1) := by decide +kernel
theorem dX10_over_126 : decode cX10_over 126 = .ok (.lload 9, 2) := by decide +kernel
theorem dX10_over_128 : decode cX10_over 128 = .ok (.lmul, 1) := by decide +kernel
theorem dX10_over_129 : decode cX10_over 129 = .ok (.iload 4, 2) := by decide +kernel
theorem dX10_over_131 : decode cX10_over 131 = .ok (.i2l, 1) := by decide +kernel
theorem dX10_over_132 : decode cX10_over 132 = .ok (.lload 7, 2) := by decide +kernel
theorem dX10_over_134 : decode cX10_over 134 = .ok (.lmul, 1) := by decide +kernel
theorem dX10_over_135 : decode cX10_over 135 = .ok (.lload 7, 2) := by decide +kernel
theorem dX10_over_137 : decode cX10_over 137 = .ok (.lmul, 1) := by decide +kernel
theorem dX10_over_138 : decode cX10_over 138 = .ok (.ladd, 1) := by decide +kernel
theorem dX10_over_139 : decode cX10_over 139 = .ok (.lstore 11, 2) := by decide +kernel
theorem dX10_over_141 : decode cX10_over 141 = .ok (.lload 5, 2) := by decide +kernel
theorem dX10_over_143 : decode cX10_over 143 = .ok (.lload 9, 2) := by decide +kernel
theorem dX10_over_145 : decode cX10_over 145 = .ok (.invokestatic 150, 3) := by decide +kernel
theorem dX10_over_148 : decode cX10_over 148 = .ok (.lstore 13, 2) := by decide +kernel
theorem dX10_over_150 : decode cX10_over 150 = .ok (.lload 11, 2) := by decide +kernel
theorem dX10_over_152 : decode cX10_over 152 = .ok (.lload 7, 2) := by decide +kernel
theorem dX10_over_154 : decode cX10_over 154 = .ok (.invokestatic 150, 3) := by decide +kernel
theorem dX10_over_157 : decode cX10_over 157 = .ok (.lstore 15, 2) := by decide +kernel
theorem dX10_over_159 : decode cX10_over 159 = .ok (.lload 5, 2) := by decide +kernel
theorem dX10_over_161 : decode cX10_over 161 = .ok (.lload 13, 2) := by decide +kernel
theorem dX10_over_163 : decode cX10_over 163 = .ok (.ldiv, 1) := by decide +kernel
theorem dX10_over_164 : decode cX10_over 164 = .ok (.lload 11, 2) := by decide +kernel
theorem dX10_over_166 : decode cX10_over 166 = .ok (.lload 15, 2) := by decide +kernel
theorem dX10_over_168 : decode cX10_over 168 = .ok (.ldiv, 1) := by decide +kernel
theorem dX10_over_169 : decode cX10_over 169 = .ok (.lmul, 1) := by decide +kernel
theorem dX10_over_170 : decode cX10_over 170 = .ok (.lload 7, 2) := by decide +kernel
theorem dX10_over_172 : decode cX10_over 172 = .ok (.lload 7, 2) := by decide +kernel
theorem dX10_over_174 : decode cX10_over 174 = .ok (.lload 15, 2) := by decide +kernel
theorem dX10_over_176 : decode cX10_over 176 = .ok (.ldiv, 1) := by decide +kernel
theorem dX10_over_177 : decode cX10_over 177 = .ok (.lmul, 1) := by decide +kernel
theorem dX10_over_178 : decode cX10_over 178 = .ok (.lload 9, 2) := by decide +kernel
theorem dX10_over_180 : decode cX10_over 180 = .ok (.lload 13, 2) := by decide +kernel
theorem dX10_over_182 : decode cX10_over 182 = .ok (.ldiv, 1) := by decide +kernel
theorem dX10_over_183 : decode cX10_over 183 = .ok (.lmul, 1) := by decide +kernel
theorem dX10_over_184 : decode cX10_over 184 = .ok (.iload_n 2, 1) := by decide +kernel
theorem dX10_over_185 : decode cX10_over 185 = .ok (.iconst 2, 1) := by decide +kernel
theorem dX10_over_186 : decode cX10_over 186 = .ok (.irem, 1) := by decide +kernel
theorem dX10_over_187 : decode cX10_over 187 = .ok (.invokestatic 162, 3) := by decide +kernel
theorem dX10_over_190 : decode cX10_over 190 = .ok (.lreturn, 1) := by decide +kernel
theorem dX10_linesFor_0 : decode cX10_linesFor 0 = .ok (.aload_n 0, 1) := by decide +kernel
theorem dX10_linesFor_1 : decode cX10_linesFor 1 = .ok (.iload_n 1, 1) := by decide +kernel
theorem dX10_linesFor_2 : decode cX10_linesFor 2 = .ok (.invokevirtual 50, 3) := by decide +kernel
theorem dX10_linesFor_5 : decode cX10_linesFor 5 = .ok (.ifCond .ne 6, 3) := by decide +kernel
theorem dX10_linesFor_8 : decode cX10_linesFor 8 = .ok (.ldc 118, 2) := by decide +kernel
theorem dX10_linesFor_10 : decode cX10_linesFor 10 = .ok (.ireturn, 1) := by decide +kernel
theorem dX10_linesFor_11 : decode cX10_linesFor 11 = .ok (.iload_n 2, 1) := by decide +kernel
theorem dX10_linesFor_12 : decode cX10_linesFor 12 = .ok (.iconst 0, 1) := by decide +kernel
theorem dX10_linesFor_13 : decode cX10_linesFor 13 = .ok (.bipush 6, 2) := by decide +kernel
theorem dX10_linesFor_15 : decode cX10_linesFor 15 = .ok (.invokestatic 46, 3) := by decide +kernel
theorem dX10_linesFor_18 : decode cX10_linesFor 18 = .ok (.ifCond .eq 14, 3) := by decide +kernel
theorem dX10_linesFor_21 : decode cX10_linesFor 21 = .ok (.iload_n 3, 1) := by decide +kernel
theorem dX10_linesFor_22 : decode cX10_linesFor 22 = .ok (.iconst 1, 1) := by decide +kernel
theorem dX10_linesFor_23 : decode cX10_linesFor 23 = .ok (.sipush 999, 3) := by decide +kernel
theorem dX10_linesFor_26 : decode cX10_linesFor 26 = .ok (.invokestatic 46, 3) := by decide +kernel
theorem dX10_linesFor_29 : decode cX10_linesFor 29 = .ok (.ifCond .ne 6, 3) := by decide +kernel
theorem dX10_linesFor_32 : decode cX10_linesFor 32 = .ok (.ldc 117, 2) := by decide +kernel
theorem dX10_linesFor_34 : decode cX10_linesFor 34 = .ok (.ireturn, 1) := by decide +kernel
theorem dX10_linesFor_35 : decode cX10_linesFor 35 = .ok (.iconst 1, 1) := by decide +kernel
theorem dX10_linesFor_36 : decode cX10_linesFor 36 = .ok (.istore 4, 2) := by decide +kernel
theorem dX10_linesFor_38 : decode cX10_linesFor 38 = .ok (.iload 4, 2) := by decide +kernel
theorem dX10_linesFor_40 : decode cX10_linesFor 40 = .ok (.bipush 7, 2) := by decide +kernel
theorem dX10_linesFor_42 : decode cX10_linesFor 42 = .ok (.if_icmp .ge 48, 3) := by decide +kernel
theorem dX10_linesFor_45 : decode cX10_linesFor 45 = .ok (.aload_n 0, 1) := by decide +kernel
theorem dX10_linesFor_46 : decode cX10_linesFor 46 = .ok (.iload 4, 2) := by decide +kernel
theorem dX10_linesFor_48 : decode cX10_linesFor 48 = .ok (.aload_n 0, 1) := by decide +kernel
theorem dX10_linesFor_49 : decode cX10_linesFor 49 = .ok (.iload_n 1, 1) := by decide +kernel
theorem dX10_linesFor_50 : decode cX10_linesFor 50 = .ok (.iconst 1, 1) := by decide +kernel
theorem dX10_linesFor_51 : decode cX10_linesFor 51 = .ok (.invokevirtual 54, 3) := by decide +kernel
theorem dX10_linesFor_54 : decode cX10_linesFor 54 = .ok (.iconst 0, 1) := by decide +kernel
theorem dX10_linesFor_55 : decode cX10_linesFor 55 = .ok (.iload_n 2, 1) := by decide +kernel
theorem dX10_linesFor_56 : decode cX10_linesFor 56 = .ok (.invokevirtual 158, 3) := by decide +kernel
theorem dX10_linesFor_59 : decode cX10_linesFor 59 = .ok (.ldc2_w 96, 3) := by decide +kernel
theorem dX10_linesFor_62 : decode cX10_linesFor 62 = .ok (.aload_n 0, 1) := by decide +kernel
theorem dX10_linesFor_63 : decode cX10_linesFor 63 = .ok (.getfield 30, 3) := by decide +kernel
theorem dX10_linesFor_66 : decode cX10_linesFor 66 = .ok (.iload 4, 2) := by decide +kernel
theorem dX10_linesFor_68 : decode cX10_linesFor 68 = .ok (.laload, 1) := by decide +kernel
theorem dX10_linesFor_69 : decode cX10_linesFor 69 = .ok (.lmul, 1) := by decide +kernel
theorem dX10_linesFor_70 : decode cX10_linesFor 70 = .ok (.iload_n 3, 1) := by decide +kernel
theorem dX10_linesFor_71 : decode cX10_linesFor 71 = .ok (.i2l, 1) := by decide +kernel
theorem dX10_linesFor_72 : decode cX10_linesFor 72 = .ok (.aload_n 0, 1) := by decide +kernel
theorem dX10_linesFor_73 : decode cX10_linesFor 73 = .ok (.getfield 147, 3) := by decide +kernel
theorem dX10_linesFor_76 : decode cX10_linesFor 76 = .ok (.lmul, 1) := by decide +kernel
theorem dX10_linesFor_77 : decode cX10_linesFor 77 = .ok (.lcmp, 1) := by decide +kernel
theorem dX10_linesFor_78 : decode cX10_linesFor 78 = .ok (.ifCond .gt 6, 3) := by decide +kernel
theorem dX10_linesFor_81 : decode cX10_linesFor 81 = .ok (.iload 4, 2) := by decide +kernel
theorem dX10_linesFor_83 : decode cX10_linesFor 83 = .ok (.ireturn, 1) := by decide +kernel
theorem dX10_linesFor_84 : decode cX10_linesFor 84 = .ok (.iinc 4 1, 3) := by decide +kernel
theorem dX10_linesFor_87 : decode cX10_linesFor 87 = .ok (.goto (-49), 3) := by decide +kernel
theorem dX10_linesFor_90 : decode cX10_linesFor 90 = .ok (.iconst (-1), 1) := by decide +kernel
theorem dX10_linesFor_91 : decode cX10_linesFor 91 = .ok (.ireturn, 1) := by decide +kernel
theorem dX10_bestReserve_0 : decode cX10_bestReserve 0 = .ok (.aload_n 0, 1) := by decide +kernel
theorem dX10_bestReserve_1 : decode cX10_bestReserve 1 = .ok (.iload_n 1, 1) := by decide +kernel
theorem dX10_bestReserve_2 : decode cX10_bestReserve 2 = .ok (.invokevirtual 50, 3) := by decide +kernel
theorem dX10_bestReserve_5 : decode cX10_bestReserve 5 = .ok (.ifCond .ne 6, 3) := by decide +kernel
theorem dX10_bestReserve_8 : decode cX10_bestReserve 8 = .ok (.ldc 118, 2) := by decide +kernel
theorem dX10_bestReserve_10 : decode cX10_bestReserve 10 = .ok (.ireturn, 1) := by decide +kernel
theorem dX10_bestReserve_11 : decode cX10_bestReserve 11 = .ok (.iload_n 2, 1) := by decide +kernel
theorem dX10_bestReserve_12 : decode cX10_bestReserve 12 = .ok (.iconst 0, 1) := by decide +kernel
theorem dX10_bestReserve_13 : decode cX10_bestReserve 13 = .ok (.bipush 6, 2) := by decide +kernel
theorem dX10_bestReserve_15 : decode cX10_bestReserve 15 = .ok (.invokestatic 46, 3) := by decide +kernel
theorem dX10_bestReserve_18 : decode cX10_bestReserve 18 = .ok (.ifCond .eq 14, 3) := by decide +kernel
theorem dX10_bestReserve_21 : decode cX10_bestReserve 21 = .ok (.iload_n 3, 1) := by decide +kernel
theorem dX10_bestReserve_22 : decode cX10_bestReserve 22 = .ok (.iconst 1, 1) := by decide +kernel
theorem dX10_bestReserve_23 : decode cX10_bestReserve 23 = .ok (.sipush 999, 3) := by decide +kernel
theorem dX10_bestReserve_26 : decode cX10_bestReserve 26 = .ok (.invokestatic 46, 3) := by decide +kernel
theorem dX10_bestReserve_29 : decode cX10_bestReserve 29 = .ok (.ifCond .ne 6, 3) := by decide +kernel
theorem dX10_bestReserve_32 : decode cX10_bestReserve 32 = .ok (.ldc 117, 2) := by decide +kernel
theorem dX10_bestReserve_34 : decode cX10_bestReserve 34 = .ok (.ireturn, 1) := by decide +kernel
theorem dX10_bestReserve_35 : decode cX10_bestReserve 35 = .ok (.iconst 0, 1) := by decide +kernel
theorem dX10_bestReserve_36 : decode cX10_bestReserve 36 = .ok (.istore 4, 2) := by decide +kernel
theorem dX10_bestReserve_38 : decode cX10_bestReserve 38 = .ok (.iload 4, 2) := by decide +kernel
theorem dX10_bestReserve_40 : decode cX10_bestReserve 40 = .ok (.aload_n 0, 1) := by decide +kernel
theorem dX10_bestReserve_41 : decode cX10_bestReserve 41 = .ok (.iload_n 1, 1) := by decide +kernel
theorem dX10_bestReserve_42 : decode cX10_bestReserve 42 = .ok (.iconst 0, 1) := by decide +kernel
theorem dX10_bestReserve_43 : decode cX10_bestReserve 43 = .ok (.invokevirtual 54, 3) := by decide +kernel
theorem dX10_bestReserve_46 : decode cX10_bestReserve 46 = .ok (.if_icmp .gt 57, 3) := by decide +kernel
theorem dX10_bestReserve_49 : decode cX10_bestReserve 49 = .ok (.aload_n 0, 1) := by decide +kernel
theorem dX10_bestReserve_50 : decode cX10_bestReserve 50 = .ok (.aload_n 0, 1) := by decide +kernel
theorem dX10_bestReserve_51 : decode cX10_bestReserve 51 = .ok (.iload_n 1, 1) := by decide +kernel
theorem dX10_bestReserve_52 : decode cX10_bestReserve 52 = .ok (.iconst 0, 1) := by decide +kernel
theorem dX10_bestReserve_53 : decode cX10_bestReserve 53 = .ok (.invokevirtual 54, 3) := by decide +kernel
theorem dX10_bestReserve_56 : decode cX10_bestReserve 56 = .ok (.aload_n 0, 1) := by decide +kernel
theorem dX10_bestReserve_57 : decode cX10_bestReserve 57 = .ok (.iload_n 1, 1) := by decide +kernel
theorem dX10_bestReserve_58 : decode cX10_bestReserve 58 = .ok (.iconst 1, 1) := by decide +kernel
theorem dX10_bestReserve_59 : decode cX10_bestReserve 59 = .ok (.invokevirtual 54, 3) := by decide +kernel
theorem dX10_bestReserve_62 : decode cX10_bestReserve 62 = .ok (.iload 4, 2) := by decide +kernel
theorem dX10_bestReserve_64 : decode cX10_bestReserve 64 = .ok (.iload_n 2, 1) := by decide +kernel
theorem dX10_bestReserve_65 : decode cX10_bestReserve 65 = .ok (.invokevirtual 158, 3) := by decide +kernel
theorem dX10_bestReserve_68 : decode cX10_bestReserve 68 = .ok (.ldc2_w 96, 3) := by decide +kernel
theorem dX10_bestReserve_71 : decode cX10_bestReserve 71 = .ok (.aload_n 0, 1) := by decide +kernel
theorem dX10_bestReserve_72 : decode cX10_bestReserve 72 = .ok (.getfield 30, 3) := by decide +kernel
theorem dX10_bestReserve_75 : decode cX10_bestReserve 75 = .ok (.aload_n 0, 1) := by decide +kernel
theorem dX10_bestReserve_76 : decode cX10_bestReserve 76 = .ok (.iload_n 1, 1) := by decide +kernel
theorem dX10_bestReserve_77 : decode cX10_bestReserve 77 = .ok (.iconst 0, 1) := by decide +kernel
theorem dX10_bestReserve_78 : decode cX10_bestReserve 78 = .ok (.invokevirtual 54, 3) := by decide +kernel
theorem dX10_bestReserve_81 : decode cX10_bestReserve 81 = .ok (.laload, 1) := by decide +kernel
theorem dX10_bestReserve_82 : decode cX10_bestReserve 82 = .ok (.lmul, 1) := by decide +kernel
theorem dX10_bestReserve_83 : decode cX10_bestReserve 83 = .ok (.iload_n 3, 1) := by decide +kernel
theorem dX10_bestReserve_84 : decode cX10_bestReserve 84 = .ok (.i2l, 1) := by decide +kernel
theorem dX10_bestReserve_85 : decode cX10_bestReserve 85 = .ok (.aload_n 0, 1) := by decide +kernel
theorem dX10_bestReserve_86 : decode cX10_bestReserve 86 = .ok (.getfield 147, 3) := by decide +kernel
theorem dX10_bestReserve_89 : decode cX10_bestReserve 89 = .ok (.lmul, 1) := by decide +kernel
theorem dX10_bestReserve_90 : decode cX10_bestReserve 90 = .ok (.lcmp, 1) := by decide +kernel
theorem dX10_bestReserve_91 : decode cX10_bestReserve 91 = .ok (.ifCond .gt 6, 3) := by decide +kernel
theorem dX10_bestReserve_94 : decode cX10_bestReserve 94 = .ok (.iload 4, 2) := by decide +kernel
theorem dX10_bestReserve_96 : decode cX10_bestReserve 96 = .ok (.ireturn, 1) := by decide +kernel
theorem dX10_bestReserve_97 : decode cX10_bestReserve 97 = .ok (.iinc 4 1, 3) := by decide +kernel
theorem dX10_bestReserve_100 : decode cX10_bestReserve 100 = .ok (.goto (-62), 3) := by decide +kernel
theorem dX10_bestReserve_103 : decode cX10_bestReserve 103 = .ok (.iconst (-1), 1) := by decide +kernel
theorem dX10_bestReserve_104 : decode cX10_bestReserve 104 = .ok (.ireturn, 1) := by decide +kernel
theorem dX10_write_0 : decode cX10_write 0 = .ok (.aload_n 0, 1) := by decide +kernel
theorem dX10_write_1 : decode cX10_write 1 = .ok (.iload_n 1, 1) := by decide +kernel
theorem dX10_write_2 : decode cX10_write 2 = .ok (.iload_n 2, 1) := by decide +kernel
theorem dX10_write_3 : decode cX10_write 3 = .ok (.invokevirtual 90, 3) := by decide +kernel
theorem dX10_write_6 : decode cX10_write 6 = .ok (.ifCond .ne 6, 3) := by decide +kernel
theorem dX10_write_9 : decode cX10_write 9 = .ok (.ldc 118, 2) := by decide +kernel
theorem dX10_write_11 : decode cX10_write 11 = .ok (.ireturn, 1) := by decide +kernel
theorem dX10_write_12 : decode cX10_write 12 = .ok (.iload_n 3, 1) := by decide +kernel
theorem dX10_write_13 : decode cX10_write 13 = .ok (.iconst 0, 1) := by decide +kernel
theorem dX10_write_14 : decode cX10_write 14 = .ok (.iconst 2, 1) := by decide +kernel
theorem dX10_write_15 : decode cX10_write 15 = .ok (.invokestatic 46, 3) := by decide +kernel
theorem dX10_write_18 : decode cX10_write 18 = .ok (.ifCond .ne 6, 3) := by decide +kernel
theorem dX10_write_21 : decode cX10_write 21 = .ok (.ldc 117, 2) := by decide +kernel
theorem dX10_write_23 : decode cX10_write 23 = .ok (.ireturn, 1) := by decide +kernel
theorem dX10_write_24 : decode cX10_write 24 = .ok (.aload_n 0, 1) := by decide +kernel
theorem dX10_write_25 : decode cX10_write 25 = .ok (.getfield 87, 3) := by decide +kernel
theorem dX10_write_28 : decode cX10_write 28 = .ok (.bipush 20, 2) := by decide +kernel
theorem dX10_write_30 : decode cX10_write 30 = .ok (.if_icmp .ne 6, 3) := by decide +kernel
theorem dX10_write_33 : decode cX10_write 33 = .ok (.ldc 166, 2) := by decide +kernel
theorem dX10_write_35 : decode cX10_write 35 = .ok (.ireturn, 1) := by decide +kernel
theorem dX10_write_36 : decode cX10_write 36 = .ok (.aload_n 0, 1) := by decide +kernel
theorem dX10_write_37 : decode cX10_write 37 = .ok (.getfield 27, 3) := by decide +kernel
theorem dX10_write_40 : decode cX10_write 40 = .ok (.iconst 3, 1) := by decide +kernel
theorem dX10_write_41 : decode cX10_write 41 = .ok (.aload_n 0, 1) := by decide +kernel
theorem dX10_write_42 : decode cX10_write 42 = .ok (.getfield 87, 3) := by decide +kernel
theorem dX10_write_45 : decode cX10_write 45 = .ok (.imul, 1) := by decide +kernel
theorem dX10_write_46 : decode cX10_write 46 = .ok (.iload_n 1, 1) := by decide +kernel
theorem dX10_write_47 : decode cX10_write 47 = .ok (.iastore, 1) := by decide +kernel
theorem dX10_write_48 : decode cX10_write 48 = .ok (.aload_n 0, 1) := by decide +kernel
theorem dX10_write_49 : decode cX10_write 49 = .ok (.getfield 27, 3) := by decide +kernel
theorem dX10_write_52 : decode cX10_write 52 = .ok (.iconst 3, 1) := by decide +kernel
theorem dX10_write_53 : decode cX10_write 53 = .ok (.aload_n 0, 1) := by decide +kernel
theorem dX10_write_54 : decode cX10_write 54 = .ok (.getfield 87, 3) := by decide +kernel
theorem dX10_write_57 : decode cX10_write 57 = .ok (.imul, 1) := by decide +kernel
theorem dX10_write_58 : decode cX10_write 58 = .ok (.iconst 1, 1) := by decide +kernel
theorem dX10_write_59 : decode cX10_write 59 = .ok (.iadd, 1) := by decide +kernel
theorem dX10_write_60 : decode cX10_write 60 = .ok (.iload_n 2, 1) := by decide +kernel
theorem dX10_write_61 : decode cX10_write 61 = .ok (.iastore, 1) := by decide +kernel
theorem dX10_write_62 : decode cX10_write 62 = .ok (.aload_n 0, 1) := by decide +kernel
theorem dX10_write_63 : decode cX10_write 63 = .ok (.getfield 27, 3) := by decide +kernel
theorem dX10_write_66 : decode cX10_write 66 = .ok (.iconst 3, 1) := by decide +kernel
theorem dX10_write_67 : decode cX10_write 67 = .ok (.aload_n 0, 1) := by decide +kernel
theorem dX10_write_68 : decode cX10_write 68 = .ok (.getfield 87, 3) := by decide +kernel
theorem dX10_write_71 : decode cX10_write 71 = .ok (.imul, 1) := by decide +kernel
theorem dX10_write_72 : decode cX10_write 72 = .ok (.iconst 2, 1) := by decide +kernel
theorem dX10_write_73 : decode cX10_write 73 = .ok (.iadd, 1) := by decide +kernel
theorem dX10_write_74 : decode cX10_write 74 = .ok (.iload_n 3, 1) := by decide +kernel
theorem dX10_write_75 : decode cX10_write 75 = .ok (.iastore, 1) := by decide +kernel
theorem dX10_write_76 : decode cX10_write 76 = .ok (.aload_n 0, 1) := by decide +kernel
theorem dX10_write_77 : decode cX10_write 77 = .ok (.dup, 1) := by decide +kernel
theorem dX10_write_78 : decode cX10_write 78 = .ok (.getfield 87, 3) := by decide +kernel
theorem dX10_write_81 : decode cX10_write 81 = .ok (.iconst 1, 1) := by decide +kernel
theorem dX10_write_82 : decode cX10_write 82 = .ok (.iadd, 1) := by decide +kernel
theorem dX10_write_83 : decode cX10_write 83 = .ok (.putfield 87, 3) := by decide +kernel
theorem dX10_write_86 : decode cX10_write 86 = .ok (.aload_n 0, 1) := by decide +kernel
theorem dX10_write_87 : decode cX10_write 87 = .ok (.getfield 87, 3) := by decide +kernel
theorem dX10_write_90 : decode cX10_write 90 = .ok (.ireturn, 1) := by decide +kernel
theorem dX10_tear_0 : decode cX10_tear 0 = .ok (.aload_n 0, 1) := by decide +kernel
theorem dX10_tear_1 : decode cX10_tear 1 = .ok (.getfield 87, 3) := by decide +kernel
theorem dX10_tear_4 : decode cX10_tear 4 = .ok (.istore_n 1, 1) := by decide +kernel
theorem dX10_tear_5 : decode cX10_tear 5 = .ok (.aload_n 0, 1) := by decide +kernel
theorem dX10_tear_6 : decode cX10_tear 6 = .ok (.iconst 0, 1) := by decide +kernel
theorem dX10_tear_7 : decode cX10_tear 7 = .ok (.putfield 87, 3) := by decide +kernel
theorem dX10_tear_10 : decode cX10_tear 10 = .ok (.iload_n 1, 1) := by decide +kernel
theorem dX10_tear_11 : decode cX10_tear 11 = .ok (.ireturn, 1) := by decide +kernel
theorem dX10_seed_0 : decode cX10_seed 0 = .ok (.iload_n 1, 1) := by decide +kernel
theorem dX10_seed_1 : decode cX10_seed 1 = .ok (.ifCond .ge 6, 3) := by decide +kernel
theorem dX10_seed_4 : decode cX10_seed 4 = .ok (.ldc 117, 2) := by decide +kernel
theorem dX10_seed_6 : decode cX10_seed 6 = .ok (.ireturn, 1) := by decide +kernel
theorem dX10_seed_7 : decode cX10_seed 7 = .ok (.aload_n 0, 1) := by decide +kernel
theorem dX10_seed_8 : decode cX10_seed 8 = .ok (.getfield 132, 3) := by decide +kernel
theorem dX10_seed_11 : decode cX10_seed 11 = .ok (.l2i, 1) := by decide +kernel
theorem dX10_seed_12 : decode cX10_seed 12 = .ok (.istore_n 2, 1) := by decide +kernel
theorem dX10_seed_13 : decode cX10_seed 13 = .ok (.aload_n 0, 1) := by decide +kernel
theorem dX10_seed_14 : decode cX10_seed 14 = .ok (.iload_n 1, 1) := by decide +kernel
theorem dX10_seed_15 : decode cX10_seed 15 = .ok (.i2l, 1) := by decide +kernel
theorem dX10_seed_16 : decode cX10_seed 16 = .ok (.putfield 132, 3) := by decide +kernel
theorem dX10_seed_19 : decode cX10_seed 19 = .ok (.iload_n 2, 1) := by decide +kernel
theorem dX10_seed_20 : decode cX10_seed 20 = .ok (.ireturn, 1) := by decide +kernel
theorem dX10_keep_0 : decode cX10_keep 0 = .ok (.iload_n 1, 1) := by decide +kernel
theorem dX10_keep_1 : decode cX10_keep 1 = .ok (.iconst 0, 1) := by decide +kernel
theorem dX10_keep_2 : decode cX10_keep 2 = .ok (.iconst 1, 1) := by decide +kernel
theorem dX10_keep_3 : decode cX10_keep 3 = .ok (.invokestatic 46, 3) := by decide +kernel
theorem dX10_keep_6 : decode cX10_keep 6 = .ok (.ifCond .ne 6, 3) := by decide +kernel
theorem dX10_keep_9 : decode cX10_keep 9 = .ok (.ldc 118, 2) := by decide +kernel
theorem dX10_keep_11 : decode cX10_keep 11 = .ok (.ireturn, 1) := by decide +kernel
theorem dX10_keep_12 : decode cX10_keep 12 = .ok (.iconst 0, 1) := by decide +kernel
theorem dX10_keep_13 : decode cX10_keep 13 = .ok (.istore_n 2, 1) := by decide +kernel
theorem dX10_keep_14 : decode cX10_keep 14 = .ok (.iload_n 2, 1) := by decide +kernel
theorem dX10_keep_15 : decode cX10_keep 15 = .ok (.sipush 139, 3) := by decide +kernel
theorem dX10_keep_18 : decode cX10_keep 18 = .ok (.if_icmp .ge 27, 3) := by decide +kernel
theorem dX10_keep_21 : decode cX10_keep 21 = .ok (.aload_n 0, 1) := by decide +kernel
theorem dX10_keep_22 : decode cX10_keep 22 = .ok (.getfield 16, 3) := by decide +kernel
theorem dX10_keep_25 : decode cX10_keep 25 = .ok (.sipush 139, 3) := by decide +kernel
theorem dX10_keep_28 : decode cX10_keep 28 = .ok (.iload_n 1, 1) := by decide +kernel
theorem dX10_keep_29 : decode cX10_keep 29 = .ok (.imul, 1) := by decide +kernel
theorem dX10_keep_30 : decode cX10_keep 30 = .ok (.iload_n 2, 1) := by decide +kernel
theorem dX10_keep_31 : decode cX10_keep 31 = .ok (.iadd, 1) := by decide +kernel
theorem dX10_keep_32 : decode cX10_keep 32 = .ok (.aload_n 0, 1) := by decide +kernel
theorem dX10_keep_33 : decode cX10_keep 33 = .ok (.getfield 7, 3) := by decide +kernel
theorem dX10_keep_36 : decode cX10_keep 36 = .ok (.iload_n 2, 1) := by decide +kernel
theorem dX10_keep_37 : decode cX10_keep 37 = .ok (.iaload, 1) := by decide +kernel
theorem dX10_keep_38 : decode cX10_keep 38 = .ok (.iastore, 1) := by decide +kernel
theorem dX10_keep_39 : decode cX10_keep 39 = .ok (.iinc 2 1, 3) := by decide +kernel
theorem dX10_keep_42 : decode cX10_keep 42 = .ok (.goto (-28), 3) := by decide +kernel
theorem dX10_keep_45 : decode cX10_keep 45 = .ok (.aload_n 0, 1) := by decide +kernel
theorem dX10_keep_46 : decode cX10_keep 46 = .ok (.getfield 19, 3) := by decide +kernel
theorem dX10_keep_49 : decode cX10_keep 49 = .ok (.iload_n 1, 1) := by decide +kernel
theorem dX10_keep_50 : decode cX10_keep 50 = .ok (.aload_n 0, 1) := by decide +kernel
theorem dX10_keep_51 : decode cX10_keep 51 = .ok (.getfield 132, 3) := by decide +kernel
theorem dX10_keep_54 : decode cX10_keep 54 = .ok (.lastore, 1) := by decide +kernel
theorem dX10_keep_55 : decode cX10_keep 55 = .ok (.aload_n 0, 1) := by decide +kernel
theorem dX10_keep_56 : decode cX10_keep 56 = .ok (.getfield 23, 3) := by decide +kernel
theorem dX10_keep_59 : decode cX10_keep 59 = .ok (.iload_n 1, 1) := by decide +kernel
theorem dX10_keep_60 : decode cX10_keep 60 = .ok (.iconst 1, 1) := by decide +kernel
theorem dX10_keep_61 : decode cX10_keep 61 = .ok (.bastore, 1) := by decide +kernel
theorem dX10_keep_62 : decode cX10_keep 62 = .ok (.aload_n 0, 1) := by decide +kernel
theorem dX10_keep_63 : decode cX10_keep 63 = .ok (.iconst 0, 1) := by decide +kernel
theorem dX10_keep_64 : decode cX10_keep 64 = .ok (.putfield 69, 3) := by decide +kernel
theorem dX10_keep_67 : decode cX10_keep 67 = .ok (.iconst 1, 1) := by decide +kernel
theorem dX10_keep_68 : decode cX10_keep 68 = .ok (.ireturn, 1) := by decide +kernel
theorem dX10_goBack_0 : decode cX10_goBack 0 = .ok (.iload_n 1, 1) := by decide +kernel
theorem dX10_goBack_1 : decode cX10_goBack 1 = .ok (.iconst 0, 1) := by decide +kernel
theorem dX10_goBack_2 : decode cX10_goBack 2 = .ok (.iconst 1, 1) := by decide +kernel
theorem dX10_goBack_3 : decode cX10_goBack 3 = .ok (.invokestatic 46, 3) := by decide +kernel
theorem dX10_goBack_6 : decode cX10_goBack 6 = .ok (.ifCond .ne 6, 3) := by decide +kernel
theorem dX10_goBack_9 : decode cX10_goBack 9 = .ok (.ldc 118, 2) := by decide +kernel
theorem dX10_goBack_11 : decode cX10_goBack 11 = .ok (.ireturn, 1) := by decide +kernel
theorem dX10_goBack_12 : decode cX10_goBack 12 = .ok (.aload_n 0, 1) := by decide +kernel
theorem dX10_goBack_13 : decode cX10_goBack 13 = .ok (.getfield 23, 3) := by decide +kernel
theorem dX10_goBack_16 : decode cX10_goBack 16 = .ok (.iload_n 1, 1) := by decide +kernel
theorem dX10_goBack_17 : decode cX10_goBack 17 = .ok (.baload, 1) := by decide +kernel
theorem dX10_goBack_18 : decode cX10_goBack 18 = .ok (.ifCond .ne 6, 3) := by decide +kernel
theorem dX10_goBack_21 : decode cX10_goBack 21 = .ok (.ldc 128, 2) := by decide +kernel
theorem dX10_goBack_23 : decode cX10_goBack 23 = .ok (.ireturn, 1) := by decide +kernel
theorem dX10_goBack_24 : decode cX10_goBack 24 = .ok (.iconst 0, 1) := by decide +kernel
theorem dX10_goBack_25 : decode cX10_goBack 25 = .ok (.istore_n 2, 1) := by decide +kernel
theorem dX10_goBack_26 : decode cX10_goBack 26 = .ok (.iload_n 2, 1) := by decide +kernel
theorem dX10_goBack_27 : decode cX10_goBack 27 = .ok (.sipush 139, 3) := by decide +kernel
theorem dX10_goBack_30 : decode cX10_goBack 30 = .ok (.if_icmp .ge 27, 3) := by decide +kernel
theorem dX10_goBack_33 : decode cX10_goBack 33 = .ok (.aload_n 0, 1) := by decide +kernel
theorem dX10_goBack_34 : decode cX10_goBack 34 = .ok (.getfield 7, 3) := by decide +kernel
theorem dX10_goBack_37 : decode cX10_goBack 37 = .ok (.iload_n 2, 1) := by decide +kernel
theorem dX10_goBack_38 : decode cX10_goBack 38 = .ok (.aload_n 0, 1) := by decide +kernel
theorem dX10_goBack_39 : decode cX10_goBack 39 = .ok (.getfield 16, 3) := by decide +kernel
theorem dX10_goBack_42 : decode cX10_goBack 42 = .ok (.sipush 139, 3) := by decide +kernel
theorem dX10_goBack_45 : decode cX10_goBack 45 = .ok (.iload_n 1, 1) := by decide +kernel
theorem dX10_goBack_46 : decode cX10_goBack 46 = .ok (.imul, 1) := by decide +kernel
theorem dX10_goBack_47 : decode cX10_goBack 47 = .ok (.iload_n 2, 1) := by decide +kernel
theorem dX10_goBack_48 : decode cX10_goBack 48 = .ok (.iadd, 1) := by decide +kernel
theorem dX10_goBack_49 : decode cX10_goBack 49 = .ok (.iaload, 1) := by decide +kernel
theorem dX10_goBack_50 : decode cX10_goBack 50 = .ok (.iastore, 1) := by decide +kernel
theorem dX10_goBack_51 : decode cX10_goBack 51 = .ok (.iinc 2 1, 3) := by decide +kernel
theorem dX10_goBack_54 : decode cX10_goBack 54 = .ok (.goto (-28), 3) := by decide +kernel
theorem dX10_goBack_57 : decode cX10_goBack 57 = .ok (.aload_n 0, 1) := by decide +kernel
theorem dX10_goBack_58 : decode cX10_goBack 58 = .ok (.aload_n 0, 1) := by decide +kernel
theorem dX10_goBack_59 : decode cX10_goBack 59 = .ok (.getfield 19, 3) := by decide +kernel
theorem dX10_goBack_62 : decode cX10_goBack 62 = .ok (.iload_n 1, 1) := by decide +kernel
theorem dX10_goBack_63 : decode cX10_goBack 63 = .ok (.laload, 1) := by decide +kernel
theorem dX10_goBack_64 : decode cX10_goBack 64 = .ok (.putfield 132, 3) := by decide +kernel
theorem dX10_goBack_67 : decode cX10_goBack 67 = .ok (.aload_n 0, 1) := by decide +kernel
theorem dX10_goBack_68 : decode cX10_goBack 68 = .ok (.iconst 0, 1) := by decide +kernel
theorem dX10_goBack_69 : decode cX10_goBack 69 = .ok (.putfield 69, 3) := by decide +kernel
theorem dX10_goBack_72 : decode cX10_goBack 72 = .ok (.iconst 1, 1) := by decide +kernel
theorem dX10_goBack_73 : decode cX10_goBack 73 = .ok (.ireturn, 1) := by decide +kernel
theorem dJ6_bitCount_0f7a4_0 : decode cJ6_bitCount_0f7a4 0 = .ok (.iload_n 0, 1) := by decide +kernel
theorem dJ6_bitCount_0f7a4_1 : decode cJ6_bitCount_0f7a4 1 = .ok (.iload_n 0, 1) := by decide +kernel
theorem dJ6_bitCount_0f7a4_2 : decode cJ6_bitCount_0f7a4 2 = .ok (.iconst 1, 1) := by decide +kernel
theorem dJ6_bitCount_0f7a4_3 : decode cJ6_bitCount_0f7a4 3 = .ok (.iushr, 1) := by decide +kernel
theorem dJ6_bitCount_0f7a4_4 : decode cJ6_bitCount_0f7a4 4 = .ok (.ldc_w 265, 3) := by decide +kernel
theorem dJ6_bitCount_0f7a4_7 : decode cJ6_bitCount_0f7a4 7 = .ok (.iand, 1) := by decide +kernel
theorem dJ6_bitCount_0f7a4_8 : decode cJ6_bitCount_0f7a4 8 = .ok (.isub, 1) := by decide +kernel
theorem dJ6_bitCount_0f7a4_9 : decode cJ6_bitCount_0f7a4 9 = .ok (.istore_n 0, 1) := by decide +kernel
theorem dJ6_bitCount_0f7a4_10 : decode cJ6_bitCount_0f7a4 10 = .ok (.iload_n 0, 1) := by decide +kernel
theorem dJ6_bitCount_0f7a4_11 : decode cJ6_bitCount_0f7a4 11 = .ok (.ldc_w 266, 3) := by decide +kernel
theorem dJ6_bitCount_0f7a4_14 : decode cJ6_bitCount_0f7a4 14 = .ok (.iand, 1) := by decide +kernel
theorem dJ6_bitCount_0f7a4_15 : decode cJ6_bitCount_0f7a4 15 = .ok (.iload_n 0, 1) := by decide +kernel
theorem dJ6_bitCount_0f7a4_16 : decode cJ6_bitCount_0f7a4 16 = .ok (.iconst 2, 1) := by decide +kernel
theorem dJ6_bitCount_0f7a4_17 : decode cJ6_bitCount_0f7a4 17 = .ok (.iushr, 1) := by decide +kernel
theorem dJ6_bitCount_0f7a4_18 : decode cJ6_bitCount_0f7a4 18 = .ok (.ldc_w 266, 3) := by decide +kernel
theorem dJ6_bitCount_0f7a4_21 : decode cJ6_bitCount_0f7a4 21 = .ok (.iand, 1) := by decide +kernel
theorem dJ6_bitCount_0f7a4_22 : decode cJ6_bitCount_0f7a4 22 = .ok (.iadd, 1) := by decide +kernel
theorem dJ6_bitCount_0f7a4_23 : decode cJ6_bitCount_0f7a4 23 = .ok (.istore_n 0, 1) := by decide +kernel
theorem dJ6_bitCount_0f7a4_24 : decode cJ6_bitCount_0f7a4 24 = .ok (.iload_n 0, 1) := by decide +kernel
theorem dJ6_bitCount_0f7a4_25 : decode cJ6_bitCount_0f7a4 25 = .ok (.iload_n 0, 1) := by decide +kernel
theorem dJ6_bitCount_0f7a4_26 : decode cJ6_bitCount_0f7a4 26 = .ok (.iconst 4, 1) := by decide +kernel
theorem dJ6_bitCount_0f7a4_27 : decode cJ6_bitCount_0f7a4 27 = .ok (.iushr, 1) := by decide +kernel
theorem dJ6_bitCount_0f7a4_28 : decode cJ6_bitCount_0f7a4 28 = .ok (.iadd, 1) := by decide +kernel
theorem dJ6_bitCount_0f7a4_29 : decode cJ6_bitCount_0f7a4 29 = .ok (.ldc_w 267, 3) := by decide +kernel
theorem dJ6_bitCount_0f7a4_32 : decode cJ6_bitCount_0f7a4 32 = .ok (.iand, 1) := by decide +kernel
theorem dJ6_bitCount_0f7a4_33 : decode cJ6_bitCount_0f7a4 33 = .ok (.istore_n 0, 1) := by decide +kernel
theorem dJ6_bitCount_0f7a4_34 : decode cJ6_bitCount_0f7a4 34 = .ok (.iload_n 0, 1) := by decide +kernel
theorem dJ6_bitCount_0f7a4_35 : decode cJ6_bitCount_0f7a4 35 = .ok (.iload_n 0, 1) := by decide +kernel
theorem dJ6_bitCount_0f7a4_36 : decode cJ6_bitCount_0f7a4 36 = .ok (.bipush 8, 2) := by decide +kernel
theorem dJ6_bitCount_0f7a4_38 : decode cJ6_bitCount_0f7a4 38 = .ok (.iushr, 1) := by decide +kernel
theorem dJ6_bitCount_0f7a4_39 : decode cJ6_bitCount_0f7a4 39 = .ok (.iadd, 1) := by decide +kernel
theorem dJ6_bitCount_0f7a4_40 : decode cJ6_bitCount_0f7a4 40 = .ok (.istore_n 0, 1) := by decide +kernel
theorem dJ6_bitCount_0f7a4_41 : decode cJ6_bitCount_0f7a4 41 = .ok (.iload_n 0, 1) := by decide +kernel
theorem dJ6_bitCount_0f7a4_42 : decode cJ6_bitCount_0f7a4 42 = .ok (.iload_n 0, 1) := by decide +kernel
theorem dJ6_bitCount_0f7a4_43 : decode cJ6_bitCount_0f7a4 43 = .ok (.bipush 16, 2) := by decide +kernel
theorem dJ6_bitCount_0f7a4_45 : decode cJ6_bitCount_0f7a4 45 = .ok (.iushr, 1) := by decide +kernel
theorem dJ6_bitCount_0f7a4_46 : decode cJ6_bitCount_0f7a4 46 = .ok (.iadd, 1) := by decide +kernel
theorem dJ6_bitCount_0f7a4_47 : decode cJ6_bitCount_0f7a4 47 = .ok (.istore_n 0, 1) := by decide +kernel
theorem dJ6_bitCount_0f7a4_48 : decode cJ6_bitCount_0f7a4 48 = .ok (.iload_n 0, 1) := by decide +kernel
theorem dJ6_bitCount_0f7a4_49 : decode cJ6_bitCount_0f7a4 49 = .ok (.bipush 63, 2) := by decide +kernel
theorem dJ6_bitCount_0f7a4_51 : decode cJ6_bitCount_0f7a4 51 = .ok (.iand, 1) := by decide +kernel
theorem dJ6_bitCount_0f7a4_52 : decode cJ6_bitCount_0f7a4 52 = .ok (.ireturn, 1) := by decide +kernel
theorem dJ9_floorMod_7cf53_0 : decode cJ9_floorMod_7cf53 0 = .ok (.iload_n 0, 1) := by decide +kernel
theorem dJ9_floorMod_7cf53_1 : decode cJ9_floorMod_7cf53 1 = .ok (.iload_n 1, 1) := by decide +kernel
theorem dJ9_floorMod_7cf53_2 : decode cJ9_floorMod_7cf53 2 = .ok (.irem, 1) := by decide +kernel
theorem dJ9_floorMod_7cf53_3 : decode cJ9_floorMod_7cf53 3 = .ok (.istore_n 2, 1) := by decide +kernel
theorem dJ9_floorMod_7cf53_4 : decode cJ9_floorMod_7cf53 4 = .ok (.iload_n 0, 1) := by decide +kernel
theorem dJ9_floorMod_7cf53_5 : decode cJ9_floorMod_7cf53 5 = .ok (.iload_n 1, 1) := by decide +kernel
theorem dJ9_floorMod_7cf53_6 : decode cJ9_floorMod_7cf53 6 = .ok (.ixor, 1) := by decide +kernel
theorem dJ9_floorMod_7cf53_7 : decode cJ9_floorMod_7cf53 7 = .ok (.ifCond .ge 11, 3) := by decide +kernel
theorem dJ9_floorMod_7cf53_10 : decode cJ9_floorMod_7cf53 10 = .ok (.iload_n 2, 1) := by decide +kernel
theorem dJ9_floorMod_7cf53_11 : decode cJ9_floorMod_7cf53 11 = .ok (.ifCond .eq 7, 3) := by decide +kernel
theorem dJ9_floorMod_7cf53_14 : decode cJ9_floorMod_7cf53 14 = .ok (.iload_n 2, 1) := by decide +kernel
theorem dJ9_floorMod_7cf53_15 : decode cJ9_floorMod_7cf53 15 = .ok (.iload_n 1, 1) := by decide +kernel
theorem dJ9_floorMod_7cf53_16 : decode cJ9_floorMod_7cf53 16 = .ok (.iadd, 1) := by decide +kernel
theorem dJ9_floorMod_7cf53_17 : decode cJ9_floorMod_7cf53 17 = .ok (.ireturn, 1) := by decide +kernel
theorem dJ9_floorMod_7cf53_18 : decode cJ9_floorMod_7cf53 18 = .ok (.iload_n 2, 1) := by decide +kernel
theorem dJ9_floorMod_7cf53_19 : decode cJ9_floorMod_7cf53 19 = .ok (.ireturn, 1) := by decide +kernel
theorem dJ9_abs_067f4_0 : decode cJ9_abs_067f4 0 = .ok (.lload_n 0, 1) := by decide +kernel
theorem dJ9_abs_067f4_1 : decode cJ9_abs_067f4 1 = .ok (.lconst 0, 1) := by decide +kernel
theorem dJ9_abs_067f4_2 : decode cJ9_abs_067f4 2 = .ok (.lcmp, 1) := by decide +kernel
theorem dJ9_abs_067f4_3 : decode cJ9_abs_067f4 3 = .ok (.ifCond .ge 8, 3) := by decide +kernel
theorem dJ9_abs_067f4_6 : decode cJ9_abs_067f4 6 = .ok (.lload_n 0, 1) := by decide +kernel
theorem dJ9_abs_067f4_7 : decode cJ9_abs_067f4 7 = .ok (.lneg, 1) := by decide +kernel
theorem dJ9_abs_067f4_8 : decode cJ9_abs_067f4 8 = .ok (.goto 4, 3) := by decide +kernel
theorem dJ9_abs_067f4_11 : decode cJ9_abs_067f4 11 = .ok (.lload_n 0, 1) := by decide +kernel
theorem dJ9_abs_067f4_12 : decode cJ9_abs_067f4 12 = .ok (.lreturn, 1) := by decide +kernel
theorem dJ9_max_7cf53_0 : decode cJ9_max_7cf53 0 = .ok (.iload_n 0, 1) := by decide +kernel
theorem dJ9_max_7cf53_1 : decode cJ9_max_7cf53 1 = .ok (.iload_n 1, 1) := by decide +kernel
theorem dJ9_max_7cf53_2 : decode cJ9_max_7cf53 2 = .ok (.if_icmp .lt 7, 3) := by decide +kernel
theorem dJ9_max_7cf53_5 : decode cJ9_max_7cf53 5 = .ok (.iload_n 0, 1) := by decide +kernel
theorem dJ9_max_7cf53_6 : decode cJ9_max_7cf53 6 = .ok (.goto 4, 3) := by decide +kernel
theorem dJ9_max_7cf53_9 : decode cJ9_max_7cf53 9 = .ok (.iload_n 1, 1) := by decide +kernel
theorem dJ9_max_7cf53_10 : decode cJ9_max_7cf53 10 = .ok (.ireturn, 1) := by decide +kernel
theorem dJ9_max_f86c9_0 : decode cJ9_max_f86c9 0 = .ok (.lload_n 0, 1) := by decide +kernel
theorem dJ9_max_f86c9_1 : decode cJ9_max_f86c9 1 = .ok (.lload_n 2, 1) := by decide +kernel
theorem dJ9_max_f86c9_2 : decode cJ9_max_f86c9 2 = .ok (.lcmp, 1) := by decide +kernel
theorem dJ9_max_f86c9_3 : decode cJ9_max_f86c9 3 = .ok (.ifCond .lt 7, 3) := by decide +kernel
theorem dJ9_max_f86c9_6 : decode cJ9_max_f86c9 6 = .ok (.lload_n 0, 1) := by decide +kernel
theorem dJ9_max_f86c9_7 : decode cJ9_max_f86c9 7 = .ok (.goto 4, 3) := by decide +kernel
theorem dJ9_max_f86c9_10 : decode cJ9_max_f86c9 10 = .ok (.lload_n 2, 1) := by decide +kernel
theorem dJ9_max_f86c9_11 : decode cJ9_max_f86c9 11 = .ok (.lreturn, 1) := by decide +kernel
theorem dJ9_min_7cf53_0 : decode cJ9_min_7cf53 0 = .ok (.iload_n 0, 1) := by decide +kernel
theorem dJ9_min_7cf53_1 : decode cJ9_min_7cf53 1 = .ok (.iload_n 1, 1) := by decide +kernel
theorem dJ9_min_7cf53_2 : decode cJ9_min_7cf53 2 = .ok (.if_icmp .gt 7, 3) := by decide +kernel
theorem dJ9_min_7cf53_5 : decode cJ9_min_7cf53 5 = .ok (.iload_n 0, 1) := by decide +kernel
theorem dJ9_min_7cf53_6 : decode cJ9_min_7cf53 6 = .ok (.goto 4, 3) := by decide +kernel
theorem dJ9_min_7cf53_9 : decode cJ9_min_7cf53 9 = .ok (.iload_n 1, 1) := by decide +kernel
theorem dJ9_min_7cf53_10 : decode cJ9_min_7cf53 10 = .ok (.ireturn, 1) := by decide +kernel
theorem dJ7_fill_53178_0 : decode cJ7_fill_53178 0 = .ok (.iconst 0, 1) := by decide +kernel
theorem dJ7_fill_53178_1 : decode cJ7_fill_53178 1 = .ok (.istore_n 2, 1) := by decide +kernel
theorem dJ7_fill_53178_2 : decode cJ7_fill_53178 2 = .ok (.aload_n 0, 1) := by decide +kernel
theorem dJ7_fill_53178_3 : decode cJ7_fill_53178 3 = .ok (.arraylength, 1) := by decide +kernel
theorem dJ7_fill_53178_4 : decode cJ7_fill_53178 4 = .ok (.istore_n 3, 1) := by decide +kernel
theorem dJ7_fill_53178_5 : decode cJ7_fill_53178 5 = .ok (.iload_n 2, 1) := by decide +kernel
theorem dJ7_fill_53178_6 : decode cJ7_fill_53178 6 = .ok (.iload_n 3, 1) := by decide +kernel
theorem dJ7_fill_53178_7 : decode cJ7_fill_53178 7 = .ok (.if_icmp .ge 13, 3) := by decide +kernel
theorem dJ7_fill_53178_10 : decode cJ7_fill_53178 10 = .ok (.aload_n 0, 1) := by decide +kernel
theorem dJ7_fill_53178_11 : decode cJ7_fill_53178 11 = .ok (.iload_n 2, 1) := by decide +kernel
theorem dJ7_fill_53178_12 : decode cJ7_fill_53178 12 = .ok (.iload_n 1, 1) := by decide +kernel
theorem dJ7_fill_53178_13 : decode cJ7_fill_53178 13 = .ok (.iastore, 1) := by decide +kernel
theorem dJ7_fill_53178_14 : decode cJ7_fill_53178 14 = .ok (.iinc 2 1, 3) := by decide +kernel
theorem dJ7_fill_53178_17 : decode cJ7_fill_53178 17 = .ok (.goto (-12), 3) := by decide +kernel
theorem dJ7_fill_53178_20 : decode cJ7_fill_53178 20 = .ok (.return_, 1) := by decide +kernel
theorem dL_law_0 : decode cL_law 0 = .ok (.new 7, 3) := by decide +kernel
theorem dL_law_3 : decode cL_law 3 = .ok (.dup, 1) := by decide +kernel
theorem dL_law_4 : decode cL_law 4 = .ok (.invokespecial 9, 3) := by decide +kernel
theorem dL_law_7 : decode cL_law 7 = .ok (.astore_n 1, 1) := by decide +kernel
theorem dL_law_8 : decode cL_law 8 = .ok (.new 10, 3) := by decide +kernel
theorem dL_law_11 : decode cL_law 11 = .ok (.dup, 1) := by decide +kernel
theorem dL_law_12 : decode cL_law 12 = .ok (.invokespecial 12, 3) := by decide +kernel
theorem dL_law_15 : decode cL_law 15 = .ok (.astore_n 2, 1) := by decide +kernel
theorem dL_law_16 : decode cL_law 16 = .ok (.iconst 0, 1) := by decide +kernel
theorem dL_law_17 : decode cL_law 17 = .ok (.istore_n 3, 1) := by decide +kernel
theorem dL_law_18 : decode cL_law 18 = .ok (.iload_n 3, 1) := by decide +kernel
theorem dL_law_19 : decode cL_law 19 = .ok (.aload_n 0, 1) := by decide +kernel
theorem dL_law_20 : decode cL_law 20 = .ok (.arraylength, 1) := by decide +kernel
theorem dL_law_21 : decode cL_law 21 = .ok (.bipush 7, 2) := by decide +kernel
theorem dL_law_23 : decode cL_law 23 = .ok (.isub, 1) := by decide +kernel
theorem dL_law_24 : decode cL_law 24 = .ok (.if_icmp .gt 764, 3) := by decide +kernel
theorem dL_law_27 : decode cL_law 27 = .ok (.aload_n 0, 1) := by decide +kernel
theorem dL_law_28 : decode cL_law 28 = .ok (.iload_n 3, 1) := by decide +kernel
theorem dL_law_29 : decode cL_law 29 = .ok (.iaload, 1) := by decide +kernel
theorem dL_law_30 : decode cL_law 30 = .ok (.bipush 31, 2) := by decide +kernel
theorem dL_law_32 : decode cL_law 32 = .ok (.iand, 1) := by decide +kernel
theorem dL_law_33 : decode cL_law 33 = .ok (.tableswitch 749 0 19 #[95, 118, 151, 194, 217, 292, 315, 348, 381, 414, 437, 460, 504, 538, 581, 624, 667, 680, 703, 726], 95) := by decide +kernel
theorem dL_law_128 : decode cL_law 128 = .ok (.aload_n 1, 1) := by decide +kernel
theorem dL_law_129 : decode cL_law 129 = .ok (.aload_n 0, 1) := by decide +kernel
theorem dL_law_130 : decode cL_law 130 = .ok (.iload_n 3, 1) := by decide +kernel
theorem dL_law_131 : decode cL_law 131 = .ok (.iconst 1, 1) := by decide +kernel
theorem dL_law_132 : decode cL_law 132 = .ok (.iadd, 1) := by decide +kernel
theorem dL_law_133 : decode cL_law 133 = .ok (.iaload, 1) := by decide +kernel
theorem dL_law_134 : decode cL_law 134 = .ok (.invokevirtual 13, 3) := by decide +kernel
theorem dL_law_137 : decode cL_law 137 = .ok (.aload_n 2, 1) := by decide +kernel
theorem dL_law_138 : decode cL_law 138 = .ok (.aload_n 0, 1) := by decide +kernel
theorem dL_law_139 : decode cL_law 139 = .ok (.iload_n 3, 1) := by decide +kernel
theorem dL_law_140 : decode cL_law 140 = .ok (.iconst 1, 1) := by decide +kernel
theorem dL_law_141 : decode cL_law 141 = .ok (.iadd, 1) := by decide +kernel
theorem dL_law_142 : decode cL_law 142 = .ok (.iaload, 1) := by decide +kernel
theorem dL_law_143 : decode cL_law 143 = .ok (.invokevirtual 17, 3) := by decide +kernel
theorem dL_law_146 : decode cL_law 146 = .ok (.if_icmp .eq 636, 3) := by decide +kernel
theorem dL_law_149 : decode cL_law 149 = .ok (.iconst 0, 1) := by decide +kernel
theorem dL_law_150 : decode cL_law 150 = .ok (.ireturn, 1) := by decide +kernel
theorem dL_law_151 : decode cL_law 151 = .ok (.aload_n 1, 1) := by decide +kernel
theorem dL_law_152 : decode cL_law 152 = .ok (.aload_n 0, 1) := by decide +kernel
theorem dL_law_153 : decode cL_law 153 = .ok (.iload_n 3, 1) := by decide +kernel
theorem dL_law_154 : decode cL_law 154 = .ok (.iconst 1, 1) := by decide +kernel
theorem dL_law_155 : decode cL_law 155 = .ok (.iadd, 1) := by decide +kernel
theorem dL_law_156 : decode cL_law 156 = .ok (.iaload, 1) := by decide +kernel
theorem dL_law_157 : decode cL_law 157 = .ok (.aload_n 0, 1) := by decide +kernel
theorem dL_law_158 : decode cL_law 158 = .ok (.iload_n 3, 1) := by decide +kernel
theorem dL_law_159 : decode cL_law 159 = .ok (.iconst 2, 1) := by decide +kernel
theorem dL_law_160 : decode cL_law 160 = .ok (.iadd, 1) := by decide +kernel
theorem dL_law_161 : decode cL_law 161 = .ok (.iaload, 1) := by decide +kernel
theorem dL_law_162 : decode cL_law 162 = .ok (.invokevirtual 18, 3) := by decide +kernel
theorem dL_law_165 : decode cL_law 165 = .ok (.aload_n 2, 1) := by decide +kernel
theorem dL_law_166 : decode cL_law 166 = .ok (.aload_n 0, 1) := by decide +kernel
theorem dL_law_167 : decode cL_law 167 = .ok (.iload_n 3, 1) := by decide +kernel
theorem dL_law_168 : decode cL_law 168 = .ok (.iconst 1, 1) := by decide +kernel
theorem dL_law_169 : decode cL_law 169 = .ok (.iadd, 1) := by decide +kernel
theorem dL_law_170 : decode cL_law 170 = .ok (.iaload, 1) := by decide +kernel
theorem dL_law_171 : decode cL_law 171 = .ok (.aload_n 0, 1) := by decide +kernel
theorem dL_law_172 : decode cL_law 172 = .ok (.iload_n 3, 1) := by decide +kernel
theorem dL_law_173 : decode cL_law 173 = .ok (.iconst 2, 1) := by decide +kernel
theorem dL_law_174 : decode cL_law 174 = .ok (.iadd, 1) := by decide +kernel
theorem dL_law_175 : decode cL_law 175 = .ok (.iaload, 1) := by decide +kernel
theorem dL_law_176 : decode cL_law 176 = .ok (.invokevirtual 22, 3) := by decide +kernel
theorem dL_law_179 : decode cL_law 179 = .ok (.if_icmp .eq 603, 3) := by decide +kernel
theorem dL_law_182 : decode cL_law 182 = .ok (.iconst 0, 1) := by decide +kernel
theorem dL_law_183 : decode cL_law 183 = .ok (.ireturn, 1) := by decide +kernel
theorem dL_law_184 : decode cL_law 184 = .ok (.aload_n 1, 1) := by decide +kernel
theorem dL_law_185 : decode cL_law 185 = .ok (.aload_n 0, 1) := by decide +kernel
theorem dL_law_186 : decode cL_law 186 = .ok (.iload_n 3, 1) := by decide +kernel
theorem dL_law_187 : decode cL_law 187 = .ok (.iconst 1, 1) := by decide +kernel
theorem dL_law_188 : decode cL_law 188 = .ok (.iadd, 1) := by decide +kernel
theorem dL_law_189 : decode cL_law 189 = .ok (.iaload, 1) := by decide +kernel
theorem dL_law_190 : decode cL_law 190 = .ok (.aload_n 0, 1) := by decide +kernel
theorem dL_law_191 : decode cL_law 191 = .ok (.iload_n 3, 1) := by decide +kernel
theorem dL_law_192 : decode cL_law 192 = .ok (.iconst 2, 1) := by decide +kernel
theorem dL_law_193 : decode cL_law 193 = .ok (.iadd, 1) := by decide +kernel
theorem dL_law_194 : decode cL_law 194 = .ok (.iaload, 1) := by decide +kernel
theorem dL_law_195 : decode cL_law 195 = .ok (.aload_n 0, 1) := by decide +kernel
theorem dL_law_196 : decode cL_law 196 = .ok (.iload_n 3, 1) := by decide +kernel
theorem dL_law_197 : decode cL_law 197 = .ok (.iconst 3, 1) := by decide +kernel
theorem dL_law_198 : decode cL_law 198 = .ok (.iadd, 1) := by decide +kernel
theorem dL_law_199 : decode cL_law 199 = .ok (.iaload, 1) := by decide +kernel
theorem dL_law_200 : decode cL_law 200 = .ok (.invokevirtual 23, 3) := by decide +kernel
theorem dL_law_203 : decode cL_law 203 = .ok (.aload_n 2, 1) := by decide +kernel
theorem dL_law_204 : decode cL_law 204 = .ok (.aload_n 0, 1) := by decide +kernel
theorem dL_law_205 : decode cL_law 205 = .ok (.iload_n 3, 1) := by decide +kernel
theorem dL_law_206 : decode cL_law 206 = .ok (.iconst 1, 1) := by decide +kernel
theorem dL_law_207 : decode cL_law 207 = .ok (.iadd, 1) := by decide +kernel
theorem dL_law_208 : decode cL_law 208 = .ok (.iaload, 1) := by decide +kernel
theorem dL_law_209 : decode cL_law 209 = .ok (.aload_n 0, 1) := by decide +kernel
theorem dL_law_210 : decode cL_law 210 = .ok (.iload_n 3, 1) := by decide +kernel
theorem dL_law_211 : decode cL_law 211 = .ok (.iconst 2, 1) := by decide +kernel
theorem dL_law_212 : decode cL_law 212 = .ok (.iadd, 1) := by decide +kernel
theorem dL_law_213 : decode cL_law 213 = .ok (.iaload, 1) := by decide +kernel
theorem dL_law_214 : decode cL_law 214 = .ok (.aload_n 0, 1) := by decide +kernel
theorem dL_law_215 : decode cL_law 215 = .ok (.iload_n 3, 1) := by decide +kernel
theorem dL_law_216 : decode cL_law 216 = .ok (.iconst 3, 1) := by decide +kernel
theorem dL_law_217 : decode cL_law 217 = .ok (.iadd, 1) := by decide +kernel
theorem dL_law_218 : decode cL_law 218 = .ok (.iaload, 1) := by decide +kernel
theorem dL_law_219 : decode cL_law 219 = .ok (.invokevirtual 27, 3) := by decide +kernel
theorem dL_law_222 : decode cL_law 222 = .ok (.if_icmp .eq 560, 3) := by decide +kernel
theorem dL_law_225 : decode cL_law 225 = .ok (.iconst 0, 1) := by decide +kernel
theorem dL_law_226 : decode cL_law 226 = .ok (.ireturn, 1) := by decide +kernel
theorem dL_law_227 : decode cL_law 227 = .ok (.aload_n 1, 1) := by decide +kernel
theorem dL_law_228 : decode cL_law 228 = .ok (.aload_n 0, 1) := by decide +kernel
theorem dL_law_229 : decode cL_law 229 = .ok (.iload_n 3, 1) := by decide +kernel
theorem dL_law_230 : decode cL_law 230 = .ok (.iconst 1, 1) := by decide +kernel
theorem dL_law_231 : decode cL_law 231 = .ok (.iadd, 1) := by decide +kernel
theorem dL_law_232 : decode cL_law 232 = .ok (.iaload, 1) := by decide +kernel
theorem dL_law_233 : decode cL_law 233 = .ok (.invokevirtual 28, 3) := by decide +kernel
theorem dL_law_236 : decode cL_law 236 = .ok (.aload_n 2, 1) := by decide +kernel
theorem dL_law_237 : decode cL_law 237 = .ok (.aload_n 0, 1) := by decide +kernel
theorem dL_law_238 : decode cL_law 238 = .ok (.iload_n 3, 1) := by decide +kernel
theorem dL_law_239 : decode cL_law 239 = .ok (.iconst 1, 1) := by decide +kernel
theorem dL_law_240 : decode cL_law 240 = .ok (.iadd, 1) := by decide +kernel
theorem dL_law_241 : decode cL_law 241 = .ok (.iaload, 1) := by decide +kernel
theorem dL_law_242 : decode cL_law 242 = .ok (.invokevirtual 31, 3) := by decide +kernel
theorem dL_law_245 : decode cL_law 245 = .ok (.if_icmp .eq 537, 3) := by decide +kernel
theorem dL_law_248 : decode cL_law 248 = .ok (.iconst 0, 1) := by decide +kernel
theorem dL_law_249 : decode cL_law 249 = .ok (.ireturn, 1) := by decide +kernel
theorem dL_law_250 : decode cL_law 250 = .ok (.aload_n 1, 1) := by decide +kernel
theorem dL_law_251 : decode cL_law 251 = .ok (.aload_n 0, 1) := by decide +kernel
theorem dL_law_252 : decode cL_law 252 = .ok (.iload_n 3, 1) := by decide +kernel
theorem dL_law_253 : decode cL_law 253 = .ok (.iconst 1, 1) := by decide +kernel
theorem dL_law_254 : decode cL_law 254 = .ok (.iadd, 1) := by decide +kernel
theorem dL_law_255 : decode cL_law 255 = .ok (.iaload, 1) := by decide +kernel
theorem dL_law_256 : decode cL_law 256 = .ok (.aload_n 0, 1) := by decide +kernel
theorem dL_law_257 : decode cL_law 257 = .ok (.iload_n 3, 1) := by decide +kernel
theorem dL_law_258 : decode cL_law 258 = .ok (.iconst 2, 1) := by decide +kernel
theorem dL_law_259 : decode cL_law 259 = .ok (.iadd, 1) := by decide +kernel
theorem dL_law_260 : decode cL_law 260 = .ok (.iaload, 1) := by decide +kernel
theorem dL_law_261 : decode cL_law 261 = .ok (.aload_n 0, 1) := by decide +kernel
theorem dL_law_262 : decode cL_law 262 = .ok (.iload_n 3, 1) := by decide +kernel
theorem dL_law_263 : decode cL_law 263 = .ok (.iconst 3, 1) := by decide +kernel
theorem dL_law_264 : decode cL_law 264 = .ok (.iadd, 1) := by decide +kernel
theorem dL_law_265 : decode cL_law 265 = .ok (.iaload, 1) := by decide +kernel
theorem dL_law_266 : decode cL_law 266 = .ok (.aload_n 0, 1) := by decide +kernel
theorem dL_law_267 : decode cL_law 267 = .ok (.iload_n 3, 1) := by decide +kernel
theorem dL_law_268 : decode cL_law 268 = .ok (.iconst 4, 1) := by decide +kernel
theorem dL_law_269 : decode cL_law 269 = .ok (.iadd, 1) := by decide +kernel
theorem dL_law_270 : decode cL_law 270 = .ok (.iaload, 1) := by decide +kernel
theorem dL_law_271 : decode cL_law 271 = .ok (.aload_n 0, 1) := by decide +kernel
theorem dL_law_272 : decode cL_law 272 = .ok (.iload_n 3, 1) := by decide +kernel
theorem dL_law_273 : decode cL_law 273 = .ok (.iconst 5, 1) := by decide +kernel
theorem dL_law_274 : decode cL_law 274 = .ok (.iadd, 1) := by decide +kernel
theorem dL_law_275 : decode cL_law 275 = .ok (.iaload, 1) := by decide +kernel
theorem dL_law_276 : decode cL_law 276 = .ok (.aload_n 0, 1) := by decide +kernel
theorem dL_law_277 : decode cL_law 277 = .ok (.iload_n 3, 1) := by decide +kernel
theorem dL_law_278 : decode cL_law 278 = .ok (.bipush 6, 2) := by decide +kernel
theorem dL_law_280 : decode cL_law 280 = .ok (.iadd, 1) := by decide +kernel
theorem dL_law_281 : decode cL_law 281 = .ok (.iaload, 1) := by decide +kernel
theorem dL_law_282 : decode cL_law 282 = .ok (.invokevirtual 32, 3) := by decide +kernel
theorem dL_law_285 : decode cL_law 285 = .ok (.aload_n 2, 1) := by decide +kernel
theorem dL_law_286 : decode cL_law 286 = .ok (.aload_n 0, 1) := by decide +kernel
theorem dL_law_287 : decode cL_law 287 = .ok (.iload_n 3, 1) := by decide +kernel
theorem dL_law_288 : decode cL_law 288 = .ok (.iconst 1, 1) := by decide +kernel
theorem dL_law_289 : decode cL_law 289 = .ok (.iadd, 1) := by decide +kernel
theorem dL_law_290 : decode cL_law 290 = .ok (.iaload, 1) := by decide +kernel
theorem dL_law_291 : decode cL_law 291 = .ok (.aload_n 0, 1) := by decide +kernel
theorem dL_law_292 : decode cL_law 292 = .ok (.iload_n 3, 1) := by decide +kernel
theorem dL_law_293 : decode cL_law 293 = .ok (.iconst 2, 1) := by decide +kernel
theorem dL_law_294 : decode cL_law 294 = .ok (.iadd, 1) := by decide +kernel
theorem dL_law_295 : decode cL_law 295 = .ok (.iaload, 1) := by decide +kernel
theorem dL_law_296 : decode cL_law 296 = .ok (.aload_n 0, 1) := by decide +kernel
theorem dL_law_297 : decode cL_law 297 = .ok (.iload_n 3, 1) := by decide +kernel
theorem dL_law_298 : decode cL_law 298 = .ok (.iconst 3, 1) := by decide +kernel
theorem dL_law_299 : decode cL_law 299 = .ok (.iadd, 1) := by decide +kernel
theorem dL_law_300 : decode cL_law 300 = .ok (.iaload, 1) := by decide +kernel
theorem dL_law_301 : decode cL_law 301 = .ok (.aload_n 0, 1) := by decide +kernel
theorem dL_law_302 : decode cL_law 302 = .ok (.iload_n 3, 1) := by decide +kernel
theorem dL_law_303 : decode cL_law 303 = .ok (.iconst 4, 1) := by decide +kernel
theorem dL_law_304 : decode cL_law 304 = .ok (.iadd, 1) := by decide +kernel
theorem dL_law_305 : decode cL_law 305 = .ok (.iaload, 1) := by decide +kernel
theorem dL_law_306 : decode cL_law 306 = .ok (.aload_n 0, 1) := by decide +kernel
theorem dL_law_307 : decode cL_law 307 = .ok (.iload_n 3, 1) := by decide +kernel
theorem dL_law_308 : decode cL_law 308 = .ok (.iconst 5, 1) := by decide +kernel
theorem dL_law_309 : decode cL_law 309 = .ok (.iadd, 1) := by decide +kernel
theorem dL_law_310 : decode cL_law 310 = .ok (.iaload, 1) := by decide +kernel
theorem dL_law_311 : decode cL_law 311 = .ok (.aload_n 0, 1) := by decide +kernel
theorem dL_law_312 : decode cL_law 312 = .ok (.iload_n 3, 1) := by decide +kernel
theorem dL_law_313 : decode cL_law 313 = .ok (.bipush 6, 2) := by decide +kernel
theorem dL_law_315 : decode cL_law 315 = .ok (.iadd, 1) := by decide +kernel
theorem dL_law_316 : decode cL_law 316 = .ok (.iaload, 1) := by decide +kernel
theorem dL_law_317 : decode cL_law 317 = .ok (.invokevirtual 36, 3) := by decide +kernel
theorem dL_law_320 : decode cL_law 320 = .ok (.if_icmp .eq 462, 3) := by decide +kernel
theorem dL_law_323 : decode cL_law 323 = .ok (.iconst 0, 1) := by decide +kernel
theorem dL_law_324 : decode cL_law 324 = .ok (.ireturn, 1) := by decide +kernel
theorem dL_law_325 : decode cL_law 325 = .ok (.aload_n 1, 1) := by decide +kernel
theorem dL_law_326 : decode cL_law 326 = .ok (.aload_n 0, 1) := by decide +kernel
theorem dL_law_327 : decode cL_law 327 = .ok (.iload_n 3, 1) := by decide +kernel
theorem dL_law_328 : decode cL_law 328 = .ok (.iconst 1, 1) := by decide +kernel
theorem dL_law_329 : decode cL_law 329 = .ok (.iadd, 1) := by decide +kernel
theorem dL_law_330 : decode cL_law 330 = .ok (.iaload, 1) := by decide +kernel
theorem dL_law_331 : decode cL_law 331 = .ok (.invokevirtual 37, 3) := by decide +kernel
theorem dL_law_334 : decode cL_law 334 = .ok (.aload_n 2, 1) := by decide +kernel
theorem dL_law_335 : decode cL_law 335 = .ok (.aload_n 0, 1) := by decide +kernel
theorem dL_law_336 : decode cL_law 336 = .ok (.iload_n 3, 1) := by decide +kernel
theorem dL_law_337 : decode cL_law 337 = .ok (.iconst 1, 1) := by decide +kernel
theorem dL_law_338 : decode cL_law 338 = .ok (.iadd, 1) := by decide +kernel
theorem dL_law_339 : decode cL_law 339 = .ok (.iaload, 1) := by decide +kernel
theorem dL_law_340 : decode cL_law 340 = .ok (.invokevirtual 40, 3) := by decide +kernel
theorem dL_law_343 : decode cL_law 343 = .ok (.if_icmp .eq 439, 3) := by decide +kernel
theorem dL_law_346 : decode cL_law 346 = .ok (.iconst 0, 1) := by decide +kernel
theorem dL_law_347 : decode cL_law 347 = .ok (.ireturn, 1) := by decide +kernel
theorem dL_law_348 : decode cL_law 348 = .ok (.aload_n 1, 1) := by decide +kernel
theorem dL_law_349 : decode cL_law 349 = .ok (.aload_n 0, 1) := by decide +kernel
theorem dL_law_350 : decode cL_law 350 = .ok (.iload_n 3, 1) := by decide +kernel
theorem dL_law_351 : decode cL_law 351 = .ok (.iconst 1, 1) := by decide +kernel
theorem dL_law_352 : decode cL_law 352 = .ok (.iadd, 1) := by decide +kernel
theorem dL_law_353 : decode cL_law 353 = .ok (.iaload, 1) := by decide +kernel
theorem dL_law_354 : decode cL_law 354 = .ok (.aload_n 0, 1) := by decide +kernel
theorem dL_law_355 : decode cL_law 355 = .ok (.iload_n 3, 1) := by decide +kernel
theorem dL_law_356 : decode cL_law 356 = .ok (.iconst 2, 1) := by decide +kernel
theorem dL_law_357 : decode cL_law 357 = .ok (.iadd, 1) := by decide +kernel
theorem dL_law_358 : decode cL_law 358 = .ok (.iaload, 1) := by decide +kernel
theorem dL_law_359 : decode cL_law 359 = .ok (.invokevirtual 41, 3) := by decide +kernel
theorem dL_law_362 : decode cL_law 362 = .ok (.aload_n 2, 1) := by decide +kernel
theorem dL_law_363 : decode cL_law 363 = .ok (.aload_n 0, 1) := by decide +kernel
theorem dL_law_364 : decode cL_law 364 = .ok (.iload_n 3, 1) := by decide +kernel
theorem dL_law_365 : decode cL_law 365 = .ok (.iconst 1, 1) := by decide +kernel
theorem dL_law_366 : decode cL_law 366 = .ok (.iadd, 1) := by decide +kernel
theorem dL_law_367 : decode cL_law 367 = .ok (.iaload, 1) := by decide +kernel
theorem dL_law_368 : decode cL_law 368 = .ok (.aload_n 0, 1) := by decide +kernel
theorem dL_law_369 : decode cL_law 369 = .ok (.iload_n 3, 1) := by decide +kernel
theorem dL_law_370 : decode cL_law 370 = .ok (.iconst 2, 1) := by decide +kernel
theorem dL_law_371 : decode cL_law 371 = .ok (.iadd, 1) := by decide +kernel
theorem dL_law_372 : decode cL_law 372 = .ok (.iaload, 1) := by decide +kernel
theorem dL_law_373 : decode cL_law 373 = .ok (.invokevirtual 44, 3) := by decide +kernel
theorem dL_law_376 : decode cL_law 376 = .ok (.if_icmp .eq 406, 3) := by decide +kernel
theorem dL_law_379 : decode cL_law 379 = .ok (.iconst 0, 1) := by decide +kernel
theorem dL_law_380 : decode cL_law 380 = .ok (.ireturn, 1) := by decide +kernel
theorem dL_law_381 : decode cL_law 381 = .ok (.aload_n 1, 1) := by decide +kernel
theorem dL_law_382 : decode cL_law 382 = .ok (.aload_n 0, 1) := by decide +kernel
theorem dL_law_383 : decode cL_law 383 = .ok (.iload_n 3, 1) := by decide +kernel
theorem dL_law_384 : decode cL_law 384 = .ok (.iconst 1, 1) := by decide +kernel
theorem dL_law_385 : decode cL_law 385 = .ok (.iadd, 1) := by decide +kernel
theorem dL_law_386 : decode cL_law 386 = .ok (.iaload, 1) := by decide +kernel
theorem dL_law_387 : decode cL_law 387 = .ok (.aload_n 0, 1) := by decide +kernel
theorem dL_law_388 : decode cL_law 388 = .ok (.iload_n 3, 1) := by decide +kernel
theorem dL_law_389 : decode cL_law 389 = .ok (.iconst 2, 1) := by decide +kernel
theorem dL_law_390 : decode cL_law 390 = .ok (.iadd, 1) := by decide +kernel
theorem dL_law_391 : decode cL_law 391 = .ok (.iaload, 1) := by decide +kernel
theorem dL_law_392 : decode cL_law 392 = .ok (.invokevirtual 45, 3) := by decide +kernel
theorem dL_law_395 : decode cL_law 395 = .ok (.aload_n 2, 1) := by decide +kernel
theorem dL_law_396 : decode cL_law 396 = .ok (.aload_n 0, 1) := by decide +kernel
theorem dL_law_397 : decode cL_law 397 = .ok (.iload_n 3, 1) := by decide +kernel
theorem dL_law_398 : decode cL_law 398 = .ok (.iconst 1, 1) := by decide +kernel
theorem dL_law_399 : decode cL_law 399 = .ok (.iadd, 1) := by decide +kernel
theorem dL_law_400 : decode cL_law 400 = .ok (.iaload, 1) := by decide +kernel
theorem dL_law_401 : decode cL_law 401 = .ok (.aload_n 0, 1) := by decide +kernel
theorem dL_law_402 : decode cL_law 402 = .ok (.iload_n 3, 1) := by decide +kernel
theorem dL_law_403 : decode cL_law 403 = .ok (.iconst 2, 1) := by decide +kernel
theorem dL_law_404 : decode cL_law 404 = .ok (.iadd, 1) := by decide +kernel
theorem dL_law_405 : decode cL_law 405 = .ok (.iaload, 1) := by decide +kernel
theorem dL_law_406 : decode cL_law 406 = .ok (.invokevirtual 48, 3) := by decide +kernel
theorem dL_law_409 : decode cL_law 409 = .ok (.if_icmp .eq 373, 3) := by decide +kernel
theorem dL_law_412 : decode cL_law 412 = .ok (.iconst 0, 1) := by decide +kernel
theorem dL_law_413 : decode cL_law 413 = .ok (.ireturn, 1) := by decide +kernel
theorem dL_law_414 : decode cL_law 414 = .ok (.aload_n 1, 1) := by decide +kernel
theorem dL_law_415 : decode cL_law 415 = .ok (.aload_n 0, 1) := by decide +kernel
theorem dL_law_416 : decode cL_law 416 = .ok (.iload_n 3, 1) := by decide +kernel
theorem dL_law_417 : decode cL_law 417 = .ok (.iconst 1, 1) := by decide +kernel
theorem dL_law_418 : decode cL_law 418 = .ok (.iadd, 1) := by decide +kernel
theorem dL_law_419 : decode cL_law 419 = .ok (.iaload, 1) := by decide +kernel
theorem dL_law_420 : decode cL_law 420 = .ok (.aload_n 0, 1) := by decide +kernel
theorem dL_law_421 : decode cL_law 421 = .ok (.iload_n 3, 1) := by decide +kernel
theorem dL_law_422 : decode cL_law 422 = .ok (.iconst 2, 1) := by decide +kernel
theorem dL_law_423 : decode cL_law 423 = .ok (.iadd, 1) := by decide +kernel
theorem dL_law_424 : decode cL_law 424 = .ok (.iaload, 1) := by decide +kernel
theorem dL_law_425 : decode cL_law 425 = .ok (.invokevirtual 49, 3) := by decide +kernel
theorem dL_law_428 : decode cL_law 428 = .ok (.aload_n 2, 1) := by decide +kernel
theorem dL_law_429 : decode cL_law 429 = .ok (.aload_n 0, 1) := by decide +kernel
theorem dL_law_430 : decode cL_law 430 = .ok (.iload_n 3, 1) := by decide +kernel
theorem dL_law_431 : decode cL_law 431 = .ok (.iconst 1, 1) := by decide +kernel
theorem dL_law_432 : decode cL_law 432 = .ok (.iadd, 1) := by decide +kernel
theorem dL_law_433 : decode cL_law 433 = .ok (.iaload, 1) := by decide +kernel
theorem dL_law_434 : decode cL_law 434 = .ok (.aload_n 0, 1) := by decide +kernel
theorem dL_law_435 : decode cL_law 435 = .ok (.iload_n 3, 1) := by decide +kernel
theorem dL_law_436 : decode cL_law 436 = .ok (.iconst 2, 1) := by decide +kernel
theorem dL_law_437 : decode cL_law 437 = .ok (.iadd, 1) := by decide +kernel
theorem dL_law_438 : decode cL_law 438 = .ok (.iaload, 1) := by decide +kernel
theorem dL_law_439 : decode cL_law 439 = .ok (.invokevirtual 52, 3) := by decide +kernel
theorem dL_law_442 : decode cL_law 442 = .ok (.if_icmp .eq 340, 3) := by decide +kernel
theorem dL_law_445 : decode cL_law 445 = .ok (.iconst 0, 1) := by decide +kernel
theorem dL_law_446 : decode cL_law 446 = .ok (.ireturn, 1) := by decide +kernel
theorem dL_law_447 : decode cL_law 447 = .ok (.aload_n 1, 1) := by decide +kernel
theorem dL_law_448 : decode cL_law 448 = .ok (.aload_n 0, 1) := by decide +kernel
theorem dL_law_449 : decode cL_law 449 = .ok (.iload_n 3, 1) := by decide +kernel
theorem dL_law_450 : decode cL_law 450 = .ok (.iconst 1, 1) := by decide +kernel
theorem dL_law_451 : decode cL_law 451 = .ok (.iadd, 1) := by decide +kernel
theorem dL_law_452 : decode cL_law 452 = .ok (.iaload, 1) := by decide +kernel
theorem dL_law_453 : decode cL_law 453 = .ok (.invokevirtual 53, 3) := by decide +kernel
theorem dL_law_456 : decode cL_law 456 = .ok (.aload_n 2, 1) := by decide +kernel
theorem dL_law_457 : decode cL_law 457 = .ok (.aload_n 0, 1) := by decide +kernel
theorem dL_law_458 : decode cL_law 458 = .ok (.iload_n 3, 1) := by decide +kernel
theorem dL_law_459 : decode cL_law 459 = .ok (.iconst 1, 1) := by decide +kernel
theorem dL_law_460 : decode cL_law 460 = .ok (.iadd, 1) := by decide +kernel
theorem dL_law_461 : decode cL_law 461 = .ok (.iaload, 1) := by decide +kernel
theorem dL_law_462 : decode cL_law 462 = .ok (.invokevirtual 56, 3) := by decide +kernel
theorem dL_law_465 : decode cL_law 465 = .ok (.if_icmp .eq 317, 3) := by decide +kernel
theorem dL_law_468 : decode cL_law 468 = .ok (.iconst 0, 1) := by decide +kernel
theorem dL_law_469 : decode cL_law 469 = .ok (.ireturn, 1) := by decide +kernel
theorem dL_law_470 : decode cL_law 470 = .ok (.aload_n 1, 1) := by decide +kernel
theorem dL_law_471 : decode cL_law 471 = .ok (.aload_n 0, 1) := by decide +kernel
theorem dL_law_472 : decode cL_law 472 = .ok (.iload_n 3, 1) := by decide +kernel
theorem dL_law_473 : decode cL_law 473 = .ok (.iconst 1, 1) := by decide +kernel
theorem dL_law_474 : decode cL_law 474 = .ok (.iadd, 1) := by decide +kernel
theorem dL_law_475 : decode cL_law 475 = .ok (.iaload, 1) := by decide +kernel
theorem dL_law_476 : decode cL_law 476 = .ok (.invokevirtual 57, 3) := by decide +kernel
theorem dL_law_479 : decode cL_law 479 = .ok (.aload_n 2, 1) := by decide +kernel
theorem dL_law_480 : decode cL_law 480 = .ok (.aload_n 0, 1) := by decide +kernel
theorem dL_law_481 : decode cL_law 481 = .ok (.iload_n 3, 1) := by decide +kernel
theorem dL_law_482 : decode cL_law 482 = .ok (.iconst 1, 1) := by decide +kernel
theorem dL_law_483 : decode cL_law 483 = .ok (.iadd, 1) := by decide +kernel
theorem dL_law_484 : decode cL_law 484 = .ok (.iaload, 1) := by decide +kernel
theorem dL_law_485 : decode cL_law 485 = .ok (.invokevirtual 60, 3) := by decide +kernel
theorem dL_law_488 : decode cL_law 488 = .ok (.if_icmp .eq 294, 3) := by decide +kernel
theorem dL_law_491 : decode cL_law 491 = .ok (.iconst 0, 1) := by decide +kernel
theorem dL_law_492 : decode cL_law 492 = .ok (.ireturn, 1) := by decide +kernel
theorem dL_law_493 : decode cL_law 493 = .ok (.aload_n 1, 1) := by decide +kernel
theorem dL_law_494 : decode cL_law 494 = .ok (.aload_n 0, 1) := by decide +kernel
theorem dL_law_495 : decode cL_law 495 = .ok (.iload_n 3, 1) := by decide +kernel
theorem dL_law_496 : decode cL_law 496 = .ok (.iconst 1, 1) := by decide +kernel
theorem dL_law_497 : decode cL_law 497 = .ok (.iadd, 1) := by decide +kernel
theorem dL_law_498 : decode cL_law 498 = .ok (.iaload, 1) := by decide +kernel
theorem dL_law_499 : decode cL_law 499 = .ok (.aload_n 0, 1) := by decide +kernel
theorem dL_law_500 : decode cL_law 500 = .ok (.iload_n 3, 1) := by decide +kernel
theorem dL_law_501 : decode cL_law 501 = .ok (.iconst 2, 1) := by decide +kernel
theorem dL_law_502 : decode cL_law 502 = .ok (.iadd, 1) := by decide +kernel
theorem dL_law_503 : decode cL_law 503 = .ok (.iaload, 1) := by decide +kernel
theorem dL_law_504 : decode cL_law 504 = .ok (.aload_n 0, 1) := by decide +kernel
theorem dL_law_505 : decode cL_law 505 = .ok (.iload_n 3, 1) := by decide +kernel
theorem dL_law_506 : decode cL_law 506 = .ok (.iconst 3, 1) := by decide +kernel
theorem dL_law_507 : decode cL_law 507 = .ok (.iadd, 1) := by decide +kernel
theorem dL_law_508 : decode cL_law 508 = .ok (.iaload, 1) := by decide +kernel
theorem dL_law_509 : decode cL_law 509 = .ok (.invokevirtual 61, 3) := by decide +kernel
theorem dL_law_512 : decode cL_law 512 = .ok (.aload_n 2, 1) := by decide +kernel
theorem dL_law_513 : decode cL_law 513 = .ok (.aload_n 0, 1) := by decide +kernel
theorem dL_law_514 : decode cL_law 514 = .ok (.iload_n 3, 1) := by decide +kernel
theorem dL_law_515 : decode cL_law 515 = .ok (.iconst 1, 1) := by decide +kernel
theorem dL_law_516 : decode cL_law 516 = .ok (.iadd, 1) := by decide +kernel
theorem dL_law_517 : decode cL_law 517 = .ok (.iaload, 1) := by decide +kernel
theorem dL_law_518 : decode cL_law 518 = .ok (.aload_n 0, 1) := by decide +kernel
theorem dL_law_519 : decode cL_law 519 = .ok (.iload_n 3, 1) := by decide +kernel
theorem dL_law_520 : decode cL_law 520 = .ok (.iconst 2, 1) := by decide +kernel
theorem dL_law_521 : decode cL_law 521 = .ok (.iadd, 1) := by decide +kernel
theorem dL_law_522 : decode cL_law 522 = .ok (.iaload, 1) := by decide +kernel
theorem dL_law_523 : decode cL_law 523 = .ok (.aload_n 0, 1) := by decide +kernel
theorem dL_law_524 : decode cL_law 524 = .ok (.iload_n 3, 1) := by decide +kernel
theorem dL_law_525 : decode cL_law 525 = .ok (.iconst 3, 1) := by decide +kernel
theorem dL_law_526 : decode cL_law 526 = .ok (.iadd, 1) := by decide +kernel
theorem dL_law_527 : decode cL_law 527 = .ok (.iaload, 1) := by decide +kernel
theorem dL_law_528 : decode cL_law 528 = .ok (.invokevirtual 65, 3) := by decide +kernel
theorem dL_law_531 : decode cL_law 531 = .ok (.lcmp, 1) := by decide +kernel
theorem dL_law_532 : decode cL_law 532 = .ok (.ifCond .eq 250, 3) := by decide +kernel
theorem dL_law_535 : decode cL_law 535 = .ok (.iconst 0, 1) := by decide +kernel
theorem dL_law_536 : decode cL_law 536 = .ok (.ireturn, 1) := by decide +kernel
theorem dL_law_537 : decode cL_law 537 = .ok (.aload_n 1, 1) := by decide +kernel
theorem dL_law_538 : decode cL_law 538 = .ok (.aload_n 0, 1) := by decide +kernel
theorem dL_law_539 : decode cL_law 539 = .ok (.iload_n 3, 1) := by decide +kernel
theorem dL_law_540 : decode cL_law 540 = .ok (.iconst 1, 1) := by decide +kernel
theorem dL_law_541 : decode cL_law 541 = .ok (.iadd, 1) := by decide +kernel
theorem dL_law_542 : decode cL_law 542 = .ok (.iaload, 1) := by decide +kernel
theorem dL_law_543 : decode cL_law 543 = .ok (.aload_n 0, 1) := by decide +kernel
theorem dL_law_544 : decode cL_law 544 = .ok (.iload_n 3, 1) := by decide +kernel
theorem dL_law_545 : decode cL_law 545 = .ok (.iconst 2, 1) := by decide +kernel
theorem dL_law_546 : decode cL_law 546 = .ok (.iadd, 1) := by decide +kernel
theorem dL_law_547 : decode cL_law 547 = .ok (.iaload, 1) := by decide +kernel
theorem dL_law_548 : decode cL_law 548 = .ok (.invokevirtual 66, 3) := by decide +kernel
theorem dL_law_551 : decode cL_law 551 = .ok (.aload_n 2, 1) := by decide +kernel
theorem dL_law_552 : decode cL_law 552 = .ok (.aload_n 0, 1) := by decide +kernel
theorem dL_law_553 : decode cL_law 553 = .ok (.iload_n 3, 1) := by decide +kernel
theorem dL_law_554 : decode cL_law 554 = .ok (.iconst 1, 1) := by decide +kernel
theorem dL_law_555 : decode cL_law 555 = .ok (.iadd, 1) := by decide +kernel
theorem dL_law_556 : decode cL_law 556 = .ok (.iaload, 1) := by decide +kernel
theorem dL_law_557 : decode cL_law 557 = .ok (.aload_n 0, 1) := by decide +kernel
theorem dL_law_558 : decode cL_law 558 = .ok (.iload_n 3, 1) := by decide +kernel
theorem dL_law_559 : decode cL_law 559 = .ok (.iconst 2, 1) := by decide +kernel
theorem dL_law_560 : decode cL_law 560 = .ok (.iadd, 1) := by decide +kernel
theorem dL_law_561 : decode cL_law 561 = .ok (.iaload, 1) := by decide +kernel
theorem dL_law_562 : decode cL_law 562 = .ok (.invokevirtual 70, 3) := by decide +kernel
theorem dL_law_565 : decode cL_law 565 = .ok (.lcmp, 1) := by decide +kernel
theorem dL_law_566 : decode cL_law 566 = .ok (.ifCond .eq 216, 3) := by decide +kernel
theorem dL_law_569 : decode cL_law 569 = .ok (.iconst 0, 1) := by decide +kernel
theorem dL_law_570 : decode cL_law 570 = .ok (.ireturn, 1) := by decide +kernel
theorem dL_law_571 : decode cL_law 571 = .ok (.aload_n 1, 1) := by decide +kernel
theorem dL_law_572 : decode cL_law 572 = .ok (.aload_n 0, 1) := by decide +kernel
theorem dL_law_573 : decode cL_law 573 = .ok (.iload_n 3, 1) := by decide +kernel
theorem dL_law_574 : decode cL_law 574 = .ok (.iconst 1, 1) := by decide +kernel
theorem dL_law_575 : decode cL_law 575 = .ok (.iadd, 1) := by decide +kernel
theorem dL_law_576 : decode cL_law 576 = .ok (.iaload, 1) := by decide +kernel
theorem dL_law_577 : decode cL_law 577 = .ok (.aload_n 0, 1) := by decide +kernel
theorem dL_law_578 : decode cL_law 578 = .ok (.iload_n 3, 1) := by decide +kernel
theorem dL_law_579 : decode cL_law 579 = .ok (.iconst 2, 1) := by decide +kernel
theorem dL_law_580 : decode cL_law 580 = .ok (.iadd, 1) := by decide +kernel
theorem dL_law_581 : decode cL_law 581 = .ok (.iaload, 1) := by decide +kernel
theorem dL_law_582 : decode cL_law 582 = .ok (.aload_n 0, 1) := by decide +kernel
theorem dL_law_583 : decode cL_law 583 = .ok (.iload_n 3, 1) := by decide +kernel
theorem dL_law_584 : decode cL_law 584 = .ok (.iconst 3, 1) := by decide +kernel
theorem dL_law_585 : decode cL_law 585 = .ok (.iadd, 1) := by decide +kernel
theorem dL_law_586 : decode cL_law 586 = .ok (.iaload, 1) := by decide +kernel
theorem dL_law_587 : decode cL_law 587 = .ok (.invokevirtual 71, 3) := by decide +kernel
theorem dL_law_590 : decode cL_law 590 = .ok (.aload_n 2, 1) := by decide +kernel
theorem dL_law_591 : decode cL_law 591 = .ok (.aload_n 0, 1) := by decide +kernel
theorem dL_law_592 : decode cL_law 592 = .ok (.iload_n 3, 1) := by decide +kernel
theorem dL_law_593 : decode cL_law 593 = .ok (.iconst 1, 1) := by decide +kernel
theorem dL_law_594 : decode cL_law 594 = .ok (.iadd, 1) := by decide +kernel
theorem dL_law_595 : decode cL_law 595 = .ok (.iaload, 1) := by decide +kernel
theorem dL_law_596 : decode cL_law 596 = .ok (.aload_n 0, 1) := by decide +kernel
theorem dL_law_597 : decode cL_law 597 = .ok (.iload_n 3, 1) := by decide +kernel
theorem dL_law_598 : decode cL_law 598 = .ok (.iconst 2, 1) := by decide +kernel
theorem dL_law_599 : decode cL_law 599 = .ok (.iadd, 1) := by decide +kernel
theorem dL_law_600 : decode cL_law 600 = .ok (.iaload, 1) := by decide +kernel
theorem dL_law_601 : decode cL_law 601 = .ok (.aload_n 0, 1) := by decide +kernel
theorem dL_law_602 : decode cL_law 602 = .ok (.iload_n 3, 1) := by decide +kernel
theorem dL_law_603 : decode cL_law 603 = .ok (.iconst 3, 1) := by decide +kernel
theorem dL_law_604 : decode cL_law 604 = .ok (.iadd, 1) := by decide +kernel
theorem dL_law_605 : decode cL_law 605 = .ok (.iaload, 1) := by decide +kernel
theorem dL_law_606 : decode cL_law 606 = .ok (.invokevirtual 74, 3) := by decide +kernel
theorem dL_law_609 : decode cL_law 609 = .ok (.if_icmp .eq 173, 3) := by decide +kernel
theorem dL_law_612 : decode cL_law 612 = .ok (.iconst 0, 1) := by decide +kernel
theorem dL_law_613 : decode cL_law 613 = .ok (.ireturn, 1) := by decide +kernel
theorem dL_law_614 : decode cL_law 614 = .ok (.aload_n 1, 1) := by decide +kernel
theorem dL_law_615 : decode cL_law 615 = .ok (.aload_n 0, 1) := by decide +kernel
theorem dL_law_616 : decode cL_law 616 = .ok (.iload_n 3, 1) := by decide +kernel
theorem dL_law_617 : decode cL_law 617 = .ok (.iconst 1, 1) := by decide +kernel
theorem dL_law_618 : decode cL_law 618 = .ok (.iadd, 1) := by decide +kernel
theorem dL_law_619 : decode cL_law 619 = .ok (.iaload, 1) := by decide +kernel
theorem dL_law_620 : decode cL_law 620 = .ok (.aload_n 0, 1) := by decide +kernel
theorem dL_law_621 : decode cL_law 621 = .ok (.iload_n 3, 1) := by decide +kernel
theorem dL_law_622 : decode cL_law 622 = .ok (.iconst 2, 1) := by decide +kernel
theorem dL_law_623 : decode cL_law 623 = .ok (.iadd, 1) := by decide +kernel
theorem dL_law_624 : decode cL_law 624 = .ok (.iaload, 1) := by decide +kernel
theorem dL_law_625 : decode cL_law 625 = .ok (.aload_n 0, 1) := by decide +kernel
theorem dL_law_626 : decode cL_law 626 = .ok (.iload_n 3, 1) := by decide +kernel
theorem dL_law_627 : decode cL_law 627 = .ok (.iconst 3, 1) := by decide +kernel
theorem dL_law_628 : decode cL_law 628 = .ok (.iadd, 1) := by decide +kernel
theorem dL_law_629 : decode cL_law 629 = .ok (.iaload, 1) := by decide +kernel
theorem dL_law_630 : decode cL_law 630 = .ok (.invokevirtual 75, 3) := by decide +kernel
theorem dL_law_633 : decode cL_law 633 = .ok (.aload_n 2, 1) := by decide +kernel
theorem dL_law_634 : decode cL_law 634 = .ok (.aload_n 0, 1) := by decide +kernel
theorem dL_law_635 : decode cL_law 635 = .ok (.iload_n 3, 1) := by decide +kernel
theorem dL_law_636 : decode cL_law 636 = .ok (.iconst 1, 1) := by decide +kernel
theorem dL_law_637 : decode cL_law 637 = .ok (.iadd, 1) := by decide +kernel
theorem dL_law_638 : decode cL_law 638 = .ok (.iaload, 1) := by decide +kernel
theorem dL_law_639 : decode cL_law 639 = .ok (.aload_n 0, 1) := by decide +kernel
theorem dL_law_640 : decode cL_law 640 = .ok (.iload_n 3, 1) := by decide +kernel
theorem dL_law_641 : decode cL_law 641 = .ok (.iconst 2, 1) := by decide +kernel
theorem dL_law_642 : decode cL_law 642 = .ok (.iadd, 1) := by decide +kernel
theorem dL_law_643 : decode cL_law 643 = .ok (.iaload, 1) := by decide +kernel
theorem dL_law_644 : decode cL_law 644 = .ok (.aload_n 0, 1) := by decide +kernel
theorem dL_law_645 : decode cL_law 645 = .ok (.iload_n 3, 1) := by decide +kernel
theorem dL_law_646 : decode cL_law 646 = .ok (.iconst 3, 1) := by decide +kernel
theorem dL_law_647 : decode cL_law 647 = .ok (.iadd, 1) := by decide +kernel
theorem dL_law_648 : decode cL_law 648 = .ok (.iaload, 1) := by decide +kernel
theorem dL_law_649 : decode cL_law 649 = .ok (.invokevirtual 78, 3) := by decide +kernel
theorem dL_law_652 : decode cL_law 652 = .ok (.if_icmp .eq 130, 3) := by decide +kernel
theorem dL_law_655 : decode cL_law 655 = .ok (.iconst 0, 1) := by decide +kernel
theorem dL_law_656 : decode cL_law 656 = .ok (.ireturn, 1) := by decide +kernel
theorem dL_law_657 : decode cL_law 657 = .ok (.aload_n 1, 1) := by decide +kernel
theorem dL_law_658 : decode cL_law 658 = .ok (.aload_n 0, 1) := by decide +kernel
theorem dL_law_659 : decode cL_law 659 = .ok (.iload_n 3, 1) := by decide +kernel
theorem dL_law_660 : decode cL_law 660 = .ok (.iconst 1, 1) := by decide +kernel
theorem dL_law_661 : decode cL_law 661 = .ok (.iadd, 1) := by decide +kernel
theorem dL_law_662 : decode cL_law 662 = .ok (.iaload, 1) := by decide +kernel
theorem dL_law_663 : decode cL_law 663 = .ok (.aload_n 0, 1) := by decide +kernel
theorem dL_law_664 : decode cL_law 664 = .ok (.iload_n 3, 1) := by decide +kernel
theorem dL_law_665 : decode cL_law 665 = .ok (.iconst 2, 1) := by decide +kernel
theorem dL_law_666 : decode cL_law 666 = .ok (.iadd, 1) := by decide +kernel
theorem dL_law_667 : decode cL_law 667 = .ok (.iaload, 1) := by decide +kernel
theorem dL_law_668 : decode cL_law 668 = .ok (.aload_n 0, 1) := by decide +kernel
theorem dL_law_669 : decode cL_law 669 = .ok (.iload_n 3, 1) := by decide +kernel
theorem dL_law_670 : decode cL_law 670 = .ok (.iconst 3, 1) := by decide +kernel
theorem dL_law_671 : decode cL_law 671 = .ok (.iadd, 1) := by decide +kernel
theorem dL_law_672 : decode cL_law 672 = .ok (.iaload, 1) := by decide +kernel
theorem dL_law_673 : decode cL_law 673 = .ok (.invokevirtual 79, 3) := by decide +kernel
theorem dL_law_676 : decode cL_law 676 = .ok (.aload_n 2, 1) := by decide +kernel
theorem dL_law_677 : decode cL_law 677 = .ok (.aload_n 0, 1) := by decide +kernel
theorem dL_law_678 : decode cL_law 678 = .ok (.iload_n 3, 1) := by decide +kernel
theorem dL_law_679 : decode cL_law 679 = .ok (.iconst 1, 1) := by decide +kernel
theorem dL_law_680 : decode cL_law 680 = .ok (.iadd, 1) := by decide +kernel
theorem dL_law_681 : decode cL_law 681 = .ok (.iaload, 1) := by decide +kernel
theorem dL_law_682 : decode cL_law 682 = .ok (.aload_n 0, 1) := by decide +kernel
theorem dL_law_683 : decode cL_law 683 = .ok (.iload_n 3, 1) := by decide +kernel
theorem dL_law_684 : decode cL_law 684 = .ok (.iconst 2, 1) := by decide +kernel
theorem dL_law_685 : decode cL_law 685 = .ok (.iadd, 1) := by decide +kernel
theorem dL_law_686 : decode cL_law 686 = .ok (.iaload, 1) := by decide +kernel
theorem dL_law_687 : decode cL_law 687 = .ok (.aload_n 0, 1) := by decide +kernel
theorem dL_law_688 : decode cL_law 688 = .ok (.iload_n 3, 1) := by decide +kernel
theorem dL_law_689 : decode cL_law 689 = .ok (.iconst 3, 1) := by decide +kernel
theorem dL_law_690 : decode cL_law 690 = .ok (.iadd, 1) := by decide +kernel
theorem dL_law_691 : decode cL_law 691 = .ok (.iaload, 1) := by decide +kernel
theorem dL_law_692 : decode cL_law 692 = .ok (.invokevirtual 82, 3) := by decide +kernel
theorem dL_law_695 : decode cL_law 695 = .ok (.if_icmp .eq 87, 3) := by decide +kernel
theorem dL_law_698 : decode cL_law 698 = .ok (.iconst 0, 1) := by decide +kernel
theorem dL_law_699 : decode cL_law 699 = .ok (.ireturn, 1) := by decide +kernel
theorem dL_law_700 : decode cL_law 700 = .ok (.aload_n 1, 1) := by decide +kernel
theorem dL_law_701 : decode cL_law 701 = .ok (.invokevirtual 83, 3) := by decide +kernel
theorem dL_law_704 : decode cL_law 704 = .ok (.aload_n 2, 1) := by decide +kernel
theorem dL_law_705 : decode cL_law 705 = .ok (.invokevirtual 87, 3) := by decide +kernel
theorem dL_law_708 : decode cL_law 708 = .ok (.if_icmp .eq 74, 3) := by decide +kernel
theorem dL_law_711 : decode cL_law 711 = .ok (.iconst 0, 1) := by decide +kernel
theorem dL_law_712 : decode cL_law 712 = .ok (.ireturn, 1) := by decide +kernel
theorem dL_law_713 : decode cL_law 713 = .ok (.aload_n 1, 1) := by decide +kernel
theorem dL_law_714 : decode cL_law 714 = .ok (.aload_n 0, 1) := by decide +kernel
theorem dL_law_715 : decode cL_law 715 = .ok (.iload_n 3, 1) := by decide +kernel
theorem dL_law_716 : decode cL_law 716 = .ok (.iconst 1, 1) := by decide +kernel
theorem dL_law_717 : decode cL_law 717 = .ok (.iadd, 1) := by decide +kernel
theorem dL_law_718 : decode cL_law 718 = .ok (.iaload, 1) := by decide +kernel
theorem dL_law_719 : decode cL_law 719 = .ok (.invokevirtual 88, 3) := by decide +kernel
theorem dL_law_722 : decode cL_law 722 = .ok (.aload_n 2, 1) := by decide +kernel
theorem dL_law_723 : decode cL_law 723 = .ok (.aload_n 0, 1) := by decide +kernel
theorem dL_law_724 : decode cL_law 724 = .ok (.iload_n 3, 1) := by decide +kernel
theorem dL_law_725 : decode cL_law 725 = .ok (.iconst 1, 1) := by decide +kernel
theorem dL_law_726 : decode cL_law 726 = .ok (.iadd, 1) := by decide +kernel
theorem dL_law_727 : decode cL_law 727 = .ok (.iaload, 1) := by decide +kernel
theorem dL_law_728 : decode cL_law 728 = .ok (.invokevirtual 91, 3) := by decide +kernel
theorem dL_law_731 : decode cL_law 731 = .ok (.if_icmp .eq 51, 3) := by decide +kernel
theorem dL_law_734 : decode cL_law 734 = .ok (.iconst 0, 1) := by decide +kernel
theorem dL_law_735 : decode cL_law 735 = .ok (.ireturn, 1) := by decide +kernel
theorem dL_law_736 : decode cL_law 736 = .ok (.aload_n 1, 1) := by decide +kernel
theorem dL_law_737 : decode cL_law 737 = .ok (.aload_n 0, 1) := by decide +kernel
theorem dL_law_738 : decode cL_law 738 = .ok (.iload_n 3, 1) := by decide +kernel
theorem dL_law_739 : decode cL_law 739 = .ok (.iconst 1, 1) := by decide +kernel
theorem dL_law_740 : decode cL_law 740 = .ok (.iadd, 1) := by decide +kernel
theorem dL_law_741 : decode cL_law 741 = .ok (.iaload, 1) := by decide +kernel
theorem dL_law_742 : decode cL_law 742 = .ok (.invokevirtual 92, 3) := by decide +kernel
theorem dL_law_745 : decode cL_law 745 = .ok (.aload_n 2, 1) := by decide +kernel
theorem dL_law_746 : decode cL_law 746 = .ok (.aload_n 0, 1) := by decide +kernel
theorem dL_law_747 : decode cL_law 747 = .ok (.iload_n 3, 1) := by decide +kernel
theorem dL_law_748 : decode cL_law 748 = .ok (.iconst 1, 1) := by decide +kernel
theorem dL_law_749 : decode cL_law 749 = .ok (.iadd, 1) := by decide +kernel
theorem dL_law_750 : decode cL_law 750 = .ok (.iaload, 1) := by decide +kernel
theorem dL_law_751 : decode cL_law 751 = .ok (.invokevirtual 95, 3) := by decide +kernel
theorem dL_law_754 : decode cL_law 754 = .ok (.if_icmp .eq 28, 3) := by decide +kernel
theorem dL_law_757 : decode cL_law 757 = .ok (.iconst 0, 1) := by decide +kernel
theorem dL_law_758 : decode cL_law 758 = .ok (.ireturn, 1) := by decide +kernel
theorem dL_law_759 : decode cL_law 759 = .ok (.aload_n 1, 1) := by decide +kernel
theorem dL_law_760 : decode cL_law 760 = .ok (.aload_n 0, 1) := by decide +kernel
theorem dL_law_761 : decode cL_law 761 = .ok (.iload_n 3, 1) := by decide +kernel
theorem dL_law_762 : decode cL_law 762 = .ok (.iconst 1, 1) := by decide +kernel
theorem dL_law_763 : decode cL_law 763 = .ok (.iadd, 1) := by decide +kernel
theorem dL_law_764 : decode cL_law 764 = .ok (.iaload, 1) := by decide +kernel
theorem dL_law_765 : decode cL_law 765 = .ok (.invokevirtual 96, 3) := by decide +kernel
theorem dL_law_768 : decode cL_law 768 = .ok (.aload_n 2, 1) := by decide +kernel
theorem dL_law_769 : decode cL_law 769 = .ok (.aload_n 0, 1) := by decide +kernel
theorem dL_law_770 : decode cL_law 770 = .ok (.iload_n 3, 1) := by decide +kernel
theorem dL_law_771 : decode cL_law 771 = .ok (.iconst 1, 1) := by decide +kernel
theorem dL_law_772 : decode cL_law 772 = .ok (.iadd, 1) := by decide +kernel
theorem dL_law_773 : decode cL_law 773 = .ok (.iaload, 1) := by decide +kernel
theorem dL_law_774 : decode cL_law 774 = .ok (.invokevirtual 99, 3) := by decide +kernel
theorem dL_law_777 : decode cL_law 777 = .ok (.if_icmp .eq 5, 3) := by decide +kernel
theorem dL_law_780 : decode cL_law 780 = .ok (.iconst 0, 1) := by decide +kernel
theorem dL_law_781 : decode cL_law 781 = .ok (.ireturn, 1) := by decide +kernel
theorem dL_law_782 : decode cL_law 782 = .ok (.iinc 3 7, 3) := by decide +kernel
theorem dL_law_785 : decode cL_law 785 = .ok (.goto (-767), 3) := by decide +kernel
theorem dL_law_788 : decode cL_law 788 = .ok (.iconst 1, 1) := by decide +kernel
theorem dL_law_789 : decode cL_law 789 = .ok (.ireturn, 1) := by decide +kernel
end
section
/-- a field's link in a class file: field k of the class number ci -/
def fW (own : String) (idx ci k : Nat) : Prop := ∃ (C : String) (T : u_T) (N : Nat), clE[ci]? = some (C, T, N) ∧ (∀ w ∈ u_ws C T N, w ∈ tG) ∧ k < N ∧ Cond.fieldLink own idx (T k).1 (T k).2.1 (T k).2.2.1 ∈ tG
/-- a field that may be written, of a type -/
def pW (own : String) (idx ci k : Nat) (fin : Bool) (ty : FieldType) : Prop := ∃ (C : String) (T : u_T) (N : Nat) (t0 : Nat → FieldType), clE[ci]? = some (C, T, N) ∧ (∀ w ∈ u_ws C T N, w ∈ tG) ∧ k < N ∧ Cond.fieldLink own idx (T k).1 (T k).2.1 (T k).2.2.1 ∈ tG ∧ (∀ k, k < N → parseFieldDescriptor (T k).2.2.1 = some (t0 k)) ∧ (∀ a, a < N → ∀ b, b < N → a ≠ b → (T a).2.1 ≠ (T b).2.1) ∧ (T k).2.2.2 = fin ∧ t0 k = ty ∧ (fin = true → (T k).1 = own)
/-- the words of a call: virtual, static, of a constructor -/
def cV (own : String) (idx : Nat) (y : MethodName) (cc : ByteArray) (n : Nat) (r : Option FieldType) (np : Nat) : Prop := Cond.methodLink own idx y ∈ tG ∧ Cond.instanceMethod y ∈ tG ∧ Cond.selects y.cls y y ∈ tG ∧ Cond.initialized y.cls ∈ tG ∧ Cond.code y cc n r ∈ tG ∧ (y.cls ≠ "java/lang/invoke/MethodHandle" ∧ y.cls ≠ "java/lang/invoke/VarHandle" ∧ (parseMethodDescriptor y.desc).map (fun d => d.parameters.length) = some np)
def cS (own : String) (idx : Nat) (y : MethodName) (cc : ByteArray) (n : Nat) (r : Option FieldType) (np : Nat) : Prop := Cond.methodLink own idx y ∈ tG ∧ Cond.static y ∈ tG ∧ Cond.initialized y.cls ∈ tG ∧ Cond.code y cc n r ∈ tG ∧ (y.cls ≠ "java/lang/invoke/MethodHandle" ∧ y.cls ≠ "java/lang/invoke/VarHandle" ∧ (parseMethodDescriptor y.desc).map (fun d => d.parameters.length) = some np)
def cI (own : String) (idx : Nat) (y : MethodName) (cc : ByteArray) (n np : Nat) : Prop := Cond.methodLink own idx y ∈ tG ∧ Cond.instanceMethod y ∈ tG ∧ Cond.initialized y.cls ∈ tG ∧ Cond.code y cc n none ∈ tG ∧ y.name = "<init>" ∧ (y.cls ≠ "java/lang/invoke/MethodHandle" ∧ y.cls ≠ "java/lang/invoke/VarHandle" ∧ (parseMethodDescriptor y.desc).map (fun d => d.parameters.length) = some np)
theorem ci_L_9 : cI RL 9 yX9_init cX9_init 2 0 := ⟨tm1 (List.mem_of_getElem? (i := 18) rfl) rfl, tm1 (List.mem_of_getElem? (i := 19) rfl) rfl, tm1 (List.mem_of_getElem? (i := 1) rfl) rfl, tm1 (List.mem_of_getElem? (i := 20) rfl) rfl, rfl, ⟨by decide +kernel, by decide +kernel, by decide +kernel⟩⟩
theorem ci_X9_9 : cI RX9 9 yX6_init cX6_init 2 0 := ⟨tm1 (List.mem_of_getElem? (i := 26) rfl) rfl, tm1 (List.mem_of_getElem? (i := 27) rfl) rfl, tm1 (List.mem_of_getElem? (i := 2) rfl) rfl, tm1 (List.mem_of_getElem? (i := 28) rfl) rfl, rfl, ⟨by decide +kernel, by decide +kernel, by decide +kernel⟩⟩
theorem ci_X6_17 : cI RX6 17 yX3_init cX3_init 1 0 := ⟨tm1 (List.mem_of_getElem? (i := 33) rfl) rfl, tm1 (List.mem_of_getElem? (i := 34) rfl) rfl, tm1 (List.mem_of_getElem? (i := 3) rfl) rfl, tm1 (List.mem_of_getElem? (i := 35) rfl) rfl, rfl, ⟨by decide +kernel, by decide +kernel, by decide +kernel⟩⟩
theorem fl_X3_24 : fW RX3 24 3 0 := ⟨_, _, _, rfl, inE3, by decide, tm1 (List.mem_of_getElem? (i := 37) rfl) rfl⟩
theorem pl_X3_24 : pW RX3 24 3 0 false (.int) := ⟨_, _, _, _, rfl, inE3, by decide, tm1 (List.mem_of_getElem? (i := 37) rfl) rfl, tyX3_ok, nmX3, rfl, rfl, fun h => by cases h⟩
theorem fl_X1_38 : fW RX1 38 3 0 := ⟨_, _, _, rfl, inE3, by decide, tm1 (List.mem_of_getElem? (i := 38) rfl) rfl⟩
theorem pl_X1_38 : pW RX1 38 3 0 false (.int) := ⟨_, _, _, _, rfl, inE3, by decide, tm1 (List.mem_of_getElem? (i := 38) rfl) rfl, tyX3_ok, nmX3, rfl, rfl, fun h => by cases h⟩
theorem fl_X9_101 : fW RX9 101 3 0 := ⟨_, _, _, rfl, inE3, by decide, tm1 (List.mem_of_getElem? (i := 39) rfl) rfl⟩
theorem pl_X9_101 : pW RX9 101 3 0 false (.int) := ⟨_, _, _, _, rfl, inE3, by decide, tm1 (List.mem_of_getElem? (i := 39) rfl) rfl, tyX3_ok, nmX3, rfl, rfl, fun h => by cases h⟩
theorem fl_X7_54 : fW RX7 54 3 0 := ⟨_, _, _, rfl, inE3, by decide, tm1 (List.mem_of_getElem? (i := 40) rfl) rfl⟩
theorem pl_X7_54 : pW RX7 54 3 0 false (.int) := ⟨_, _, _, _, rfl, inE3, by decide, tm1 (List.mem_of_getElem? (i := 40) rfl) rfl, tyX3_ok, nmX3, rfl, rfl, fun h => by cases h⟩
theorem fl_X3_28 : fW RX3 28 3 1 := ⟨_, _, _, rfl, inE3, by decide, tm1 (List.mem_of_getElem? (i := 41) rfl) rfl⟩
theorem pl_X3_28 : pW RX3 28 3 1 false (.int) := ⟨_, _, _, _, rfl, inE3, by decide, tm1 (List.mem_of_getElem? (i := 41) rfl) rfl, tyX3_ok, nmX3, rfl, rfl, fun h => by cases h⟩
theorem fl_X9_106 : fW RX9 106 3 1 := ⟨_, _, _, rfl, inE3, by decide, tm1 (List.mem_of_getElem? (i := 42) rfl) rfl⟩
theorem pl_X9_106 : pW RX9 106 3 1 false (.int) := ⟨_, _, _, _, rfl, inE3, by decide, tm1 (List.mem_of_getElem? (i := 42) rfl) rfl, tyX3_ok, nmX3, rfl, rfl, fun h => by cases h⟩
theorem fl_X7_59 : fW RX7 59 3 1 := ⟨_, _, _, rfl, inE3, by decide, tm1 (List.mem_of_getElem? (i := 43) rfl) rfl⟩
theorem pl_X7_59 : pW RX7 59 3 1 false (.int) := ⟨_, _, _, _, rfl, inE3, by decide, tm1 (List.mem_of_getElem? (i := 43) rfl) rfl, tyX3_ok, nmX3, rfl, rfl, fun h => by cases h⟩
theorem fl_X3_31 : fW RX3 31 3 2 := ⟨_, _, _, rfl, inE3, by decide, tm1 (List.mem_of_getElem? (i := 44) rfl) rfl⟩
theorem pl_X3_31 : pW RX3 31 3 2 false (.int) := ⟨_, _, _, _, rfl, inE3, by decide, tm1 (List.mem_of_getElem? (i := 44) rfl) rfl, tyX3_ok, nmX3, rfl, rfl, fun h => by cases h⟩
theorem fl_X9_109 : fW RX9 109 3 2 := ⟨_, _, _, rfl, inE3, by decide, tm1 (List.mem_of_getElem? (i := 45) rfl) rfl⟩
theorem pl_X9_109 : pW RX9 109 3 2 false (.int) := ⟨_, _, _, _, rfl, inE3, by decide, tm1 (List.mem_of_getElem? (i := 45) rfl) rfl, tyX3_ok, nmX3, rfl, rfl, fun h => by cases h⟩
theorem fl_X7_62 : fW RX7 62 3 2 := ⟨_, _, _, rfl, inE3, by decide, tm1 (List.mem_of_getElem? (i := 46) rfl) rfl⟩
theorem pl_X7_62 : pW RX7 62 3 2 false (.int) := ⟨_, _, _, _, rfl, inE3, by decide, tm1 (List.mem_of_getElem? (i := 46) rfl) rfl, tyX3_ok, nmX3, rfl, rfl, fun h => by cases h⟩
theorem fl_X6_60 : fW RX6 60 3 2 := ⟨_, _, _, rfl, inE3, by decide, tm1 (List.mem_of_getElem? (i := 47) rfl) rfl⟩
theorem pl_X6_60 : pW RX6 60 3 2 false (.int) := ⟨_, _, _, _, rfl, inE3, by decide, tm1 (List.mem_of_getElem? (i := 47) rfl) rfl, tyX3_ok, nmX3, rfl, rfl, fun h => by cases h⟩
theorem fl_X3_34 : fW RX3 34 3 3 := ⟨_, _, _, rfl, inE3, by decide, tm1 (List.mem_of_getElem? (i := 48) rfl) rfl⟩
theorem pl_X3_34 : pW RX3 34 3 3 false (.int) := ⟨_, _, _, _, rfl, inE3, by decide, tm1 (List.mem_of_getElem? (i := 48) rfl) rfl, tyX3_ok, nmX3, rfl, rfl, fun h => by cases h⟩
theorem fl_X9_112 : fW RX9 112 3 3 := ⟨_, _, _, rfl, inE3, by decide, tm1 (List.mem_of_getElem? (i := 49) rfl) rfl⟩
theorem pl_X9_112 : pW RX9 112 3 3 false (.int) := ⟨_, _, _, _, rfl, inE3, by decide, tm1 (List.mem_of_getElem? (i := 49) rfl) rfl, tyX3_ok, nmX3, rfl, rfl, fun h => by cases h⟩
theorem fl_X7_80 : fW RX7 80 3 3 := ⟨_, _, _, rfl, inE3, by decide, tm1 (List.mem_of_getElem? (i := 50) rfl) rfl⟩
theorem pl_X7_80 : pW RX7 80 3 3 false (.int) := ⟨_, _, _, _, rfl, inE3, by decide, tm1 (List.mem_of_getElem? (i := 50) rfl) rfl, tyX3_ok, nmX3, rfl, rfl, fun h => by cases h⟩
theorem fl_X6_57 : fW RX6 57 3 3 := ⟨_, _, _, rfl, inE3, by decide, tm1 (List.mem_of_getElem? (i := 51) rfl) rfl⟩
theorem pl_X6_57 : pW RX6 57 3 3 false (.int) := ⟨_, _, _, _, rfl, inE3, by decide, tm1 (List.mem_of_getElem? (i := 51) rfl) rfl, tyX3_ok, nmX3, rfl, rfl, fun h => by cases h⟩
theorem fl_X3_37 : fW RX3 37 3 4 := ⟨_, _, _, rfl, inE3, by decide, tm1 (List.mem_of_getElem? (i := 52) rfl) rfl⟩
theorem pl_X3_37 : pW RX3 37 3 4 false (.int) := ⟨_, _, _, _, rfl, inE3, by decide, tm1 (List.mem_of_getElem? (i := 52) rfl) rfl, tyX3_ok, nmX3, rfl, rfl, fun h => by cases h⟩
theorem fl_X9_115 : fW RX9 115 3 4 := ⟨_, _, _, rfl, inE3, by decide, tm1 (List.mem_of_getElem? (i := 53) rfl) rfl⟩
theorem pl_X9_115 : pW RX9 115 3 4 false (.int) := ⟨_, _, _, _, rfl, inE3, by decide, tm1 (List.mem_of_getElem? (i := 53) rfl) rfl, tyX3_ok, nmX3, rfl, rfl, fun h => by cases h⟩
theorem fl_X3_40 : fW RX3 40 3 5 := ⟨_, _, _, rfl, inE3, by decide, tm1 (List.mem_of_getElem? (i := 54) rfl) rfl⟩
theorem pl_X3_40 : pW RX3 40 3 5 false (.int) := ⟨_, _, _, _, rfl, inE3, by decide, tm1 (List.mem_of_getElem? (i := 54) rfl) rfl, tyX3_ok, nmX3, rfl, rfl, fun h => by cases h⟩
theorem fl_X9_122 : fW RX9 122 3 5 := ⟨_, _, _, rfl, inE3, by decide, tm1 (List.mem_of_getElem? (i := 55) rfl) rfl⟩
theorem pl_X9_122 : pW RX9 122 3 5 false (.int) := ⟨_, _, _, _, rfl, inE3, by decide, tm1 (List.mem_of_getElem? (i := 55) rfl) rfl, tyX3_ok, nmX3, rfl, rfl, fun h => by cases h⟩
theorem fl_X6_66 : fW RX6 66 3 5 := ⟨_, _, _, rfl, inE3, by decide, tm1 (List.mem_of_getElem? (i := 56) rfl) rfl⟩
theorem pl_X6_66 : pW RX6 66 3 5 false (.int) := ⟨_, _, _, _, rfl, inE3, by decide, tm1 (List.mem_of_getElem? (i := 56) rfl) rfl, tyX3_ok, nmX3, rfl, rfl, fun h => by cases h⟩
theorem fl_X3_43 : fW RX3 43 3 6 := ⟨_, _, _, rfl, inE3, by decide, tm1 (List.mem_of_getElem? (i := 57) rfl) rfl⟩
theorem pl_X3_43 : pW RX3 43 3 6 false (.int) := ⟨_, _, _, _, rfl, inE3, by decide, tm1 (List.mem_of_getElem? (i := 57) rfl) rfl, tyX3_ok, nmX3, rfl, rfl, fun h => by cases h⟩
theorem fl_X9_125 : fW RX9 125 3 6 := ⟨_, _, _, rfl, inE3, by decide, tm1 (List.mem_of_getElem? (i := 58) rfl) rfl⟩
theorem pl_X9_125 : pW RX9 125 3 6 false (.int) := ⟨_, _, _, _, rfl, inE3, by decide, tm1 (List.mem_of_getElem? (i := 58) rfl) rfl, tyX3_ok, nmX3, rfl, rfl, fun h => by cases h⟩
theorem fl_X6_77 : fW RX6 77 3 6 := ⟨_, _, _, rfl, inE3, by decide, tm1 (List.mem_of_getElem? (i := 59) rfl) rfl⟩
theorem pl_X6_77 : pW RX6 77 3 6 false (.int) := ⟨_, _, _, _, rfl, inE3, by decide, tm1 (List.mem_of_getElem? (i := 59) rfl) rfl, tyX3_ok, nmX3, rfl, rfl, fun h => by cases h⟩
theorem fl_X3_46 : fW RX3 46 3 7 := ⟨_, _, _, rfl, inE3, by decide, tm1 (List.mem_of_getElem? (i := 60) rfl) rfl⟩
theorem pl_X3_46 : pW RX3 46 3 7 false (.int) := ⟨_, _, _, _, rfl, inE3, by decide, tm1 (List.mem_of_getElem? (i := 60) rfl) rfl, tyX3_ok, nmX3, rfl, rfl, fun h => by cases h⟩
theorem fl_X9_128 : fW RX9 128 3 7 := ⟨_, _, _, rfl, inE3, by decide, tm1 (List.mem_of_getElem? (i := 61) rfl) rfl⟩
theorem pl_X9_128 : pW RX9 128 3 7 false (.int) := ⟨_, _, _, _, rfl, inE3, by decide, tm1 (List.mem_of_getElem? (i := 61) rfl) rfl, tyX3_ok, nmX3, rfl, rfl, fun h => by cases h⟩
theorem fl_X6_80 : fW RX6 80 3 7 := ⟨_, _, _, rfl, inE3, by decide, tm1 (List.mem_of_getElem? (i := 62) rfl) rfl⟩
theorem pl_X6_80 : pW RX6 80 3 7 false (.int) := ⟨_, _, _, _, rfl, inE3, by decide, tm1 (List.mem_of_getElem? (i := 62) rfl) rfl, tyX3_ok, nmX3, rfl, rfl, fun h => by cases h⟩
theorem fl_X3_49 : fW RX3 49 3 8 := ⟨_, _, _, rfl, inE3, by decide, tm1 (List.mem_of_getElem? (i := 63) rfl) rfl⟩
theorem pl_X3_49 : pW RX3 49 3 8 false (.int) := ⟨_, _, _, _, rfl, inE3, by decide, tm1 (List.mem_of_getElem? (i := 63) rfl) rfl, tyX3_ok, nmX3, rfl, rfl, fun h => by cases h⟩
theorem fl_X9_131 : fW RX9 131 3 8 := ⟨_, _, _, rfl, inE3, by decide, tm1 (List.mem_of_getElem? (i := 64) rfl) rfl⟩
theorem pl_X9_131 : pW RX9 131 3 8 false (.int) := ⟨_, _, _, _, rfl, inE3, by decide, tm1 (List.mem_of_getElem? (i := 64) rfl) rfl, tyX3_ok, nmX3, rfl, rfl, fun h => by cases h⟩
theorem fl_X6_50 : fW RX6 50 3 8 := ⟨_, _, _, rfl, inE3, by decide, tm1 (List.mem_of_getElem? (i := 65) rfl) rfl⟩
theorem pl_X6_50 : pW RX6 50 3 8 false (.int) := ⟨_, _, _, _, rfl, inE3, by decide, tm1 (List.mem_of_getElem? (i := 65) rfl) rfl, tyX3_ok, nmX3, rfl, rfl, fun h => by cases h⟩
theorem fl_X3_55 : fW RX3 55 3 9 := ⟨_, _, _, rfl, inE3, by decide, tm1 (List.mem_of_getElem? (i := 66) rfl) rfl⟩
theorem pl_X3_55 : pW RX3 55 3 9 false (.int) := ⟨_, _, _, _, rfl, inE3, by decide, tm1 (List.mem_of_getElem? (i := 66) rfl) rfl, tyX3_ok, nmX3, rfl, rfl, fun h => by cases h⟩
theorem fl_X3_9 : fW RX3 9 3 10 := ⟨_, _, _, rfl, inE3, by decide, tm1 (List.mem_of_getElem? (i := 67) rfl) rfl⟩
theorem pl_X3_9 : pW RX3 9 3 10 true (.array .int) := ⟨_, _, _, _, rfl, inE3, by decide, tm1 (List.mem_of_getElem? (i := 67) rfl) rfl, tyX3_ok, nmX3, rfl, rfl, fun _ => rfl⟩
theorem fl_X1_47 : fW RX1 47 3 10 := ⟨_, _, _, rfl, inE3, by decide, tm1 (List.mem_of_getElem? (i := 68) rfl) rfl⟩
theorem fl_X9_147 : fW RX9 147 3 10 := ⟨_, _, _, rfl, inE3, by decide, tm1 (List.mem_of_getElem? (i := 69) rfl) rfl⟩
theorem fl_X0_35 : fW RX0 35 3 10 := ⟨_, _, _, rfl, inE3, by decide, tm1 (List.mem_of_getElem? (i := 70) rfl) rfl⟩
theorem fl_X3_15 : fW RX3 15 3 11 := ⟨_, _, _, rfl, inE3, by decide, tm1 (List.mem_of_getElem? (i := 71) rfl) rfl⟩
theorem pl_X3_15 : pW RX3 15 3 11 true (.array .int) := ⟨_, _, _, _, rfl, inE3, by decide, tm1 (List.mem_of_getElem? (i := 71) rfl) rfl, tyX3_ok, nmX3, rfl, rfl, fun _ => rfl⟩
theorem fl_X9_151 : fW RX9 151 3 11 := ⟨_, _, _, rfl, inE3, by decide, tm1 (List.mem_of_getElem? (i := 72) rfl) rfl⟩
theorem fl_X6_83 : fW RX6 83 3 11 := ⟨_, _, _, rfl, inE3, by decide, tm1 (List.mem_of_getElem? (i := 73) rfl) rfl⟩
theorem fl_X3_18 : fW RX3 18 3 12 := ⟨_, _, _, rfl, inE3, by decide, tm1 (List.mem_of_getElem? (i := 74) rfl) rfl⟩
theorem pl_X3_18 : pW RX3 18 3 12 true (.array .int) := ⟨_, _, _, _, rfl, inE3, by decide, tm1 (List.mem_of_getElem? (i := 74) rfl) rfl, tyX3_ok, nmX3, rfl, rfl, fun _ => rfl⟩
theorem fl_X9_154 : fW RX9 154 3 12 := ⟨_, _, _, rfl, inE3, by decide, tm1 (List.mem_of_getElem? (i := 75) rfl) rfl⟩
theorem fl_X6_90 : fW RX6 90 3 12 := ⟨_, _, _, rfl, inE3, by decide, tm1 (List.mem_of_getElem? (i := 76) rfl) rfl⟩
theorem fl_X3_21 : fW RX3 21 3 13 := ⟨_, _, _, rfl, inE3, by decide, tm1 (List.mem_of_getElem? (i := 77) rfl) rfl⟩
theorem pl_X3_21 : pW RX3 21 3 13 true (.array .int) := ⟨_, _, _, _, rfl, inE3, by decide, tm1 (List.mem_of_getElem? (i := 77) rfl) rfl, tyX3_ok, nmX3, rfl, rfl, fun _ => rfl⟩
theorem cv_X6_18 : cV RX6 18 yX6_begin cX6_begin 3 none 1 := ⟨tm1 (List.mem_of_getElem? (i := 108) rfl) rfl, tm1 (List.mem_of_getElem? (i := 109) rfl) rfl, tm1 (List.mem_of_getElem? (i := 110) rfl) rfl, tm1 (List.mem_of_getElem? (i := 2) rfl) rfl, tm1 (List.mem_of_getElem? (i := 111) rfl) rfl, ⟨by decide +kernel, by decide +kernel, by decide +kernel⟩⟩
theorem cv_X6_32 : cV RX6 32 yX3_begin cX3_begin 1 none 0 := ⟨tm1 (List.mem_of_getElem? (i := 112) rfl) rfl, tm1 (List.mem_of_getElem? (i := 113) rfl) rfl, tm1 (List.mem_of_getElem? (i := 114) rfl) rfl, tm1 (List.mem_of_getElem? (i := 3) rfl) rfl, tm1 (List.mem_of_getElem? (i := 115) rfl) rfl, ⟨by decide +kernel, by decide +kernel, by decide +kernel⟩⟩
theorem cv_X3_52 : cV RX3 52 yX3_freeAllLines cX3_freeAllLines 1 none 0 := ⟨tm1 (List.mem_of_getElem? (i := 116) rfl) rfl, tm1 (List.mem_of_getElem? (i := 117) rfl) rfl, tm1 (List.mem_of_getElem? (i := 118) rfl) rfl, tm1 (List.mem_of_getElem? (i := 3) rfl) rfl, tm1 (List.mem_of_getElem? (i := 119) rfl) rfl, ⟨by decide +kernel, by decide +kernel, by decide +kernel⟩⟩
theorem cs_X3_58 : cS RX3 58 yJ7_fill_53178 cJ7_fill_53178 4 none 2 := ⟨tm1 (List.mem_of_getElem? (i := 120) rfl) rfl, tm1 (List.mem_of_getElem? (i := 121) rfl) rfl, tm1 (List.mem_of_getElem? (i := 4) rfl) rfl, tm1 (List.mem_of_getElem? (i := 122) rfl) rfl, ⟨by decide +kernel, by decide +kernel, by decide +kernel⟩⟩
theorem fl_X6_22 : fW RX6 22 6 0 := ⟨_, _, _, rfl, inE6, by decide, tm1 (List.mem_of_getElem? (i := 123) rfl) rfl⟩
theorem pl_X6_22 : pW RX6 22 6 0 false (.int) := ⟨_, _, _, _, rfl, inE6, by decide, tm1 (List.mem_of_getElem? (i := 123) rfl) rfl, tyX6_ok, nmX6, rfl, rfl, fun h => by cases h⟩
theorem fl_X9_65 : fW RX9 65 6 0 := ⟨_, _, _, rfl, inE6, by decide, tm1 (List.mem_of_getElem? (i := 124) rfl) rfl⟩
theorem pl_X9_65 : pW RX9 65 6 0 false (.int) := ⟨_, _, _, _, rfl, inE6, by decide, tm1 (List.mem_of_getElem? (i := 124) rfl) rfl, tyX6_ok, nmX6, rfl, rfl, fun h => by cases h⟩
theorem fl_X1_26 : fW RX1 26 6 0 := ⟨_, _, _, rfl, inE6, by decide, tm1 (List.mem_of_getElem? (i := 125) rfl) rfl⟩
theorem pl_X1_26 : pW RX1 26 6 0 false (.int) := ⟨_, _, _, _, rfl, inE6, by decide, tm1 (List.mem_of_getElem? (i := 125) rfl) rfl, tyX6_ok, nmX6, rfl, rfl, fun h => by cases h⟩
theorem fl_X7_43 : fW RX7 43 6 0 := ⟨_, _, _, rfl, inE6, by decide, tm1 (List.mem_of_getElem? (i := 126) rfl) rfl⟩
theorem pl_X7_43 : pW RX7 43 6 0 false (.int) := ⟨_, _, _, _, rfl, inE6, by decide, tm1 (List.mem_of_getElem? (i := 126) rfl) rfl, tyX6_ok, nmX6, rfl, rfl, fun h => by cases h⟩
theorem fl_X6_26 : fW RX6 26 6 1 := ⟨_, _, _, rfl, inE6, by decide, tm1 (List.mem_of_getElem? (i := 127) rfl) rfl⟩
theorem pl_X6_26 : pW RX6 26 6 1 false (.int) := ⟨_, _, _, _, rfl, inE6, by decide, tm1 (List.mem_of_getElem? (i := 127) rfl) rfl, tyX6_ok, nmX6, rfl, rfl, fun h => by cases h⟩
theorem fl_X9_69 : fW RX9 69 6 1 := ⟨_, _, _, rfl, inE6, by decide, tm1 (List.mem_of_getElem? (i := 128) rfl) rfl⟩
theorem pl_X9_69 : pW RX9 69 6 1 false (.int) := ⟨_, _, _, _, rfl, inE6, by decide, tm1 (List.mem_of_getElem? (i := 128) rfl) rfl, tyX6_ok, nmX6, rfl, rfl, fun h => by cases h⟩
theorem fl_X6_29 : fW RX6 29 6 2 := ⟨_, _, _, rfl, inE6, by decide, tm1 (List.mem_of_getElem? (i := 129) rfl) rfl⟩
theorem pl_X6_29 : pW RX6 29 6 2 false (.int) := ⟨_, _, _, _, rfl, inE6, by decide, tm1 (List.mem_of_getElem? (i := 129) rfl) rfl, tyX6_ok, nmX6, rfl, rfl, fun h => by cases h⟩
theorem fl_X9_72 : fW RX9 72 6 2 := ⟨_, _, _, rfl, inE6, by decide, tm1 (List.mem_of_getElem? (i := 130) rfl) rfl⟩
theorem pl_X9_72 : pW RX9 72 6 2 false (.int) := ⟨_, _, _, _, rfl, inE6, by decide, tm1 (List.mem_of_getElem? (i := 130) rfl) rfl, tyX6_ok, nmX6, rfl, rfl, fun h => by cases h⟩
theorem fl_X6_11 : fW RX6 11 6 3 := ⟨_, _, _, rfl, inE6, by decide, tm1 (List.mem_of_getElem? (i := 131) rfl) rfl⟩
theorem pl_X6_11 : pW RX6 11 6 3 true (.array (.object "TrunkReserve$Group")) := ⟨_, _, _, _, rfl, inE6, by decide, tm1 (List.mem_of_getElem? (i := 131) rfl) rfl, tyX6_ok, nmX6, rfl, rfl, fun _ => rfl⟩
theorem fl_X7_48 : fW RX7 48 6 3 := ⟨_, _, _, rfl, inE6, by decide, tm1 (List.mem_of_getElem? (i := 132) rfl) rfl⟩
theorem ci_X9_18 : cI RX9 18 yX4_init cX4_init 2 0 := ⟨tm1 (List.mem_of_getElem? (i := 144) rfl) rfl, tm1 (List.mem_of_getElem? (i := 145) rfl) rfl, tm1 (List.mem_of_getElem? (i := 5) rfl) rfl, tm1 (List.mem_of_getElem? (i := 146) rfl) rfl, rfl, ⟨by decide +kernel, by decide +kernel, by decide +kernel⟩⟩
theorem ci_X4_17 : cI RX4 17 yX6_init cX6_init 2 0 := ⟨tm1 (List.mem_of_getElem? (i := 150) rfl) rfl, tm1 (List.mem_of_getElem? (i := 27) rfl) rfl, tm1 (List.mem_of_getElem? (i := 2) rfl) rfl, tm1 (List.mem_of_getElem? (i := 28) rfl) rfl, rfl, ⟨by decide +kernel, by decide +kernel, by decide +kernel⟩⟩
theorem fl_X4_11 : fW RX4 11 4 0 := ⟨_, _, _, rfl, inE4, by decide, tm1 (List.mem_of_getElem? (i := 151) rfl) rfl⟩
theorem pl_X4_11 : pW RX4 11 4 0 true (.array (.object "TrunkReserve$Net")) := ⟨_, _, _, _, rfl, inE4, by decide, tm1 (List.mem_of_getElem? (i := 151) rfl) rfl, tyX4_ok, nmX4, rfl, rfl, fun _ => rfl⟩
theorem fl_X4_18 : fW RX4 18 4 1 := ⟨_, _, _, rfl, inE4, by decide, tm1 (List.mem_of_getElem? (i := 152) rfl) rfl⟩
theorem pl_X4_18 : pW RX4 18 4 1 false (.int) := ⟨_, _, _, _, rfl, inE4, by decide, tm1 (List.mem_of_getElem? (i := 152) rfl) rfl, tyX4_ok, nmX4, rfl, rfl, fun h => by cases h⟩
theorem fl_X4_26 : fW RX4 26 4 2 := ⟨_, _, _, rfl, inE4, by decide, tm1 (List.mem_of_getElem? (i := 153) rfl) rfl⟩
theorem pl_X4_26 : pW RX4 26 4 2 false (.int) := ⟨_, _, _, _, rfl, inE4, by decide, tm1 (List.mem_of_getElem? (i := 153) rfl) rfl, tyX4_ok, nmX4, rfl, rfl, fun h => by cases h⟩
theorem fl_X9_94 : fW RX9 94 4 2 := ⟨_, _, _, rfl, inE4, by decide, tm1 (List.mem_of_getElem? (i := 154) rfl) rfl⟩
theorem pl_X9_94 : pW RX9 94 4 2 false (.int) := ⟨_, _, _, _, rfl, inE4, by decide, tm1 (List.mem_of_getElem? (i := 154) rfl) rfl, tyX4_ok, nmX4, rfl, rfl, fun h => by cases h⟩
theorem ci_X9_29 : cI RX9 29 yX5_init cX5_init 1 0 := ⟨tm1 (List.mem_of_getElem? (i := 165) rfl) rfl, tm1 (List.mem_of_getElem? (i := 166) rfl) rfl, tm1 (List.mem_of_getElem? (i := 6) rfl) rfl, tm1 (List.mem_of_getElem? (i := 167) rfl) rfl, rfl, ⟨by decide +kernel, by decide +kernel, by decide +kernel⟩⟩
theorem ci_X5_9 : cI RX5 9 yX6_init cX6_init 2 0 := ⟨tm1 (List.mem_of_getElem? (i := 170) rfl) rfl, tm1 (List.mem_of_getElem? (i := 27) rfl) rfl, tm1 (List.mem_of_getElem? (i := 2) rfl) rfl, tm1 (List.mem_of_getElem? (i := 28) rfl) rfl, rfl, ⟨by decide +kernel, by decide +kernel, by decide +kernel⟩⟩
theorem fl_X5_10 : fW RX5 10 5 0 := ⟨_, _, _, rfl, inE5, by decide, tm1 (List.mem_of_getElem? (i := 171) rfl) rfl⟩
theorem pl_X5_10 : pW RX5 10 5 0 true (.object "TrunkReserve$Net") := ⟨_, _, _, _, rfl, inE5, by decide, tm1 (List.mem_of_getElem? (i := 171) rfl) rfl, tyX5_ok, nmX5, rfl, rfl, fun _ => rfl⟩
theorem fl_X5_26 : fW RX5 26 5 1 := ⟨_, _, _, rfl, inE5, by decide, tm1 (List.mem_of_getElem? (i := 172) rfl) rfl⟩
theorem pl_X5_26 : pW RX5 26 5 1 false (.int) := ⟨_, _, _, _, rfl, inE5, by decide, tm1 (List.mem_of_getElem? (i := 172) rfl) rfl, tyX5_ok, nmX5, rfl, rfl, fun h => by cases h⟩
theorem fl_X5_29 : fW RX5 29 5 2 := ⟨_, _, _, rfl, inE5, by decide, tm1 (List.mem_of_getElem? (i := 173) rfl) rfl⟩
theorem pl_X5_29 : pW RX5 29 5 2 false (.boolean) := ⟨_, _, _, _, rfl, inE5, by decide, tm1 (List.mem_of_getElem? (i := 173) rfl) rfl, tyX5_ok, nmX5, rfl, rfl, fun h => by cases h⟩
theorem fl_X9_252 : fW RX9 252 5 2 := ⟨_, _, _, rfl, inE5, by decide, tm1 (List.mem_of_getElem? (i := 174) rfl) rfl⟩
theorem pl_X9_252 : pW RX9 252 5 2 false (.boolean) := ⟨_, _, _, _, rfl, inE5, by decide, tm1 (List.mem_of_getElem? (i := 174) rfl) rfl, tyX5_ok, nmX5, rfl, rfl, fun h => by cases h⟩
theorem ci_X9_32 : cI RX9 32 yX0_init cX0_init 1 0 := ⟨tm1 (List.mem_of_getElem? (i := 184) rfl) rfl, tm1 (List.mem_of_getElem? (i := 185) rfl) rfl, tm1 (List.mem_of_getElem? (i := 7) rfl) rfl, tm1 (List.mem_of_getElem? (i := 186) rfl) rfl, rfl, ⟨by decide +kernel, by decide +kernel, by decide +kernel⟩⟩
theorem fl_X0_9 : fW RX0 9 0 0 := ⟨_, _, _, rfl, inE0, by decide, tm1 (List.mem_of_getElem? (i := 188) rfl) rfl⟩
theorem pl_X0_9 : pW RX0 9 0 0 true (.array .int) := ⟨_, _, _, _, rfl, inE0, by decide, tm1 (List.mem_of_getElem? (i := 188) rfl) rfl, tyX0_ok, nmX0, rfl, rfl, fun _ => rfl⟩
theorem fl_X0_15 : fW RX0 15 0 1 := ⟨_, _, _, rfl, inE0, by decide, tm1 (List.mem_of_getElem? (i := 189) rfl) rfl⟩
theorem pl_X0_15 : pW RX0 15 0 1 true (.array .int) := ⟨_, _, _, _, rfl, inE0, by decide, tm1 (List.mem_of_getElem? (i := 189) rfl) rfl, tyX0_ok, nmX0, rfl, rfl, fun _ => rfl⟩
theorem fl_X0_18 : fW RX0 18 0 2 := ⟨_, _, _, rfl, inE0, by decide, tm1 (List.mem_of_getElem? (i := 190) rfl) rfl⟩
theorem pl_X0_18 : pW RX0 18 0 2 true (.array .int) := ⟨_, _, _, _, rfl, inE0, by decide, tm1 (List.mem_of_getElem? (i := 190) rfl) rfl, tyX0_ok, nmX0, rfl, rfl, fun _ => rfl⟩
theorem fl_X0_21 : fW RX0 21 0 3 := ⟨_, _, _, rfl, inE0, by decide, tm1 (List.mem_of_getElem? (i := 191) rfl) rfl⟩
theorem pl_X0_21 : pW RX0 21 0 3 false (.int) := ⟨_, _, _, _, rfl, inE0, by decide, tm1 (List.mem_of_getElem? (i := 191) rfl) rfl, tyX0_ok, nmX0, rfl, rfl, fun h => by cases h⟩
theorem fl_X9_89 : fW RX9 89 0 3 := ⟨_, _, _, rfl, inE0, by decide, tm1 (List.mem_of_getElem? (i := 192) rfl) rfl⟩
theorem pl_X9_89 : pW RX9 89 0 3 false (.int) := ⟨_, _, _, _, rfl, inE0, by decide, tm1 (List.mem_of_getElem? (i := 192) rfl) rfl, tyX0_ok, nmX0, rfl, rfl, fun h => by cases h⟩
theorem fl_X1_9 : fW RX1 9 1 0 := ⟨_, _, _, rfl, inE1, by decide, tm1 (List.mem_of_getElem? (i := 208) rfl) rfl⟩
theorem pl_X1_9 : pW RX1 9 1 0 false (.int) := ⟨_, _, _, _, rfl, inE1, by decide, tm1 (List.mem_of_getElem? (i := 208) rfl) rfl, tyX1_ok, nmX1, rfl, rfl, fun h => by cases h⟩
theorem fl_X5_20 : fW RX5 20 1 0 := ⟨_, _, _, rfl, inE1, by decide, tm1 (List.mem_of_getElem? (i := 209) rfl) rfl⟩
theorem pl_X5_20 : pW RX5 20 1 0 false (.int) := ⟨_, _, _, _, rfl, inE1, by decide, tm1 (List.mem_of_getElem? (i := 209) rfl) rfl, tyX1_ok, nmX1, rfl, rfl, fun h => by cases h⟩
theorem fl_X9_242 : fW RX9 242 1 0 := ⟨_, _, _, rfl, inE1, by decide, tm1 (List.mem_of_getElem? (i := 210) rfl) rfl⟩
theorem pl_X9_242 : pW RX9 242 1 0 false (.int) := ⟨_, _, _, _, rfl, inE1, by decide, tm1 (List.mem_of_getElem? (i := 210) rfl) rfl, tyX1_ok, nmX1, rfl, rfl, fun h => by cases h⟩
theorem ci_X9_46 : cI RX9 46 yX8_init cX8_init 1 0 := ⟨tm1 (List.mem_of_getElem? (i := 216) rfl) rfl, tm1 (List.mem_of_getElem? (i := 217) rfl) rfl, tm1 (List.mem_of_getElem? (i := 9) rfl) rfl, tm1 (List.mem_of_getElem? (i := 218) rfl) rfl, rfl, ⟨by decide +kernel, by decide +kernel, by decide +kernel⟩⟩
theorem fl_X8_9 : fW RX8 9 8 0 := ⟨_, _, _, rfl, inE8, by decide, tm1 (List.mem_of_getElem? (i := 220) rfl) rfl⟩
theorem pl_X8_9 : pW RX8 9 8 0 true (.array .long) := ⟨_, _, _, _, rfl, inE8, by decide, tm1 (List.mem_of_getElem? (i := 220) rfl) rfl, tyX8_ok, nmX8, rfl, rfl, fun _ => rfl⟩
theorem fl_X8_28 : fW RX8 28 8 1 := ⟨_, _, _, rfl, inE8, by decide, tm1 (List.mem_of_getElem? (i := 221) rfl) rfl⟩
theorem pl_X8_28 : pW RX8 28 8 1 false (.int) := ⟨_, _, _, _, rfl, inE8, by decide, tm1 (List.mem_of_getElem? (i := 221) rfl) rfl, tyX8_ok, nmX8, rfl, rfl, fun h => by cases h⟩
theorem fl_X8_32 : fW RX8 32 8 2 := ⟨_, _, _, rfl, inE8, by decide, tm1 (List.mem_of_getElem? (i := 222) rfl) rfl⟩
theorem pl_X8_32 : pW RX8 32 8 2 false (.int) := ⟨_, _, _, _, rfl, inE8, by decide, tm1 (List.mem_of_getElem? (i := 222) rfl) rfl, tyX8_ok, nmX8, rfl, rfl, fun h => by cases h⟩
theorem ci_X9_53 : cI RX9 53 yX2_init cX2_init 1 0 := ⟨tm1 (List.mem_of_getElem? (i := 233) rfl) rfl, tm1 (List.mem_of_getElem? (i := 234) rfl) rfl, tm1 (List.mem_of_getElem? (i := 10) rfl) rfl, tm1 (List.mem_of_getElem? (i := 235) rfl) rfl, rfl, ⟨by decide +kernel, by decide +kernel, by decide +kernel⟩⟩
theorem fl_X2_23 : fW RX2 23 2 0 := ⟨_, _, _, rfl, inE2, by decide, tm1 (List.mem_of_getElem? (i := 237) rfl) rfl⟩
theorem pl_X2_23 : pW RX2 23 2 0 false (.long) := ⟨_, _, _, _, rfl, inE2, by decide, tm1 (List.mem_of_getElem? (i := 237) rfl) rfl, tyX2_ok, nmX2, rfl, rfl, fun h => by cases h⟩
theorem fl_X2_7 : fW RX2 7 2 1 := ⟨_, _, _, rfl, inE2, by decide, tm1 (List.mem_of_getElem? (i := 238) rfl) rfl⟩
theorem pl_X2_7 : pW RX2 7 2 1 false (.long) := ⟨_, _, _, _, rfl, inE2, by decide, tm1 (List.mem_of_getElem? (i := 238) rfl) rfl, tyX2_ok, nmX2, rfl, rfl, fun h => by cases h⟩
theorem ci_X9_60 : cI RX9 60 yX7_init cX7_init 1 0 := ⟨tm2 (List.mem_of_getElem? (i := 6) rfl) rfl, tm2 (List.mem_of_getElem? (i := 7) rfl) rfl, tm1 (List.mem_of_getElem? (i := 11) rfl) rfl, tm2 (List.mem_of_getElem? (i := 8) rfl) rfl, rfl, ⟨by decide +kernel, by decide +kernel, by decide +kernel⟩⟩
theorem fl_X7_9 : fW RX7 9 7 0 := ⟨_, _, _, rfl, inE7, by decide, tm2 (List.mem_of_getElem? (i := 10) rfl) rfl⟩
theorem pl_X7_9 : pW RX7 9 7 0 true (.array .int) := ⟨_, _, _, _, rfl, inE7, by decide, tm2 (List.mem_of_getElem? (i := 10) rfl) rfl, tyX7_ok, nmX7, rfl, rfl, fun _ => rfl⟩
theorem fl_X7_15 : fW RX7 15 7 1 := ⟨_, _, _, rfl, inE7, by decide, tm2 (List.mem_of_getElem? (i := 11) rfl) rfl⟩
theorem pl_X7_15 : pW RX7 15 7 1 true (.array .int) := ⟨_, _, _, _, rfl, inE7, by decide, tm2 (List.mem_of_getElem? (i := 11) rfl) rfl, tyX7_ok, nmX7, rfl, rfl, fun _ => rfl⟩
theorem fl_X7_18 : fW RX7 18 7 2 := ⟨_, _, _, rfl, inE7, by decide, tm2 (List.mem_of_getElem? (i := 12) rfl) rfl⟩
theorem pl_X7_18 : pW RX7 18 7 2 true (.array .int) := ⟨_, _, _, _, rfl, inE7, by decide, tm2 (List.mem_of_getElem? (i := 12) rfl) rfl, tyX7_ok, nmX7, rfl, rfl, fun _ => rfl⟩
theorem fl_X9_86 : fW RX9 86 7 3 := ⟨_, _, _, rfl, inE7, by decide, tm2 (List.mem_of_getElem? (i := 13) rfl) rfl⟩
theorem pl_X9_86 : pW RX9 86 7 3 false (.int) := ⟨_, _, _, _, rfl, inE7, by decide, tm2 (List.mem_of_getElem? (i := 13) rfl) rfl, tyX7_ok, nmX7, rfl, rfl, fun h => by cases h⟩
theorem fl_X7_27 : fW RX7 27 7 3 := ⟨_, _, _, rfl, inE7, by decide, tm2 (List.mem_of_getElem? (i := 14) rfl) rfl⟩
theorem pl_X7_27 : pW RX7 27 7 3 false (.int) := ⟨_, _, _, _, rfl, inE7, by decide, tm2 (List.mem_of_getElem? (i := 14) rfl) rfl, tyX7_ok, nmX7, rfl, rfl, fun h => by cases h⟩
theorem fl_X9_10 : fW RX9 10 9 0 := ⟨_, _, _, rfl, inE9, by decide, tm2 (List.mem_of_getElem? (i := 24) rfl) rfl⟩
theorem pl_X9_10 : pW RX9 10 9 0 true (.object "TrunkReserve$Net") := ⟨_, _, _, _, rfl, inE9, by decide, tm2 (List.mem_of_getElem? (i := 24) rfl) rfl, tyX9_ok, nmX9, rfl, rfl, fun _ => rfl⟩
theorem fl_X9_19 : fW RX9 19 9 1 := ⟨_, _, _, rfl, inE9, by decide, tm2 (List.mem_of_getElem? (i := 25) rfl) rfl⟩
theorem pl_X9_19 : pW RX9 19 9 1 true (.object "TrunkReserve$History") := ⟨_, _, _, _, rfl, inE9, by decide, tm2 (List.mem_of_getElem? (i := 25) rfl) rfl, tyX9_ok, nmX9, rfl, rfl, fun _ => rfl⟩
theorem fl_X9_25 : fW RX9 25 9 2 := ⟨_, _, _, rfl, inE9, by decide, tm2 (List.mem_of_getElem? (i := 26) rfl) rfl⟩
theorem pl_X9_25 : pW RX9 25 9 2 true (.array (.object "TrunkReserve$Image")) := ⟨_, _, _, _, rfl, inE9, by decide, tm2 (List.mem_of_getElem? (i := 26) rfl) rfl, tyX9_ok, nmX9, rfl, rfl, fun _ => rfl⟩
theorem fl_X9_33 : fW RX9 33 9 3 := ⟨_, _, _, rfl, inE9, by decide, tm2 (List.mem_of_getElem? (i := 27) rfl) rfl⟩
theorem pl_X9_33 : pW RX9 33 9 3 true (.object "TrunkReserve$Book") := ⟨_, _, _, _, rfl, inE9, by decide, tm2 (List.mem_of_getElem? (i := 27) rfl) rfl, tyX9_ok, nmX9, rfl, rfl, fun _ => rfl⟩
theorem fl_X9_40 : fW RX9 40 9 4 := ⟨_, _, _, rfl, inE9, by decide, tm2 (List.mem_of_getElem? (i := 28) rfl) rfl⟩
theorem pl_X9_40 : pW RX9 40 9 4 true (.object "TrunkReserve$Draws") := ⟨_, _, _, _, rfl, inE9, by decide, tm2 (List.mem_of_getElem? (i := 28) rfl) rfl, tyX9_ok, nmX9, rfl, rfl, fun _ => rfl⟩
theorem fl_X9_47 : fW RX9 47 9 5 := ⟨_, _, _, rfl, inE9, by decide, tm2 (List.mem_of_getElem? (i := 29) rfl) rfl⟩
theorem pl_X9_47 : pW RX9 47 9 5 true (.object "TrunkReserve$Weights") := ⟨_, _, _, _, rfl, inE9, by decide, tm2 (List.mem_of_getElem? (i := 29) rfl) rfl, tyX9_ok, nmX9, rfl, rfl, fun _ => rfl⟩
theorem fl_X9_54 : fW RX9 54 9 6 := ⟨_, _, _, rfl, inE9, by decide, tm2 (List.mem_of_getElem? (i := 30) rfl) rfl⟩
theorem pl_X9_54 : pW RX9 54 9 6 true (.object "TrunkReserve$Fraction") := ⟨_, _, _, _, rfl, inE9, by decide, tm2 (List.mem_of_getElem? (i := 30) rfl) rfl, tyX9_ok, nmX9, rfl, rfl, fun _ => rfl⟩
theorem fl_X9_61 : fW RX9 61 9 7 := ⟨_, _, _, rfl, inE9, by decide, tm2 (List.mem_of_getElem? (i := 31) rfl) rfl⟩
theorem pl_X9_61 : pW RX9 61 9 7 true (.object "TrunkReserve$Together") := ⟨_, _, _, _, rfl, inE9, by decide, tm2 (List.mem_of_getElem? (i := 31) rfl) rfl, tyX9_ok, nmX9, rfl, rfl, fun _ => rfl⟩
theorem cv_L_13 : cV RL 13 yX9_told cX9_told 2 (some (Jvm.ClassFile.FieldType.int)) 1 := ⟨tm2 (List.mem_of_getElem? (i := 49) rfl) rfl, tm2 (List.mem_of_getElem? (i := 50) rfl) rfl, tm2 (List.mem_of_getElem? (i := 51) rfl) rfl, tm1 (List.mem_of_getElem? (i := 1) rfl) rfl, tm2 (List.mem_of_getElem? (i := 52) rfl) rfl, ⟨by decide +kernel, by decide +kernel, by decide +kernel⟩⟩
theorem cv_X9_75 : cV RX9 75 yX6_heldLines cX6_heldLines 3 (some (Jvm.ClassFile.FieldType.int)) 0 := ⟨tm2 (List.mem_of_getElem? (i := 53) rfl) rfl, tm2 (List.mem_of_getElem? (i := 54) rfl) rfl, tm2 (List.mem_of_getElem? (i := 55) rfl) rfl, tm1 (List.mem_of_getElem? (i := 2) rfl) rfl, tm2 (List.mem_of_getElem? (i := 56) rfl) rfl, ⟨by decide +kernel, by decide +kernel, by decide +kernel⟩⟩
theorem cv_X6_46 : cV RX6 46 yX3_count cX3_count 2 (some (Jvm.ClassFile.FieldType.int)) 1 := ⟨tm2 (List.mem_of_getElem? (i := 57) rfl) rfl, tm2 (List.mem_of_getElem? (i := 58) rfl) rfl, tm2 (List.mem_of_getElem? (i := 59) rfl) rfl, tm1 (List.mem_of_getElem? (i := 3) rfl) rfl, tm2 (List.mem_of_getElem? (i := 60) rfl) rfl, ⟨by decide +kernel, by decide +kernel, by decide +kernel⟩⟩
theorem cv_X3_70 : cV RX3 70 yX3_setOf cX3_setOf 4 (some (Jvm.ClassFile.FieldType.int)) 1 := ⟨tm2 (List.mem_of_getElem? (i := 61) rfl) rfl, tm2 (List.mem_of_getElem? (i := 62) rfl) rfl, tm2 (List.mem_of_getElem? (i := 63) rfl) rfl, tm1 (List.mem_of_getElem? (i := 3) rfl) rfl, tm2 (List.mem_of_getElem? (i := 64) rfl) rfl, ⟨by decide +kernel, by decide +kernel, by decide +kernel⟩⟩
theorem cs_X3_74 : cS RX3 74 yJ6_bitCount_0f7a4 cJ6_bitCount_0f7a4 1 (some (Jvm.ClassFile.FieldType.int)) 1 := ⟨tm2 (List.mem_of_getElem? (i := 65) rfl) rfl, tm2 (List.mem_of_getElem? (i := 66) rfl) rfl, tm1 (List.mem_of_getElem? (i := 13) rfl) rfl, tm2 (List.mem_of_getElem? (i := 67) rfl) rfl, ⟨by decide +kernel, by decide +kernel, by decide +kernel⟩⟩
theorem kc_J6_265 : Cond.constant RJ6 265 (1431655765) ∈ tG := tm2 (List.mem_of_getElem? (i := 68) rfl) rfl
theorem kc_J6_266 : Cond.constant RJ6 266 (858993459) ∈ tG := tm2 (List.mem_of_getElem? (i := 69) rfl) rfl
theorem kc_J6_267 : Cond.constant RJ6 267 (252645135) ∈ tG := tm2 (List.mem_of_getElem? (i := 70) rfl) rfl
theorem cv_X9_79 : cV RX9 79 yX6_lostCalls cX6_lostCalls 3 (some (Jvm.ClassFile.FieldType.int)) 0 := ⟨tm2 (List.mem_of_getElem? (i := 71) rfl) rfl, tm2 (List.mem_of_getElem? (i := 72) rfl) rfl, tm2 (List.mem_of_getElem? (i := 73) rfl) rfl, tm1 (List.mem_of_getElem? (i := 2) rfl) rfl, tm2 (List.mem_of_getElem? (i := 74) rfl) rfl, ⟨by decide +kernel, by decide +kernel, by decide +kernel⟩⟩
theorem cv_X9_82 : cV RX9 82 yX7_settle cX7_settle 5 none 2 := ⟨tm2 (List.mem_of_getElem? (i := 75) rfl) rfl, tm2 (List.mem_of_getElem? (i := 76) rfl) rfl, tm2 (List.mem_of_getElem? (i := 77) rfl) rfl, tm1 (List.mem_of_getElem? (i := 11) rfl) rfl, tm2 (List.mem_of_getElem? (i := 78) rfl) rfl, ⟨by decide +kernel, by decide +kernel, by decide +kernel⟩⟩
theorem cs_X7_21 : cS RX7 21 yJ7_fill_53178 cJ7_fill_53178 4 none 2 := ⟨tm2 (List.mem_of_getElem? (i := 79) rfl) rfl, tm1 (List.mem_of_getElem? (i := 121) rfl) rfl, tm1 (List.mem_of_getElem? (i := 4) rfl) rfl, tm1 (List.mem_of_getElem? (i := 122) rfl) rfl, ⟨by decide +kernel, by decide +kernel, by decide +kernel⟩⟩
theorem cv_X7_31 : cV RX7 31 yX7_loseEach cX7_loseEach 7 none 2 := ⟨tm2 (List.mem_of_getElem? (i := 80) rfl) rfl, tm2 (List.mem_of_getElem? (i := 81) rfl) rfl, tm2 (List.mem_of_getElem? (i := 82) rfl) rfl, tm1 (List.mem_of_getElem? (i := 11) rfl) rfl, tm2 (List.mem_of_getElem? (i := 83) rfl) rfl, ⟨by decide +kernel, by decide +kernel, by decide +kernel⟩⟩
theorem kc_X7_52 : Cond.constantLong RX7 52 (1000000) ∈ tG := tm2 (List.mem_of_getElem? (i := 84) rfl) rfl
theorem cv_X7_65 : cV RX7 65 yX8_weigh cX8_weigh 13 none 6 := ⟨tm2 (List.mem_of_getElem? (i := 85) rfl) rfl, tm2 (List.mem_of_getElem? (i := 86) rfl) rfl, tm2 (List.mem_of_getElem? (i := 87) rfl) rfl, tm1 (List.mem_of_getElem? (i := 9) rfl) rfl, tm2 (List.mem_of_getElem? (i := 88) rfl) rfl, ⟨by decide +kernel, by decide +kernel, by decide +kernel⟩⟩
theorem cs_X8_19 : cS RX8 19 yJ9_min_7cf53 cJ9_min_7cf53 2 (some (Jvm.ClassFile.FieldType.int)) 2 := ⟨tm2 (List.mem_of_getElem? (i := 89) rfl) rfl, tm2 (List.mem_of_getElem? (i := 90) rfl) rfl, tm1 (List.mem_of_getElem? (i := 14) rfl) rfl, tm2 (List.mem_of_getElem? (i := 91) rfl) rfl, ⟨by decide +kernel, by decide +kernel, by decide +kernel⟩⟩
theorem cs_X8_25 : cS RX8 25 yJ9_max_7cf53 cJ9_max_7cf53 2 (some (Jvm.ClassFile.FieldType.int)) 2 := ⟨tm2 (List.mem_of_getElem? (i := 92) rfl) rfl, tm2 (List.mem_of_getElem? (i := 93) rfl) rfl, tm1 (List.mem_of_getElem? (i := 14) rfl) rfl, tm2 (List.mem_of_getElem? (i := 94) rfl) rfl, ⟨by decide +kernel, by decide +kernel, by decide +kernel⟩⟩
theorem cv_X8_35 : cV RX8 35 yX8_takesOver cX8_takesOver 2 (some (Jvm.ClassFile.FieldType.boolean)) 1 := ⟨tm2 (List.mem_of_getElem? (i := 95) rfl) rfl, tm2 (List.mem_of_getElem? (i := 96) rfl) rfl, tm2 (List.mem_of_getElem? (i := 97) rfl) rfl, tm1 (List.mem_of_getElem? (i := 9) rfl) rfl, tm2 (List.mem_of_getElem? (i := 98) rfl) rfl, ⟨by decide +kernel, by decide +kernel, by decide +kernel⟩⟩
theorem cs_X8_39 : cS RX8 39 yJ9_max_f86c9 cJ9_max_f86c9 4 (some (Jvm.ClassFile.FieldType.long)) 2 := ⟨tm2 (List.mem_of_getElem? (i := 99) rfl) rfl, tm2 (List.mem_of_getElem? (i := 100) rfl) rfl, tm1 (List.mem_of_getElem? (i := 14) rfl) rfl, tm2 (List.mem_of_getElem? (i := 101) rfl) rfl, ⟨by decide +kernel, by decide +kernel, by decide +kernel⟩⟩
theorem cv_X7_71 : cV RX7 71 yX8_all cX8_all 4 (some (Jvm.ClassFile.FieldType.long)) 0 := ⟨tm2 (List.mem_of_getElem? (i := 102) rfl) rfl, tm2 (List.mem_of_getElem? (i := 103) rfl) rfl, tm2 (List.mem_of_getElem? (i := 104) rfl) rfl, tm1 (List.mem_of_getElem? (i := 9) rfl) rfl, tm2 (List.mem_of_getElem? (i := 105) rfl) rfl, ⟨by decide +kernel, by decide +kernel, by decide +kernel⟩⟩
theorem kc_X7_75 : Cond.constantLong RX7 75 (1000) ∈ tG := tm2 (List.mem_of_getElem? (i := 106) rfl) rfl
theorem cv_X7_77 : cV RX7 77 yX8_ofAllHeld cX8_ofAllHeld 1 (some (Jvm.ClassFile.FieldType.long)) 0 := ⟨tm2 (List.mem_of_getElem? (i := 107) rfl) rfl, tm2 (List.mem_of_getElem? (i := 108) rfl) rfl, tm2 (List.mem_of_getElem? (i := 109) rfl) rfl, tm1 (List.mem_of_getElem? (i := 9) rfl) rfl, tm2 (List.mem_of_getElem? (i := 110) rfl) rfl, ⟨by decide +kernel, by decide +kernel, by decide +kernel⟩⟩
theorem cv_X7_35 : cV RX7 35 yX7_sendOver cX7_sendOver 4 none 1 := ⟨tm2 (List.mem_of_getElem? (i := 111) rfl) rfl, tm2 (List.mem_of_getElem? (i := 112) rfl) rfl, tm2 (List.mem_of_getElem? (i := 113) rfl) rfl, tm1 (List.mem_of_getElem? (i := 11) rfl) rfl, tm2 (List.mem_of_getElem? (i := 114) rfl) rfl, ⟨by decide +kernel, by decide +kernel, by decide +kernel⟩⟩
theorem cv_X7_83 : cV RX7 83 yX6_groupAt cX6_groupAt 2 (some ((Jvm.ClassFile.FieldType.object "TrunkReserve$Group"))) 1 := ⟨tm2 (List.mem_of_getElem? (i := 115) rfl) rfl, tm2 (List.mem_of_getElem? (i := 116) rfl) rfl, tm2 (List.mem_of_getElem? (i := 117) rfl) rfl, tm1 (List.mem_of_getElem? (i := 2) rfl) rfl, tm2 (List.mem_of_getElem? (i := 118) rfl) rfl, ⟨by decide +kernel, by decide +kernel, by decide +kernel⟩⟩
theorem cv_X7_39 : cV RX7 39 yX7_takeNewLoads cX7_takeNewLoads 3 (some (Jvm.ClassFile.FieldType.boolean)) 0 := ⟨tm2 (List.mem_of_getElem? (i := 119) rfl) rfl, tm2 (List.mem_of_getElem? (i := 120) rfl) rfl, tm2 (List.mem_of_getElem? (i := 121) rfl) rfl, tm1 (List.mem_of_getElem? (i := 11) rfl) rfl, tm2 (List.mem_of_getElem? (i := 122) rfl) rfl, ⟨by decide +kernel, by decide +kernel, by decide +kernel⟩⟩
theorem cv_X9_90 : cV RX9 90 yX0_firstWrong cX0_firstWrong 3 (some (Jvm.ClassFile.FieldType.int)) 1 := ⟨tm2 (List.mem_of_getElem? (i := 123) rfl) rfl, tm2 (List.mem_of_getElem? (i := 124) rfl) rfl, tm2 (List.mem_of_getElem? (i := 125) rfl) rfl, tm1 (List.mem_of_getElem? (i := 7) rfl) rfl, tm2 (List.mem_of_getElem? (i := 126) rfl) rfl, ⟨by decide +kernel, by decide +kernel, by decide +kernel⟩⟩
theorem cv_X0_25 : cV RX0 25 yX0_isWrong cX0_isWrong 4 (some (Jvm.ClassFile.FieldType.boolean)) 2 := ⟨tm2 (List.mem_of_getElem? (i := 127) rfl) rfl, tm2 (List.mem_of_getElem? (i := 128) rfl) rfl, tm2 (List.mem_of_getElem? (i := 129) rfl) rfl, tm1 (List.mem_of_getElem? (i := 7) rfl) rfl, tm2 (List.mem_of_getElem? (i := 130) rfl) rfl, ⟨by decide +kernel, by decide +kernel, by decide +kernel⟩⟩
theorem cv_X0_29 : cV RX0 29 yX6_groupWithLine cX6_groupWithLine 4 (some ((Jvm.ClassFile.FieldType.object "TrunkReserve$Group"))) 2 := ⟨tm2 (List.mem_of_getElem? (i := 131) rfl) rfl, tm2 (List.mem_of_getElem? (i := 132) rfl) rfl, tm2 (List.mem_of_getElem? (i := 133) rfl) rfl, tm1 (List.mem_of_getElem? (i := 2) rfl) rfl, tm2 (List.mem_of_getElem? (i := 134) rfl) rfl, ⟨by decide +kernel, by decide +kernel, by decide +kernel⟩⟩
theorem cv_X6_38 : cV RX6 38 yX6_groupAt cX6_groupAt 2 (some ((Jvm.ClassFile.FieldType.object "TrunkReserve$Group"))) 1 := ⟨tm2 (List.mem_of_getElem? (i := 135) rfl) rfl, tm2 (List.mem_of_getElem? (i := 116) rfl) rfl, tm2 (List.mem_of_getElem? (i := 117) rfl) rfl, tm1 (List.mem_of_getElem? (i := 2) rfl) rfl, tm2 (List.mem_of_getElem? (i := 118) rfl) rfl, ⟨by decide +kernel, by decide +kernel, by decide +kernel⟩⟩
theorem cv_X6_42 : cV RX6 42 yX3_hasLine cX3_hasLine 2 (some (Jvm.ClassFile.FieldType.boolean)) 1 := ⟨tm2 (List.mem_of_getElem? (i := 136) rfl) rfl, tm2 (List.mem_of_getElem? (i := 137) rfl) rfl, tm2 (List.mem_of_getElem? (i := 138) rfl) rfl, tm1 (List.mem_of_getElem? (i := 3) rfl) rfl, tm2 (List.mem_of_getElem? (i := 139) rfl) rfl, ⟨by decide +kernel, by decide +kernel, by decide +kernel⟩⟩
theorem kc_X9_95 : Cond.constant RX9 95 (-1000000002) ∈ tG := tm2 (List.mem_of_getElem? (i := 140) rfl) rfl
theorem cv_L_18 : cV RL 18 yX9_group cX9_group 4 (some (Jvm.ClassFile.FieldType.int)) 2 := ⟨tm2 (List.mem_of_getElem? (i := 141) rfl) rfl, tm2 (List.mem_of_getElem? (i := 142) rfl) rfl, tm2 (List.mem_of_getElem? (i := 143) rfl) rfl, tm1 (List.mem_of_getElem? (i := 1) rfl) rfl, tm2 (List.mem_of_getElem? (i := 144) rfl) rfl, ⟨by decide +kernel, by decide +kernel, by decide +kernel⟩⟩
theorem cv_X9_96 : cV RX9 96 yX6_groupAt cX6_groupAt 2 (some ((Jvm.ClassFile.FieldType.object "TrunkReserve$Group"))) 1 := ⟨tm2 (List.mem_of_getElem? (i := 145) rfl) rfl, tm2 (List.mem_of_getElem? (i := 116) rfl) rfl, tm2 (List.mem_of_getElem? (i := 117) rfl) rfl, tm1 (List.mem_of_getElem? (i := 2) rfl) rfl, tm2 (List.mem_of_getElem? (i := 118) rfl) rfl, ⟨by decide +kernel, by decide +kernel, by decide +kernel⟩⟩
theorem kc_X9_100 : Cond.constant RX9 100 (-1000000001) ∈ tG := tm2 (List.mem_of_getElem? (i := 146) rfl) rfl
theorem cv_X9_118 : cV RX9 118 yX3_setOf cX3_setOf 4 (some (Jvm.ClassFile.FieldType.int)) 1 := ⟨tm2 (List.mem_of_getElem? (i := 147) rfl) rfl, tm2 (List.mem_of_getElem? (i := 62) rfl) rfl, tm2 (List.mem_of_getElem? (i := 63) rfl) rfl, tm1 (List.mem_of_getElem? (i := 3) rfl) rfl, tm2 (List.mem_of_getElem? (i := 64) rfl) rfl, ⟨by decide +kernel, by decide +kernel, by decide +kernel⟩⟩
theorem cv_X9_134 : cV RX9 134 yX6_nextPlace cX6_nextPlace 5 (some (Jvm.ClassFile.FieldType.int)) 1 := ⟨tm2 (List.mem_of_getElem? (i := 148) rfl) rfl, tm2 (List.mem_of_getElem? (i := 149) rfl) rfl, tm2 (List.mem_of_getElem? (i := 150) rfl) rfl, tm1 (List.mem_of_getElem? (i := 2) rfl) rfl, tm2 (List.mem_of_getElem? (i := 151) rfl) rfl, ⟨by decide +kernel, by decide +kernel, by decide +kernel⟩⟩
theorem cv_X6_53 : cV RX6 53 yX3_chosenLine cX3_chosenLine 1 (some (Jvm.ClassFile.FieldType.int)) 0 := ⟨tm2 (List.mem_of_getElem? (i := 152) rfl) rfl, tm2 (List.mem_of_getElem? (i := 153) rfl) rfl, tm2 (List.mem_of_getElem? (i := 154) rfl) rfl, tm1 (List.mem_of_getElem? (i := 3) rfl) rfl, tm2 (List.mem_of_getElem? (i := 155) rfl) rfl, ⟨by decide +kernel, by decide +kernel, by decide +kernel⟩⟩
theorem cv_X3_79 : cV RX3 79 yX3_lastFree cX3_lastFree 2 (some (Jvm.ClassFile.FieldType.int)) 0 := ⟨tm2 (List.mem_of_getElem? (i := 156) rfl) rfl, tm2 (List.mem_of_getElem? (i := 157) rfl) rfl, tm2 (List.mem_of_getElem? (i := 158) rfl) rfl, tm1 (List.mem_of_getElem? (i := 3) rfl) rfl, tm2 (List.mem_of_getElem? (i := 159) rfl) rfl, ⟨by decide +kernel, by decide +kernel, by decide +kernel⟩⟩
theorem cv_X3_83 : cV RX3 83 yX3_longestFree cX3_longestFree 3 (some (Jvm.ClassFile.FieldType.int)) 0 := ⟨tm2 (List.mem_of_getElem? (i := 160) rfl) rfl, tm2 (List.mem_of_getElem? (i := 161) rfl) rfl, tm2 (List.mem_of_getElem? (i := 162) rfl) rfl, tm1 (List.mem_of_getElem? (i := 3) rfl) rfl, tm2 (List.mem_of_getElem? (i := 163) rfl) rfl, ⟨by decide +kernel, by decide +kernel, by decide +kernel⟩⟩
theorem cv_X3_86 : cV RX3 86 yX3_firstFreeFrom cX3_firstFreeFrom 4 (some (Jvm.ClassFile.FieldType.int)) 1 := ⟨tm2 (List.mem_of_getElem? (i := 164) rfl) rfl, tm2 (List.mem_of_getElem? (i := 165) rfl) rfl, tm2 (List.mem_of_getElem? (i := 166) rfl) rfl, tm1 (List.mem_of_getElem? (i := 3) rfl) rfl, tm2 (List.mem_of_getElem? (i := 167) rfl) rfl, ⟨by decide +kernel, by decide +kernel, by decide +kernel⟩⟩
theorem cv_X9_137 : cV RX9 137 yX7_loadOver cX7_loadOver 2 (some (Jvm.ClassFile.FieldType.int)) 1 := ⟨tm2 (List.mem_of_getElem? (i := 168) rfl) rfl, tm2 (List.mem_of_getElem? (i := 169) rfl) rfl, tm2 (List.mem_of_getElem? (i := 170) rfl) rfl, tm1 (List.mem_of_getElem? (i := 11) rfl) rfl, tm2 (List.mem_of_getElem? (i := 171) rfl) rfl, ⟨by decide +kernel, by decide +kernel, by decide +kernel⟩⟩
theorem cv_X9_140 : cV RX9 140 yX7_lossOf cX7_lossOf 2 (some (Jvm.ClassFile.FieldType.int)) 1 := ⟨tm2 (List.mem_of_getElem? (i := 172) rfl) rfl, tm2 (List.mem_of_getElem? (i := 173) rfl) rfl, tm2 (List.mem_of_getElem? (i := 174) rfl) rfl, tm1 (List.mem_of_getElem? (i := 11) rfl) rfl, tm2 (List.mem_of_getElem? (i := 175) rfl) rfl, ⟨by decide +kernel, by decide +kernel, by decide +kernel⟩⟩
theorem cv_L_23 : cV RL 23 yX9_line cX9_line 5 (some (Jvm.ClassFile.FieldType.int)) 3 := ⟨tm2 (List.mem_of_getElem? (i := 176) rfl) rfl, tm2 (List.mem_of_getElem? (i := 177) rfl) rfl, tm2 (List.mem_of_getElem? (i := 178) rfl) rfl, tm1 (List.mem_of_getElem? (i := 1) rfl) rfl, tm2 (List.mem_of_getElem? (i := 179) rfl) rfl, ⟨by decide +kernel, by decide +kernel, by decide +kernel⟩⟩
theorem cv_X9_143 : cV RX9 143 yX6_groupWithLine cX6_groupWithLine 4 (some ((Jvm.ClassFile.FieldType.object "TrunkReserve$Group"))) 2 := ⟨tm2 (List.mem_of_getElem? (i := 180) rfl) rfl, tm2 (List.mem_of_getElem? (i := 132) rfl) rfl, tm2 (List.mem_of_getElem? (i := 133) rfl) rfl, tm1 (List.mem_of_getElem? (i := 2) rfl) rfl, tm2 (List.mem_of_getElem? (i := 134) rfl) rfl, ⟨by decide +kernel, by decide +kernel, by decide +kernel⟩⟩
theorem cv_L_28 : cV RL 28 yX9_build cX9_build 3 (some (Jvm.ClassFile.FieldType.int)) 1 := ⟨tm2 (List.mem_of_getElem? (i := 181) rfl) rfl, tm2 (List.mem_of_getElem? (i := 182) rfl) rfl, tm2 (List.mem_of_getElem? (i := 183) rfl) rfl, tm1 (List.mem_of_getElem? (i := 1) rfl) rfl, tm2 (List.mem_of_getElem? (i := 184) rfl) rfl, ⟨by decide +kernel, by decide +kernel, by decide +kernel⟩⟩
theorem cs_X9_157 : cS RX9 157 yX9_isWithin cX9_isWithin 3 (some (Jvm.ClassFile.FieldType.boolean)) 3 := ⟨tm2 (List.mem_of_getElem? (i := 185) rfl) rfl, tm2 (List.mem_of_getElem? (i := 186) rfl) rfl, tm1 (List.mem_of_getElem? (i := 1) rfl) rfl, tm2 (List.mem_of_getElem? (i := 187) rfl) rfl, ⟨by decide +kernel, by decide +kernel, by decide +kernel⟩⟩
theorem cv_X9_161 : cV RX9 161 yX4_remember cX4_remember 2 none 1 := ⟨tm2 (List.mem_of_getElem? (i := 188) rfl) rfl, tm2 (List.mem_of_getElem? (i := 189) rfl) rfl, tm2 (List.mem_of_getElem? (i := 190) rfl) rfl, tm1 (List.mem_of_getElem? (i := 5) rfl) rfl, tm2 (List.mem_of_getElem? (i := 191) rfl) rfl, ⟨by decide +kernel, by decide +kernel, by decide +kernel⟩⟩
theorem cv_X4_22 : cV RX4 22 yX6_copyFrom cX6_copyFrom 3 none 1 := ⟨tm2 (List.mem_of_getElem? (i := 192) rfl) rfl, tm2 (List.mem_of_getElem? (i := 193) rfl) rfl, tm2 (List.mem_of_getElem? (i := 194) rfl) rfl, tm1 (List.mem_of_getElem? (i := 2) rfl) rfl, tm2 (List.mem_of_getElem? (i := 195) rfl) rfl, ⟨by decide +kernel, by decide +kernel, by decide +kernel⟩⟩
theorem cv_X6_34 : cV RX6 34 yX3_copyFrom cX3_copyFrom 2 none 1 := ⟨tm2 (List.mem_of_getElem? (i := 196) rfl) rfl, tm2 (List.mem_of_getElem? (i := 197) rfl) rfl, tm2 (List.mem_of_getElem? (i := 198) rfl) rfl, tm1 (List.mem_of_getElem? (i := 3) rfl) rfl, tm2 (List.mem_of_getElem? (i := 199) rfl) rfl, ⟨by decide +kernel, by decide +kernel, by decide +kernel⟩⟩
theorem cv_X9_165 : cV RX9 165 yX6_begin cX6_begin 3 none 1 := ⟨tm2 (List.mem_of_getElem? (i := 203) rfl) rfl, tm1 (List.mem_of_getElem? (i := 109) rfl) rfl, tm1 (List.mem_of_getElem? (i := 110) rfl) rfl, tm1 (List.mem_of_getElem? (i := 2) rfl) rfl, tm1 (List.mem_of_getElem? (i := 111) rfl) rfl, ⟨by decide +kernel, by decide +kernel, by decide +kernel⟩⟩
theorem cv_L_32 : cV RL 32 yX9_shape cX9_shape 9 (some (Jvm.ClassFile.FieldType.int)) 6 := ⟨tm2 (List.mem_of_getElem? (i := 204) rfl) rfl, tm2 (List.mem_of_getElem? (i := 205) rfl) rfl, tm2 (List.mem_of_getElem? (i := 206) rfl) rfl, tm1 (List.mem_of_getElem? (i := 1) rfl) rfl, tm2 (List.mem_of_getElem? (i := 207) rfl) rfl, ⟨by decide +kernel, by decide +kernel, by decide +kernel⟩⟩
theorem cv_X9_169 : cV RX9 169 yX3_count cX3_count 2 (some (Jvm.ClassFile.FieldType.int)) 1 := ⟨tm2 (List.mem_of_getElem? (i := 208) rfl) rfl, tm2 (List.mem_of_getElem? (i := 58) rfl) rfl, tm2 (List.mem_of_getElem? (i := 59) rfl) rfl, tm1 (List.mem_of_getElem? (i := 3) rfl) rfl, tm2 (List.mem_of_getElem? (i := 60) rfl) rfl, ⟨by decide +kernel, by decide +kernel, by decide +kernel⟩⟩
theorem cv_X9_172 : cV RX9 172 yX3_freeAllLines cX3_freeAllLines 1 none 0 := ⟨tm2 (List.mem_of_getElem? (i := 209) rfl) rfl, tm1 (List.mem_of_getElem? (i := 117) rfl) rfl, tm1 (List.mem_of_getElem? (i := 118) rfl) rfl, tm1 (List.mem_of_getElem? (i := 3) rfl) rfl, tm1 (List.mem_of_getElem? (i := 119) rfl) rfl, ⟨by decide +kernel, by decide +kernel, by decide +kernel⟩⟩
theorem cv_L_37 : cV RL 37 yX9_call cX9_call 2 (some (Jvm.ClassFile.FieldType.int)) 1 := ⟨tm2 (List.mem_of_getElem? (i := 210) rfl) rfl, tm2 (List.mem_of_getElem? (i := 211) rfl) rfl, tm2 (List.mem_of_getElem? (i := 212) rfl) rfl, tm1 (List.mem_of_getElem? (i := 1) rfl) rfl, tm2 (List.mem_of_getElem? (i := 213) rfl) rfl, ⟨by decide +kernel, by decide +kernel, by decide +kernel⟩⟩
theorem cv_X9_175 : cV RX9 175 yX6_placeCall cX6_placeCall 8 (some (Jvm.ClassFile.FieldType.int)) 1 := ⟨tm2 (List.mem_of_getElem? (i := 214) rfl) rfl, tm2 (List.mem_of_getElem? (i := 215) rfl) rfl, tm2 (List.mem_of_getElem? (i := 216) rfl) rfl, tm1 (List.mem_of_getElem? (i := 2) rfl) rfl, tm2 (List.mem_of_getElem? (i := 217) rfl) rfl, ⟨by decide +kernel, by decide +kernel, by decide +kernel⟩⟩
theorem cv_X6_63 : cV RX6 63 yX6_nextPlace cX6_nextPlace 5 (some (Jvm.ClassFile.FieldType.int)) 1 := ⟨tm2 (List.mem_of_getElem? (i := 218) rfl) rfl, tm2 (List.mem_of_getElem? (i := 149) rfl) rfl, tm2 (List.mem_of_getElem? (i := 150) rfl) rfl, tm1 (List.mem_of_getElem? (i := 2) rfl) rfl, tm2 (List.mem_of_getElem? (i := 151) rfl) rfl, ⟨by decide +kernel, by decide +kernel, by decide +kernel⟩⟩
theorem cv_X6_69 : cV RX6 69 yX6_groupWithLine cX6_groupWithLine 4 (some ((Jvm.ClassFile.FieldType.object "TrunkReserve$Group"))) 2 := ⟨tm2 (List.mem_of_getElem? (i := 219) rfl) rfl, tm2 (List.mem_of_getElem? (i := 132) rfl) rfl, tm2 (List.mem_of_getElem? (i := 133) rfl) rfl, tm1 (List.mem_of_getElem? (i := 2) rfl) rfl, tm2 (List.mem_of_getElem? (i := 134) rfl) rfl, ⟨by decide +kernel, by decide +kernel, by decide +kernel⟩⟩
theorem cv_X6_73 : cV RX6 73 yX3_hold cX3_hold 4 none 3 := ⟨tm2 (List.mem_of_getElem? (i := 220) rfl) rfl, tm2 (List.mem_of_getElem? (i := 221) rfl) rfl, tm2 (List.mem_of_getElem? (i := 222) rfl) rfl, tm1 (List.mem_of_getElem? (i := 3) rfl) rfl, tm2 (List.mem_of_getElem? (i := 223) rfl) rfl, ⟨by decide +kernel, by decide +kernel, by decide +kernel⟩⟩
theorem cv_L_41 : cV RL 41 yX9_end cX9_end 4 (some (Jvm.ClassFile.FieldType.int)) 2 := ⟨tm2 (List.mem_of_getElem? (i := 224) rfl) rfl, tm2 (List.mem_of_getElem? (i := 225) rfl) rfl, tm2 (List.mem_of_getElem? (i := 226) rfl) rfl, tm1 (List.mem_of_getElem? (i := 1) rfl) rfl, tm2 (List.mem_of_getElem? (i := 227) rfl) rfl, ⟨by decide +kernel, by decide +kernel, by decide +kernel⟩⟩
theorem kc_X9_178 : Cond.constant RX9 178 (-1000000003) ∈ tG := tm2 (List.mem_of_getElem? (i := 228) rfl) rfl
theorem cv_X9_179 : cV RX9 179 yX6_endCall cX6_endCall 4 (some (Jvm.ClassFile.FieldType.int)) 2 := ⟨tm2 (List.mem_of_getElem? (i := 229) rfl) rfl, tm2 (List.mem_of_getElem? (i := 230) rfl) rfl, tm2 (List.mem_of_getElem? (i := 231) rfl) rfl, tm1 (List.mem_of_getElem? (i := 2) rfl) rfl, tm2 (List.mem_of_getElem? (i := 232) rfl) rfl, ⟨by decide +kernel, by decide +kernel, by decide +kernel⟩⟩
theorem cv_X6_87 : cV RX6 87 yX3_letGo cX3_letGo 4 none 3 := ⟨tm2 (List.mem_of_getElem? (i := 233) rfl) rfl, tm2 (List.mem_of_getElem? (i := 234) rfl) rfl, tm2 (List.mem_of_getElem? (i := 235) rfl) rfl, tm1 (List.mem_of_getElem? (i := 3) rfl) rfl, tm2 (List.mem_of_getElem? (i := 236) rfl) rfl, ⟨by decide +kernel, by decide +kernel, by decide +kernel⟩⟩
theorem cv_L_45 : cV RL 45 yX9_damage cX9_damage 4 (some (Jvm.ClassFile.FieldType.int)) 2 := ⟨tm2 (List.mem_of_getElem? (i := 237) rfl) rfl, tm2 (List.mem_of_getElem? (i := 238) rfl) rfl, tm2 (List.mem_of_getElem? (i := 239) rfl) rfl, tm1 (List.mem_of_getElem? (i := 1) rfl) rfl, tm3 (List.mem_of_getElem? (i := 0) rfl) rfl, ⟨by decide +kernel, by decide +kernel, by decide +kernel⟩⟩
theorem cv_X9_183 : cV RX9 183 yX6_breakLine cX6_breakLine 5 (some (Jvm.ClassFile.FieldType.int)) 2 := ⟨tm3 (List.mem_of_getElem? (i := 1) rfl) rfl, tm3 (List.mem_of_getElem? (i := 2) rfl) rfl, tm3 (List.mem_of_getElem? (i := 3) rfl) rfl, tm1 (List.mem_of_getElem? (i := 2) rfl) rfl, tm3 (List.mem_of_getElem? (i := 4) rfl) rfl, ⟨by decide +kernel, by decide +kernel, by decide +kernel⟩⟩
theorem cv_L_49 : cV RL 49 yX9_mend cX9_mend 4 (some (Jvm.ClassFile.FieldType.int)) 2 := ⟨tm3 (List.mem_of_getElem? (i := 5) rfl) rfl, tm3 (List.mem_of_getElem? (i := 6) rfl) rfl, tm3 (List.mem_of_getElem? (i := 7) rfl) rfl, tm1 (List.mem_of_getElem? (i := 1) rfl) rfl, tm3 (List.mem_of_getElem? (i := 8) rfl) rfl, ⟨by decide +kernel, by decide +kernel, by decide +kernel⟩⟩
theorem cv_X9_186 : cV RX9 186 yX6_mendLine cX6_mendLine 3 none 2 := ⟨tm3 (List.mem_of_getElem? (i := 9) rfl) rfl, tm3 (List.mem_of_getElem? (i := 10) rfl) rfl, tm3 (List.mem_of_getElem? (i := 11) rfl) rfl, tm1 (List.mem_of_getElem? (i := 2) rfl) rfl, tm3 (List.mem_of_getElem? (i := 12) rfl) rfl, ⟨by decide +kernel, by decide +kernel, by decide +kernel⟩⟩
theorem cv_L_53 : cV RL 53 yX9_drift cX9_drift 3 (some (Jvm.ClassFile.FieldType.int)) 1 := ⟨tm3 (List.mem_of_getElem? (i := 13) rfl) rfl, tm3 (List.mem_of_getElem? (i := 14) rfl) rfl, tm3 (List.mem_of_getElem? (i := 15) rfl) rfl, tm1 (List.mem_of_getElem? (i := 1) rfl) rfl, tm3 (List.mem_of_getElem? (i := 16) rfl) rfl, ⟨by decide +kernel, by decide +kernel, by decide +kernel⟩⟩
theorem cv_X9_190 : cV RX9 190 yX1_driftOnce cX1_driftOnce 6 none 1 := ⟨tm3 (List.mem_of_getElem? (i := 17) rfl) rfl, tm3 (List.mem_of_getElem? (i := 18) rfl) rfl, tm3 (List.mem_of_getElem? (i := 19) rfl) rfl, tm1 (List.mem_of_getElem? (i := 8) rfl) rfl, tm3 (List.mem_of_getElem? (i := 20) rfl) rfl, ⟨by decide +kernel, by decide +kernel, by decide +kernel⟩⟩
theorem cv_X1_22 : cV RX1 22 yX1_draw cX1_draw 2 (some (Jvm.ClassFile.FieldType.int)) 1 := ⟨tm3 (List.mem_of_getElem? (i := 21) rfl) rfl, tm3 (List.mem_of_getElem? (i := 22) rfl) rfl, tm3 (List.mem_of_getElem? (i := 23) rfl) rfl, tm1 (List.mem_of_getElem? (i := 8) rfl) rfl, tm3 (List.mem_of_getElem? (i := 24) rfl) rfl, ⟨by decide +kernel, by decide +kernel, by decide +kernel⟩⟩
theorem kc_X1_15 : Cond.constantLong RX1 15 (1103515245) ∈ tG := tm3 (List.mem_of_getElem? (i := 25) rfl) rfl
theorem kc_X1_17 : Cond.constantLong RX1 17 (12345) ∈ tG := tm3 (List.mem_of_getElem? (i := 26) rfl) rfl
theorem kc_X1_19 : Cond.constantLong RX1 19 (2147483648) ∈ tG := tm3 (List.mem_of_getElem? (i := 27) rfl) rfl
theorem kc_X1_21 : Cond.constant RX1 21 (65536) ∈ tG := tm3 (List.mem_of_getElem? (i := 28) rfl) rfl
theorem cv_X1_31 : cV RX1 31 yX6_groupAt cX6_groupAt 2 (some ((Jvm.ClassFile.FieldType.object "TrunkReserve$Group"))) 1 := ⟨tm3 (List.mem_of_getElem? (i := 29) rfl) rfl, tm2 (List.mem_of_getElem? (i := 116) rfl) rfl, tm2 (List.mem_of_getElem? (i := 117) rfl) rfl, tm1 (List.mem_of_getElem? (i := 2) rfl) rfl, tm2 (List.mem_of_getElem? (i := 118) rfl) rfl, ⟨by decide +kernel, by decide +kernel, by decide +kernel⟩⟩
theorem cv_X1_35 : cV RX1 35 yX6_placeCall cX6_placeCall 8 (some (Jvm.ClassFile.FieldType.int)) 1 := ⟨tm3 (List.mem_of_getElem? (i := 30) rfl) rfl, tm2 (List.mem_of_getElem? (i := 215) rfl) rfl, tm2 (List.mem_of_getElem? (i := 216) rfl) rfl, tm1 (List.mem_of_getElem? (i := 2) rfl) rfl, tm2 (List.mem_of_getElem? (i := 217) rfl) rfl, ⟨by decide +kernel, by decide +kernel, by decide +kernel⟩⟩
theorem cv_X1_43 : cV RX1 43 yX3_hasLine cX3_hasLine 2 (some (Jvm.ClassFile.FieldType.boolean)) 1 := ⟨tm3 (List.mem_of_getElem? (i := 31) rfl) rfl, tm2 (List.mem_of_getElem? (i := 137) rfl) rfl, tm2 (List.mem_of_getElem? (i := 138) rfl) rfl, tm1 (List.mem_of_getElem? (i := 3) rfl) rfl, tm2 (List.mem_of_getElem? (i := 139) rfl) rfl, ⟨by decide +kernel, by decide +kernel, by decide +kernel⟩⟩
theorem cv_X1_51 : cV RX1 51 yX6_endCall cX6_endCall 4 (some (Jvm.ClassFile.FieldType.int)) 2 := ⟨tm3 (List.mem_of_getElem? (i := 32) rfl) rfl, tm2 (List.mem_of_getElem? (i := 230) rfl) rfl, tm2 (List.mem_of_getElem? (i := 231) rfl) rfl, tm1 (List.mem_of_getElem? (i := 2) rfl) rfl, tm2 (List.mem_of_getElem? (i := 232) rfl) rfl, ⟨by decide +kernel, by decide +kernel, by decide +kernel⟩⟩
theorem cv_L_57 : cV RL 57 yX9_undo cX9_undo 2 (some (Jvm.ClassFile.FieldType.int)) 1 := ⟨tm3 (List.mem_of_getElem? (i := 33) rfl) rfl, tm3 (List.mem_of_getElem? (i := 34) rfl) rfl, tm3 (List.mem_of_getElem? (i := 35) rfl) rfl, tm1 (List.mem_of_getElem? (i := 1) rfl) rfl, tm3 (List.mem_of_getElem? (i := 36) rfl) rfl, ⟨by decide +kernel, by decide +kernel, by decide +kernel⟩⟩
theorem cv_X9_193 : cV RX9 193 yX4_takeBack cX4_takeBack 3 none 2 := ⟨tm3 (List.mem_of_getElem? (i := 37) rfl) rfl, tm3 (List.mem_of_getElem? (i := 38) rfl) rfl, tm3 (List.mem_of_getElem? (i := 39) rfl) rfl, tm1 (List.mem_of_getElem? (i := 5) rfl) rfl, tm3 (List.mem_of_getElem? (i := 40) rfl) rfl, ⟨by decide +kernel, by decide +kernel, by decide +kernel⟩⟩
theorem cs_X4_29 : cS RX4 29 yJ9_floorMod_7cf53 cJ9_floorMod_7cf53 3 (some (Jvm.ClassFile.FieldType.int)) 2 := ⟨tm3 (List.mem_of_getElem? (i := 41) rfl) rfl, tm3 (List.mem_of_getElem? (i := 42) rfl) rfl, tm1 (List.mem_of_getElem? (i := 14) rfl) rfl, tm3 (List.mem_of_getElem? (i := 43) rfl) rfl, ⟨by decide +kernel, by decide +kernel, by decide +kernel⟩⟩
theorem cv_L_61 : cV RL 61 yX9_run cX9_run 5 (some (Jvm.ClassFile.FieldType.long)) 3 := ⟨tm3 (List.mem_of_getElem? (i := 44) rfl) rfl, tm3 (List.mem_of_getElem? (i := 45) rfl) rfl, tm3 (List.mem_of_getElem? (i := 46) rfl) rfl, tm1 (List.mem_of_getElem? (i := 1) rfl) rfl, tm3 (List.mem_of_getElem? (i := 47) rfl) rfl, ⟨by decide +kernel, by decide +kernel, by decide +kernel⟩⟩
theorem kc_X9_197 : Cond.constantLong RX9 197 (-1000000001) ∈ tG := tm3 (List.mem_of_getElem? (i := 48) rfl) rfl
theorem kc_X9_199 : Cond.constantLong RX9 199 (-1000000002) ∈ tG := tm3 (List.mem_of_getElem? (i := 49) rfl) rfl
theorem cv_X9_201 : cV RX9 201 yX8_weighExactly cX8_weighExactly 8 none 4 := ⟨tm3 (List.mem_of_getElem? (i := 50) rfl) rfl, tm3 (List.mem_of_getElem? (i := 51) rfl) rfl, tm3 (List.mem_of_getElem? (i := 52) rfl) rfl, tm1 (List.mem_of_getElem? (i := 9) rfl) rfl, tm3 (List.mem_of_getElem? (i := 53) rfl) rfl, ⟨by decide +kernel, by decide +kernel, by decide +kernel⟩⟩
theorem cv_X8_15 : cV RX8 15 yX8_weigh cX8_weigh 13 none 6 := ⟨tm3 (List.mem_of_getElem? (i := 54) rfl) rfl, tm2 (List.mem_of_getElem? (i := 86) rfl) rfl, tm2 (List.mem_of_getElem? (i := 87) rfl) rfl, tm1 (List.mem_of_getElem? (i := 9) rfl) rfl, tm2 (List.mem_of_getElem? (i := 88) rfl) rfl, ⟨by decide +kernel, by decide +kernel, by decide +kernel⟩⟩
theorem cv_X9_205 : cV RX9 205 yX8_ofAllHeld cX8_ofAllHeld 1 (some (Jvm.ClassFile.FieldType.long)) 0 := ⟨tm3 (List.mem_of_getElem? (i := 55) rfl) rfl, tm2 (List.mem_of_getElem? (i := 108) rfl) rfl, tm2 (List.mem_of_getElem? (i := 109) rfl) rfl, tm1 (List.mem_of_getElem? (i := 9) rfl) rfl, tm2 (List.mem_of_getElem? (i := 110) rfl) rfl, ⟨by decide +kernel, by decide +kernel, by decide +kernel⟩⟩
theorem cv_X9_209 : cV RX9 209 yX8_all cX8_all 4 (some (Jvm.ClassFile.FieldType.long)) 0 := ⟨tm3 (List.mem_of_getElem? (i := 56) rfl) rfl, tm2 (List.mem_of_getElem? (i := 103) rfl) rfl, tm2 (List.mem_of_getElem? (i := 104) rfl) rfl, tm1 (List.mem_of_getElem? (i := 9) rfl) rfl, tm2 (List.mem_of_getElem? (i := 105) rfl) rfl, ⟨by decide +kernel, by decide +kernel, by decide +kernel⟩⟩
theorem cv_X9_212 : cV RX9 212 yX2_become cX2_become 9 none 2 := ⟨tm3 (List.mem_of_getElem? (i := 57) rfl) rfl, tm3 (List.mem_of_getElem? (i := 58) rfl) rfl, tm3 (List.mem_of_getElem? (i := 59) rfl) rfl, tm1 (List.mem_of_getElem? (i := 10) rfl) rfl, tm3 (List.mem_of_getElem? (i := 60) rfl) rfl, ⟨by decide +kernel, by decide +kernel, by decide +kernel⟩⟩
theorem cs_X2_13 : cS RX2 13 yJ9_abs_067f4 cJ9_abs_067f4 2 (some (Jvm.ClassFile.FieldType.long)) 1 := ⟨tm3 (List.mem_of_getElem? (i := 61) rfl) rfl, tm3 (List.mem_of_getElem? (i := 62) rfl) rfl, tm1 (List.mem_of_getElem? (i := 14) rfl) rfl, tm3 (List.mem_of_getElem? (i := 63) rfl) rfl, ⟨by decide +kernel, by decide +kernel, by decide +kernel⟩⟩
theorem cs_X2_19 : cS RX2 19 yX2_commonDivisor cX2_commonDivisor 11 (some (Jvm.ClassFile.FieldType.long)) 2 := ⟨tm3 (List.mem_of_getElem? (i := 64) rfl) rfl, tm3 (List.mem_of_getElem? (i := 65) rfl) rfl, tm1 (List.mem_of_getElem? (i := 10) rfl) rfl, tm3 (List.mem_of_getElem? (i := 66) rfl) rfl, ⟨by decide +kernel, by decide +kernel, by decide +kernel⟩⟩
theorem cv_X9_216 : cV RX9 216 yX8_ofRefusing cX8_ofRefusing 4 (some (Jvm.ClassFile.FieldType.long)) 0 := ⟨tm3 (List.mem_of_getElem? (i := 67) rfl) rfl, tm3 (List.mem_of_getElem? (i := 68) rfl) rfl, tm3 (List.mem_of_getElem? (i := 69) rfl) rfl, tm1 (List.mem_of_getElem? (i := 9) rfl) rfl, tm3 (List.mem_of_getElem? (i := 70) rfl) rfl, ⟨by decide +kernel, by decide +kernel, by decide +kernel⟩⟩
theorem cv_X9_219 : cV RX9 219 yX8_timesHeld cX8_timesHeld 4 (some (Jvm.ClassFile.FieldType.long)) 0 := ⟨tm3 (List.mem_of_getElem? (i := 71) rfl) rfl, tm3 (List.mem_of_getElem? (i := 72) rfl) rfl, tm3 (List.mem_of_getElem? (i := 73) rfl) rfl, tm1 (List.mem_of_getElem? (i := 9) rfl) rfl, tm3 (List.mem_of_getElem? (i := 74) rfl) rfl, ⟨by decide +kernel, by decide +kernel, by decide +kernel⟩⟩
theorem cv_X9_222 : cV RX9 222 yX2_part cX2_part 2 (some (Jvm.ClassFile.FieldType.long)) 1 := ⟨tm3 (List.mem_of_getElem? (i := 75) rfl) rfl, tm3 (List.mem_of_getElem? (i := 76) rfl) rfl, tm3 (List.mem_of_getElem? (i := 77) rfl) rfl, tm1 (List.mem_of_getElem? (i := 10) rfl) rfl, tm3 (List.mem_of_getElem? (i := 78) rfl) rfl, ⟨by decide +kernel, by decide +kernel, by decide +kernel⟩⟩
theorem cv_L_66 : cV RL 66 yX9_over cX9_over 4 (some (Jvm.ClassFile.FieldType.long)) 2 := ⟨tm3 (List.mem_of_getElem? (i := 79) rfl) rfl, tm3 (List.mem_of_getElem? (i := 80) rfl) rfl, tm3 (List.mem_of_getElem? (i := 81) rfl) rfl, tm1 (List.mem_of_getElem? (i := 1) rfl) rfl, tm3 (List.mem_of_getElem? (i := 82) rfl) rfl, ⟨by decide +kernel, by decide +kernel, by decide +kernel⟩⟩
theorem cv_X9_226 : cV RX9 226 yX2_spreadFromMean cX2_spreadFromMean 9 none 2 := ⟨tm3 (List.mem_of_getElem? (i := 83) rfl) rfl, tm3 (List.mem_of_getElem? (i := 84) rfl) rfl, tm3 (List.mem_of_getElem? (i := 85) rfl) rfl, tm1 (List.mem_of_getElem? (i := 10) rfl) rfl, tm3 (List.mem_of_getElem? (i := 86) rfl) rfl, ⟨by decide +kernel, by decide +kernel, by decide +kernel⟩⟩
theorem cv_X2_26 : cV RX2 26 yX2_become cX2_become 9 none 2 := ⟨tm3 (List.mem_of_getElem? (i := 87) rfl) rfl, tm3 (List.mem_of_getElem? (i := 58) rfl) rfl, tm3 (List.mem_of_getElem? (i := 59) rfl) rfl, tm1 (List.mem_of_getElem? (i := 10) rfl) rfl, tm3 (List.mem_of_getElem? (i := 60) rfl) rfl, ⟨by decide +kernel, by decide +kernel, by decide +kernel⟩⟩
theorem cv_L_71 : cV RL 71 yX9_linesFor cX9_linesFor 6 (some (Jvm.ClassFile.FieldType.int)) 3 := ⟨tm3 (List.mem_of_getElem? (i := 88) rfl) rfl, tm3 (List.mem_of_getElem? (i := 89) rfl) rfl, tm3 (List.mem_of_getElem? (i := 90) rfl) rfl, tm1 (List.mem_of_getElem? (i := 1) rfl) rfl, tm3 (List.mem_of_getElem? (i := 91) rfl) rfl, ⟨by decide +kernel, by decide +kernel, by decide +kernel⟩⟩
theorem cv_X9_230 : cV RX9 230 yX8_losesAtMost cX8_losesAtMost 2 (some (Jvm.ClassFile.FieldType.boolean)) 1 := ⟨tm3 (List.mem_of_getElem? (i := 92) rfl) rfl, tm3 (List.mem_of_getElem? (i := 93) rfl) rfl, tm3 (List.mem_of_getElem? (i := 94) rfl) rfl, tm1 (List.mem_of_getElem? (i := 9) rfl) rfl, tm3 (List.mem_of_getElem? (i := 95) rfl) rfl, ⟨by decide +kernel, by decide +kernel, by decide +kernel⟩⟩
theorem kc_X8_42 : Cond.constantLong RX8 42 (1000) ∈ tG := tm3 (List.mem_of_getElem? (i := 96) rfl) rfl
theorem cv_X8_44 : cV RX8 44 yX8_ofAllHeld cX8_ofAllHeld 1 (some (Jvm.ClassFile.FieldType.long)) 0 := ⟨tm3 (List.mem_of_getElem? (i := 97) rfl) rfl, tm2 (List.mem_of_getElem? (i := 108) rfl) rfl, tm2 (List.mem_of_getElem? (i := 109) rfl) rfl, tm1 (List.mem_of_getElem? (i := 9) rfl) rfl, tm2 (List.mem_of_getElem? (i := 110) rfl) rfl, ⟨by decide +kernel, by decide +kernel, by decide +kernel⟩⟩
theorem cv_X8_48 : cV RX8 48 yX8_all cX8_all 4 (some (Jvm.ClassFile.FieldType.long)) 0 := ⟨tm3 (List.mem_of_getElem? (i := 98) rfl) rfl, tm2 (List.mem_of_getElem? (i := 103) rfl) rfl, tm2 (List.mem_of_getElem? (i := 104) rfl) rfl, tm1 (List.mem_of_getElem? (i := 9) rfl) rfl, tm2 (List.mem_of_getElem? (i := 105) rfl) rfl, ⟨by decide +kernel, by decide +kernel, by decide +kernel⟩⟩
theorem cv_L_75 : cV RL 75 yX9_bestReserve cX9_bestReserve 6 (some (Jvm.ClassFile.FieldType.int)) 3 := ⟨tm3 (List.mem_of_getElem? (i := 99) rfl) rfl, tm3 (List.mem_of_getElem? (i := 100) rfl) rfl, tm3 (List.mem_of_getElem? (i := 101) rfl) rfl, tm1 (List.mem_of_getElem? (i := 1) rfl) rfl, tm3 (List.mem_of_getElem? (i := 102) rfl) rfl, ⟨by decide +kernel, by decide +kernel, by decide +kernel⟩⟩
theorem cv_L_79 : cV RL 79 yX9_write cX9_write 5 (some (Jvm.ClassFile.FieldType.int)) 3 := ⟨tm3 (List.mem_of_getElem? (i := 103) rfl) rfl, tm3 (List.mem_of_getElem? (i := 104) rfl) rfl, tm3 (List.mem_of_getElem? (i := 105) rfl) rfl, tm1 (List.mem_of_getElem? (i := 1) rfl) rfl, tm3 (List.mem_of_getElem? (i := 106) rfl) rfl, ⟨by decide +kernel, by decide +kernel, by decide +kernel⟩⟩
theorem kc_X9_234 : Cond.constant RX9 234 (-1000000004) ∈ tG := tm3 (List.mem_of_getElem? (i := 107) rfl) rfl
theorem cv_X9_235 : cV RX9 235 yX0_enter cX0_enter 4 none 3 := ⟨tm3 (List.mem_of_getElem? (i := 108) rfl) rfl, tm3 (List.mem_of_getElem? (i := 109) rfl) rfl, tm3 (List.mem_of_getElem? (i := 110) rfl) rfl, tm1 (List.mem_of_getElem? (i := 7) rfl) rfl, tm3 (List.mem_of_getElem? (i := 111) rfl) rfl, ⟨by decide +kernel, by decide +kernel, by decide +kernel⟩⟩
theorem cv_L_83 : cV RL 83 yX9_tear cX9_tear 2 (some (Jvm.ClassFile.FieldType.int)) 0 := ⟨tm3 (List.mem_of_getElem? (i := 112) rfl) rfl, tm3 (List.mem_of_getElem? (i := 113) rfl) rfl, tm3 (List.mem_of_getElem? (i := 114) rfl) rfl, tm1 (List.mem_of_getElem? (i := 1) rfl) rfl, tm3 (List.mem_of_getElem? (i := 115) rfl) rfl, ⟨by decide +kernel, by decide +kernel, by decide +kernel⟩⟩
theorem cv_X9_239 : cV RX9 239 yX0_clear cX0_clear 1 none 0 := ⟨tm3 (List.mem_of_getElem? (i := 116) rfl) rfl, tm3 (List.mem_of_getElem? (i := 117) rfl) rfl, tm3 (List.mem_of_getElem? (i := 118) rfl) rfl, tm1 (List.mem_of_getElem? (i := 7) rfl) rfl, tm3 (List.mem_of_getElem? (i := 119) rfl) rfl, ⟨by decide +kernel, by decide +kernel, by decide +kernel⟩⟩
theorem cv_L_88 : cV RL 88 yX9_seed cX9_seed 3 (some (Jvm.ClassFile.FieldType.int)) 1 := ⟨tm3 (List.mem_of_getElem? (i := 120) rfl) rfl, tm3 (List.mem_of_getElem? (i := 121) rfl) rfl, tm3 (List.mem_of_getElem? (i := 122) rfl) rfl, tm1 (List.mem_of_getElem? (i := 1) rfl) rfl, tm3 (List.mem_of_getElem? (i := 123) rfl) rfl, ⟨by decide +kernel, by decide +kernel, by decide +kernel⟩⟩
theorem cv_L_92 : cV RL 92 yX9_keep cX9_keep 2 (some (Jvm.ClassFile.FieldType.int)) 1 := ⟨tm3 (List.mem_of_getElem? (i := 124) rfl) rfl, tm3 (List.mem_of_getElem? (i := 125) rfl) rfl, tm3 (List.mem_of_getElem? (i := 126) rfl) rfl, tm1 (List.mem_of_getElem? (i := 1) rfl) rfl, tm3 (List.mem_of_getElem? (i := 127) rfl) rfl, ⟨by decide +kernel, by decide +kernel, by decide +kernel⟩⟩
theorem cv_X9_245 : cV RX9 245 yX5_take cX5_take 3 none 2 := ⟨tm3 (List.mem_of_getElem? (i := 128) rfl) rfl, tm3 (List.mem_of_getElem? (i := 129) rfl) rfl, tm3 (List.mem_of_getElem? (i := 130) rfl) rfl, tm1 (List.mem_of_getElem? (i := 6) rfl) rfl, tm3 (List.mem_of_getElem? (i := 131) rfl) rfl, ⟨by decide +kernel, by decide +kernel, by decide +kernel⟩⟩
theorem cv_X5_16 : cV RX5 16 yX6_copyFrom cX6_copyFrom 3 none 1 := ⟨tm3 (List.mem_of_getElem? (i := 132) rfl) rfl, tm2 (List.mem_of_getElem? (i := 193) rfl) rfl, tm2 (List.mem_of_getElem? (i := 194) rfl) rfl, tm1 (List.mem_of_getElem? (i := 2) rfl) rfl, tm2 (List.mem_of_getElem? (i := 195) rfl) rfl, ⟨by decide +kernel, by decide +kernel, by decide +kernel⟩⟩
theorem cv_X9_249 : cV RX9 249 yX4_forget cX4_forget 1 none 0 := ⟨tm3 (List.mem_of_getElem? (i := 133) rfl) rfl, tm3 (List.mem_of_getElem? (i := 134) rfl) rfl, tm3 (List.mem_of_getElem? (i := 135) rfl) rfl, tm1 (List.mem_of_getElem? (i := 5) rfl) rfl, tm3 (List.mem_of_getElem? (i := 136) rfl) rfl, ⟨by decide +kernel, by decide +kernel, by decide +kernel⟩⟩
theorem cv_L_96 : cV RL 96 yX9_goBack cX9_goBack 2 (some (Jvm.ClassFile.FieldType.int)) 1 := ⟨tm3 (List.mem_of_getElem? (i := 137) rfl) rfl, tm3 (List.mem_of_getElem? (i := 138) rfl) rfl, tm3 (List.mem_of_getElem? (i := 139) rfl) rfl, tm1 (List.mem_of_getElem? (i := 1) rfl) rfl, tm3 (List.mem_of_getElem? (i := 140) rfl) rfl, ⟨by decide +kernel, by decide +kernel, by decide +kernel⟩⟩
theorem cv_X9_256 : cV RX9 256 yX5_give cX5_give 3 none 2 := ⟨tm3 (List.mem_of_getElem? (i := 141) rfl) rfl, tm3 (List.mem_of_getElem? (i := 142) rfl) rfl, tm3 (List.mem_of_getElem? (i := 143) rfl) rfl, tm1 (List.mem_of_getElem? (i := 6) rfl) rfl, tm3 (List.mem_of_getElem? (i := 144) rfl) rfl, ⟨by decide +kernel, by decide +kernel, by decide +kernel⟩⟩
theorem ci_L_12 : cI RL 12 yX10_init cX10_init 1 0 := ⟨tm3 (List.mem_of_getElem? (i := 147) rfl) rfl, tm3 (List.mem_of_getElem? (i := 148) rfl) rfl, tm1 (List.mem_of_getElem? (i := 12) rfl) rfl, tm3 (List.mem_of_getElem? (i := 149) rfl) rfl, rfl, ⟨by decide +kernel, by decide +kernel, by decide +kernel⟩⟩
theorem cv_X10_42 : cV RX10 42 yX10_builds cX10_builds 3 none 1 := ⟨tm3 (List.mem_of_getElem? (i := 151) rfl) rfl, tm3 (List.mem_of_getElem? (i := 153) rfl) rfl, tm0 (List.mem_of_getElem? (i := 0) rfl) rfl, tm1 (List.mem_of_getElem? (i := 12) rfl) rfl, tm3 (List.mem_of_getElem? (i := 154) rfl) rfl, ⟨by decide +kernel, by decide +kernel, by decide +kernel⟩⟩
theorem cv_X10_58 : cV RX10 58 yX10_put cX10_put 4 none 3 := ⟨tm3 (List.mem_of_getElem? (i := 155) rfl) rfl, tm3 (List.mem_of_getElem? (i := 157) rfl) rfl, tm0 (List.mem_of_getElem? (i := 1) rfl) rfl, tm1 (List.mem_of_getElem? (i := 12) rfl) rfl, tm3 (List.mem_of_getElem? (i := 158) rfl) rfl, ⟨by decide +kernel, by decide +kernel, by decide +kernel⟩⟩
theorem cv_X10_66 : cV RX10 66 yX10_frees cX10_frees 3 none 1 := ⟨tm3 (List.mem_of_getElem? (i := 159) rfl) rfl, tm3 (List.mem_of_getElem? (i := 161) rfl) rfl, tm0 (List.mem_of_getElem? (i := 2) rfl) rfl, tm1 (List.mem_of_getElem? (i := 12) rfl) rfl, tm3 (List.mem_of_getElem? (i := 162) rfl) rfl, ⟨by decide +kernel, by decide +kernel, by decide +kernel⟩⟩
theorem cv_X10_62 : cV RX10 62 yX10_putL cX10_putL 7 none 6 := ⟨tm3 (List.mem_of_getElem? (i := 163) rfl) rfl, tm3 (List.mem_of_getElem? (i := 165) rfl) rfl, tm0 (List.mem_of_getElem? (i := 3) rfl) rfl, tm1 (List.mem_of_getElem? (i := 12) rfl) rfl, tm3 (List.mem_of_getElem? (i := 166) rfl) rfl, ⟨by decide +kernel, by decide +kernel, by decide +kernel⟩⟩
theorem fl_X10_7 : fW RX10 7 10 0 := ⟨_, _, _, rfl, inE10, by decide, tm3 (List.mem_of_getElem? (i := 167) rfl) rfl⟩
theorem pl_X10_7 : pW RX10 7 10 0 true (.array .int) := ⟨_, _, _, _, rfl, inE10, by decide, tm3 (List.mem_of_getElem? (i := 167) rfl) rfl, tyX10_ok, nmX10, rfl, rfl, fun _ => rfl⟩
theorem fl_X10_13 : fW RX10 13 10 1 := ⟨_, _, _, rfl, inE10, by decide, tm3 (List.mem_of_getElem? (i := 168) rfl) rfl⟩
theorem pl_X10_13 : pW RX10 13 10 1 true (.array .int) := ⟨_, _, _, _, rfl, inE10, by decide, tm3 (List.mem_of_getElem? (i := 168) rfl) rfl, tyX10_ok, nmX10, rfl, rfl, fun _ => rfl⟩
theorem fl_X10_69 : fW RX10 69 10 2 := ⟨_, _, _, rfl, inE10, by decide, tm3 (List.mem_of_getElem? (i := 169) rfl) rfl⟩
theorem pl_X10_69 : pW RX10 69 10 2 false (.int) := ⟨_, _, _, _, rfl, inE10, by decide, tm3 (List.mem_of_getElem? (i := 169) rfl) rfl, tyX10_ok, nmX10, rfl, rfl, fun h => by cases h⟩
theorem fl_X10_16 : fW RX10 16 10 3 := ⟨_, _, _, rfl, inE10, by decide, tm3 (List.mem_of_getElem? (i := 170) rfl) rfl⟩
theorem pl_X10_16 : pW RX10 16 10 3 true (.array .int) := ⟨_, _, _, _, rfl, inE10, by decide, tm3 (List.mem_of_getElem? (i := 170) rfl) rfl, tyX10_ok, nmX10, rfl, rfl, fun _ => rfl⟩
theorem fl_X10_19 : fW RX10 19 10 4 := ⟨_, _, _, rfl, inE10, by decide, tm3 (List.mem_of_getElem? (i := 171) rfl) rfl⟩
theorem pl_X10_19 : pW RX10 19 10 4 true (.array .long) := ⟨_, _, _, _, rfl, inE10, by decide, tm3 (List.mem_of_getElem? (i := 171) rfl) rfl, tyX10_ok, nmX10, rfl, rfl, fun _ => rfl⟩
theorem fl_X10_23 : fW RX10 23 10 5 := ⟨_, _, _, rfl, inE10, by decide, tm3 (List.mem_of_getElem? (i := 172) rfl) rfl⟩
theorem pl_X10_23 : pW RX10 23 10 5 true (.array .boolean) := ⟨_, _, _, _, rfl, inE10, by decide, tm3 (List.mem_of_getElem? (i := 172) rfl) rfl, tyX10_ok, nmX10, rfl, rfl, fun _ => rfl⟩
theorem fl_X10_132 : fW RX10 132 10 6 := ⟨_, _, _, rfl, inE10, by decide, tm3 (List.mem_of_getElem? (i := 173) rfl) rfl⟩
theorem pl_X10_132 : pW RX10 132 10 6 false (.long) := ⟨_, _, _, _, rfl, inE10, by decide, tm3 (List.mem_of_getElem? (i := 173) rfl) rfl, tyX10_ok, nmX10, rfl, rfl, fun h => by cases h⟩
theorem fl_X10_27 : fW RX10 27 10 7 := ⟨_, _, _, rfl, inE10, by decide, tm3 (List.mem_of_getElem? (i := 174) rfl) rfl⟩
theorem pl_X10_27 : pW RX10 27 10 7 true (.array .int) := ⟨_, _, _, _, rfl, inE10, by decide, tm3 (List.mem_of_getElem? (i := 174) rfl) rfl, tyX10_ok, nmX10, rfl, rfl, fun _ => rfl⟩
theorem fl_X10_87 : fW RX10 87 10 8 := ⟨_, _, _, rfl, inE10, by decide, tm3 (List.mem_of_getElem? (i := 175) rfl) rfl⟩
theorem pl_X10_87 : pW RX10 87 10 8 false (.int) := ⟨_, _, _, _, rfl, inE10, by decide, tm3 (List.mem_of_getElem? (i := 175) rfl) rfl, tyX10_ok, nmX10, rfl, rfl, fun h => by cases h⟩
theorem fl_X10_30 : fW RX10 30 10 9 := ⟨_, _, _, rfl, inE10, by decide, tm3 (List.mem_of_getElem? (i := 176) rfl) rfl⟩
theorem pl_X10_30 : pW RX10 30 10 9 true (.array .long) := ⟨_, _, _, _, rfl, inE10, by decide, tm3 (List.mem_of_getElem? (i := 176) rfl) rfl, tyX10_ok, nmX10, rfl, rfl, fun _ => rfl⟩
theorem fl_X10_147 : fW RX10 147 10 10 := ⟨_, _, _, rfl, inE10, by decide, tm3 (List.mem_of_getElem? (i := 177) rfl) rfl⟩
theorem pl_X10_147 : pW RX10 147 10 10 false (.long) := ⟨_, _, _, _, rfl, inE10, by decide, tm3 (List.mem_of_getElem? (i := 177) rfl) rfl, tyX10_ok, nmX10, rfl, rfl, fun h => by cases h⟩
theorem fl_X10_33 : fW RX10 33 10 11 := ⟨_, _, _, rfl, inE10, by decide, tm3 (List.mem_of_getElem? (i := 178) rfl) rfl⟩
theorem pl_X10_33 : pW RX10 33 10 11 true (.array .int) := ⟨_, _, _, _, rfl, inE10, by decide, tm3 (List.mem_of_getElem? (i := 178) rfl) rfl, tyX10_ok, nmX10, rfl, rfl, fun _ => rfl⟩
theorem fl_X10_36 : fW RX10 36 10 12 := ⟨_, _, _, rfl, inE10, by decide, tm3 (List.mem_of_getElem? (i := 179) rfl) rfl⟩
theorem pl_X10_36 : pW RX10 36 10 12 true (.array .int) := ⟨_, _, _, _, rfl, inE10, by decide, tm3 (List.mem_of_getElem? (i := 179) rfl) rfl, tyX10_ok, nmX10, rfl, rfl, fun _ => rfl⟩
theorem fl_X10_39 : fW RX10 39 10 13 := ⟨_, _, _, rfl, inE10, by decide, tm3 (List.mem_of_getElem? (i := 180) rfl) rfl⟩
theorem pl_X10_39 : pW RX10 39 10 13 true (.array .int) := ⟨_, _, _, _, rfl, inE10, by decide, tm3 (List.mem_of_getElem? (i := 180) rfl) rfl, tyX10_ok, nmX10, rfl, rfl, fun _ => rfl⟩
theorem fl_X10_98 : fW RX10 98 10 14 := ⟨_, _, _, rfl, inE10, by decide, tm3 (List.mem_of_getElem? (i := 181) rfl) rfl⟩
theorem pl_X10_98 : pW RX10 98 10 14 false (.int) := ⟨_, _, _, _, rfl, inE10, by decide, tm3 (List.mem_of_getElem? (i := 181) rfl) rfl, tyX10_ok, nmX10, rfl, rfl, fun h => by cases h⟩
theorem cv_L_17 : cV RL 17 yX10_told cX10_told 2 (some (Jvm.ClassFile.FieldType.int)) 1 := ⟨tm3 (List.mem_of_getElem? (i := 214) rfl) rfl, tm3 (List.mem_of_getElem? (i := 215) rfl) rfl, tm3 (List.mem_of_getElem? (i := 216) rfl) rfl, tm1 (List.mem_of_getElem? (i := 12) rfl) rfl, tm3 (List.mem_of_getElem? (i := 217) rfl) rfl, ⟨by decide +kernel, by decide +kernel, by decide +kernel⟩⟩
theorem cv_X10_104 : cV RX10 104 yX10_held cX10_held 3 (some (Jvm.ClassFile.FieldType.int)) 0 := ⟨tm3 (List.mem_of_getElem? (i := 218) rfl) rfl, tm3 (List.mem_of_getElem? (i := 220) rfl) rfl, tm0 (List.mem_of_getElem? (i := 4) rfl) rfl, tm1 (List.mem_of_getElem? (i := 12) rfl) rfl, tm3 (List.mem_of_getElem? (i := 221) rfl) rfl, ⟨by decide +kernel, by decide +kernel, by decide +kernel⟩⟩
theorem cv_X10_77 : cV RX10 77 yX10_setOf cX10_setOf 5 (some (Jvm.ClassFile.FieldType.int)) 2 := ⟨tm3 (List.mem_of_getElem? (i := 222) rfl) rfl, tm3 (List.mem_of_getElem? (i := 224) rfl) rfl, tm0 (List.mem_of_getElem? (i := 5) rfl) rfl, tm1 (List.mem_of_getElem? (i := 12) rfl) rfl, tm3 (List.mem_of_getElem? (i := 225) rfl) rfl, ⟨by decide +kernel, by decide +kernel, by decide +kernel⟩⟩
theorem cv_X10_54 : cV RX10 54 yX10_of cX10_of 3 (some (Jvm.ClassFile.FieldType.int)) 2 := ⟨tm3 (List.mem_of_getElem? (i := 226) rfl) rfl, tm3 (List.mem_of_getElem? (i := 228) rfl) rfl, tm0 (List.mem_of_getElem? (i := 6) rfl) rfl, tm1 (List.mem_of_getElem? (i := 12) rfl) rfl, tm3 (List.mem_of_getElem? (i := 229) rfl) rfl, ⟨by decide +kernel, by decide +kernel, by decide +kernel⟩⟩
theorem cv_X10_73 : cV RX10 73 yX10_ofL cX10_ofL 4 (some (Jvm.ClassFile.FieldType.int)) 3 := ⟨tm3 (List.mem_of_getElem? (i := 230) rfl) rfl, tm3 (List.mem_of_getElem? (i := 232) rfl) rfl, tm0 (List.mem_of_getElem? (i := 7) rfl) rfl, tm1 (List.mem_of_getElem? (i := 12) rfl) rfl, tm3 (List.mem_of_getElem? (i := 233) rfl) rfl, ⟨by decide +kernel, by decide +kernel, by decide +kernel⟩⟩
theorem cs_X10_84 : cS RX10 84 yX10_ones cX10_ones 3 (some (Jvm.ClassFile.FieldType.int)) 1 := ⟨tm3 (List.mem_of_getElem? (i := 234) rfl) rfl, tm3 (List.mem_of_getElem? (i := 235) rfl) rfl, tm1 (List.mem_of_getElem? (i := 12) rfl) rfl, tm3 (List.mem_of_getElem? (i := 236) rfl) rfl, ⟨by decide +kernel, by decide +kernel, by decide +kernel⟩⟩
theorem cv_X10_108 : cV RX10 108 yX10_lost cX10_lost 3 (some (Jvm.ClassFile.FieldType.int)) 0 := ⟨tm3 (List.mem_of_getElem? (i := 237) rfl) rfl, tm3 (List.mem_of_getElem? (i := 239) rfl) rfl, tm0 (List.mem_of_getElem? (i := 8) rfl) rfl, tm1 (List.mem_of_getElem? (i := 12) rfl) rfl, tm4 (List.mem_of_getElem? (i := 0) rfl) rfl, ⟨by decide +kernel, by decide +kernel, by decide +kernel⟩⟩
theorem cv_X10_111 : cV RX10 111 yX10_together cX10_together 3 none 0 := ⟨tm4 (List.mem_of_getElem? (i := 1) rfl) rfl, tm4 (List.mem_of_getElem? (i := 3) rfl) rfl, tm0 (List.mem_of_getElem? (i := 9) rfl) rfl, tm1 (List.mem_of_getElem? (i := 12) rfl) rfl, tm4 (List.mem_of_getElem? (i := 4) rfl) rfl, ⟨by decide +kernel, by decide +kernel, by decide +kernel⟩⟩
theorem cv_X10_101 : cV RX10 101 yX10_loses cX10_loses 8 none 0 := ⟨tm4 (List.mem_of_getElem? (i := 5) rfl) rfl, tm4 (List.mem_of_getElem? (i := 7) rfl) rfl, tm0 (List.mem_of_getElem? (i := 10) rfl) rfl, tm1 (List.mem_of_getElem? (i := 12) rfl) rfl, tm4 (List.mem_of_getElem? (i := 8) rfl) rfl, ⟨by decide +kernel, by decide +kernel, by decide +kernel⟩⟩
theorem kc_X10_94 : Cond.constantLong RX10 94 (1000000) ∈ tG := tm4 (List.mem_of_getElem? (i := 9) rfl) rfl
theorem kc_X10_96 : Cond.constantLong RX10 96 (1000) ∈ tG := tm4 (List.mem_of_getElem? (i := 10) rfl) rfl
theorem cv_X10_114 : cV RX10 114 yX10_wrong cX10_wrong 4 (some (Jvm.ClassFile.FieldType.int)) 0 := ⟨tm4 (List.mem_of_getElem? (i := 11) rfl) rfl, tm4 (List.mem_of_getElem? (i := 13) rfl) rfl, tm0 (List.mem_of_getElem? (i := 11) rfl) rfl, tm1 (List.mem_of_getElem? (i := 12) rfl) rfl, tm4 (List.mem_of_getElem? (i := 14) rfl) rfl, ⟨by decide +kernel, by decide +kernel, by decide +kernel⟩⟩
theorem cv_X10_90 : cV RX10 90 yX10_isLine cX10_isLine 3 (some (Jvm.ClassFile.FieldType.boolean)) 2 := ⟨tm4 (List.mem_of_getElem? (i := 15) rfl) rfl, tm4 (List.mem_of_getElem? (i := 17) rfl) rfl, tm0 (List.mem_of_getElem? (i := 12) rfl) rfl, tm1 (List.mem_of_getElem? (i := 12) rfl) rfl, tm4 (List.mem_of_getElem? (i := 18) rfl) rfl, ⟨by decide +kernel, by decide +kernel, by decide +kernel⟩⟩
theorem cv_X10_50 : cV RX10 50 yX10_isGroup cX10_isGroup 2 (some (Jvm.ClassFile.FieldType.boolean)) 1 := ⟨tm4 (List.mem_of_getElem? (i := 19) rfl) rfl, tm4 (List.mem_of_getElem? (i := 21) rfl) rfl, tm0 (List.mem_of_getElem? (i := 13) rfl) rfl, tm1 (List.mem_of_getElem? (i := 12) rfl) rfl, tm4 (List.mem_of_getElem? (i := 22) rfl) rfl, ⟨by decide +kernel, by decide +kernel, by decide +kernel⟩⟩
theorem cs_X10_46 : cS RX10 46 yX10_in cX10_in 3 (some (Jvm.ClassFile.FieldType.boolean)) 3 := ⟨tm4 (List.mem_of_getElem? (i := 23) rfl) rfl, tm4 (List.mem_of_getElem? (i := 24) rfl) rfl, tm1 (List.mem_of_getElem? (i := 12) rfl) rfl, tm4 (List.mem_of_getElem? (i := 25) rfl) rfl, ⟨by decide +kernel, by decide +kernel, by decide +kernel⟩⟩
theorem kc_X10_117 : Cond.constant RX10 117 (-1000000002) ∈ tG := tm4 (List.mem_of_getElem? (i := 26) rfl) rfl
theorem cv_L_22 : cV RL 22 yX10_group cX10_group 3 (some (Jvm.ClassFile.FieldType.int)) 2 := ⟨tm4 (List.mem_of_getElem? (i := 27) rfl) rfl, tm4 (List.mem_of_getElem? (i := 28) rfl) rfl, tm4 (List.mem_of_getElem? (i := 29) rfl) rfl, tm1 (List.mem_of_getElem? (i := 12) rfl) rfl, tm4 (List.mem_of_getElem? (i := 30) rfl) rfl, ⟨by decide +kernel, by decide +kernel, by decide +kernel⟩⟩
theorem kc_X10_118 : Cond.constant RX10 118 (-1000000001) ∈ tG := tm4 (List.mem_of_getElem? (i := 31) rfl) rfl
theorem cv_X10_119 : cV RX10 119 yX10_goesTo cX10_goesTo 3 (some (Jvm.ClassFile.FieldType.int)) 1 := ⟨tm4 (List.mem_of_getElem? (i := 32) rfl) rfl, tm4 (List.mem_of_getElem? (i := 34) rfl) rfl, tm0 (List.mem_of_getElem? (i := 14) rfl) rfl, tm1 (List.mem_of_getElem? (i := 12) rfl) rfl, tm4 (List.mem_of_getElem? (i := 35) rfl) rfl, ⟨by decide +kernel, by decide +kernel, by decide +kernel⟩⟩
theorem cv_X10_80 : cV RX10 80 yX10_choice cX10_choice 7 (some (Jvm.ClassFile.FieldType.int)) 1 := ⟨tm4 (List.mem_of_getElem? (i := 36) rfl) rfl, tm4 (List.mem_of_getElem? (i := 38) rfl) rfl, tm0 (List.mem_of_getElem? (i := 15) rfl) rfl, tm1 (List.mem_of_getElem? (i := 12) rfl) rfl, tm4 (List.mem_of_getElem? (i := 39) rfl) rfl, ⟨by decide +kernel, by decide +kernel, by decide +kernel⟩⟩
theorem cv_L_27 : cV RL 27 yX10_line cX10_line 4 (some (Jvm.ClassFile.FieldType.int)) 3 := ⟨tm4 (List.mem_of_getElem? (i := 40) rfl) rfl, tm4 (List.mem_of_getElem? (i := 41) rfl) rfl, tm4 (List.mem_of_getElem? (i := 42) rfl) rfl, tm1 (List.mem_of_getElem? (i := 12) rfl) rfl, tm4 (List.mem_of_getElem? (i := 43) rfl) rfl, ⟨by decide +kernel, by decide +kernel, by decide +kernel⟩⟩
theorem cv_L_31 : cV RL 31 yX10_build cX10_build 3 (some (Jvm.ClassFile.FieldType.int)) 1 := ⟨tm4 (List.mem_of_getElem? (i := 44) rfl) rfl, tm4 (List.mem_of_getElem? (i := 45) rfl) rfl, tm4 (List.mem_of_getElem? (i := 46) rfl) rfl, tm1 (List.mem_of_getElem? (i := 12) rfl) rfl, tm4 (List.mem_of_getElem? (i := 47) rfl) rfl, ⟨by decide +kernel, by decide +kernel, by decide +kernel⟩⟩
theorem cv_X10_122 : cV RX10 122 yX10_notes cX10_notes 2 none 0 := ⟨tm4 (List.mem_of_getElem? (i := 48) rfl) rfl, tm4 (List.mem_of_getElem? (i := 50) rfl) rfl, tm0 (List.mem_of_getElem? (i := 16) rfl) rfl, tm1 (List.mem_of_getElem? (i := 12) rfl) rfl, tm4 (List.mem_of_getElem? (i := 51) rfl) rfl, ⟨by decide +kernel, by decide +kernel, by decide +kernel⟩⟩
theorem cv_L_36 : cV RL 36 yX10_shape cX10_shape 8 (some (Jvm.ClassFile.FieldType.int)) 6 := ⟨tm4 (List.mem_of_getElem? (i := 52) rfl) rfl, tm4 (List.mem_of_getElem? (i := 53) rfl) rfl, tm4 (List.mem_of_getElem? (i := 54) rfl) rfl, tm1 (List.mem_of_getElem? (i := 12) rfl) rfl, tm4 (List.mem_of_getElem? (i := 55) rfl) rfl, ⟨by decide +kernel, by decide +kernel, by decide +kernel⟩⟩
theorem cv_L_40 : cV RL 40 yX10_call cX10_call 2 (some (Jvm.ClassFile.FieldType.int)) 1 := ⟨tm4 (List.mem_of_getElem? (i := 56) rfl) rfl, tm4 (List.mem_of_getElem? (i := 57) rfl) rfl, tm4 (List.mem_of_getElem? (i := 58) rfl) rfl, tm1 (List.mem_of_getElem? (i := 12) rfl) rfl, tm4 (List.mem_of_getElem? (i := 59) rfl) rfl, ⟨by decide +kernel, by decide +kernel, by decide +kernel⟩⟩
theorem cv_X10_125 : cV RX10 125 yX10_comes cX10_comes 4 (some (Jvm.ClassFile.FieldType.int)) 1 := ⟨tm4 (List.mem_of_getElem? (i := 60) rfl) rfl, tm4 (List.mem_of_getElem? (i := 62) rfl) rfl, tm0 (List.mem_of_getElem? (i := 17) rfl) rfl, tm1 (List.mem_of_getElem? (i := 12) rfl) rfl, tm4 (List.mem_of_getElem? (i := 63) rfl) rfl, ⟨by decide +kernel, by decide +kernel, by decide +kernel⟩⟩
theorem cv_L_44 : cV RL 44 yX10_end cX10_end 3 (some (Jvm.ClassFile.FieldType.int)) 2 := ⟨tm4 (List.mem_of_getElem? (i := 64) rfl) rfl, tm4 (List.mem_of_getElem? (i := 65) rfl) rfl, tm4 (List.mem_of_getElem? (i := 66) rfl) rfl, tm1 (List.mem_of_getElem? (i := 12) rfl) rfl, tm4 (List.mem_of_getElem? (i := 67) rfl) rfl, ⟨by decide +kernel, by decide +kernel, by decide +kernel⟩⟩
theorem kc_X10_128 : Cond.constant RX10 128 (-1000000003) ∈ tG := tm4 (List.mem_of_getElem? (i := 68) rfl) rfl
theorem cv_X10_129 : cV RX10 129 yX10_ends cX10_ends 4 (some (Jvm.ClassFile.FieldType.int)) 2 := ⟨tm4 (List.mem_of_getElem? (i := 69) rfl) rfl, tm4 (List.mem_of_getElem? (i := 71) rfl) rfl, tm0 (List.mem_of_getElem? (i := 18) rfl) rfl, tm1 (List.mem_of_getElem? (i := 12) rfl) rfl, tm4 (List.mem_of_getElem? (i := 72) rfl) rfl, ⟨by decide +kernel, by decide +kernel, by decide +kernel⟩⟩
theorem cv_L_48 : cV RL 48 yX10_damage cX10_damage 5 (some (Jvm.ClassFile.FieldType.int)) 2 := ⟨tm4 (List.mem_of_getElem? (i := 73) rfl) rfl, tm4 (List.mem_of_getElem? (i := 74) rfl) rfl, tm4 (List.mem_of_getElem? (i := 75) rfl) rfl, tm1 (List.mem_of_getElem? (i := 12) rfl) rfl, tm4 (List.mem_of_getElem? (i := 76) rfl) rfl, ⟨by decide +kernel, by decide +kernel, by decide +kernel⟩⟩
theorem cv_L_52 : cV RL 52 yX10_mend cX10_mend 3 (some (Jvm.ClassFile.FieldType.int)) 2 := ⟨tm4 (List.mem_of_getElem? (i := 77) rfl) rfl, tm4 (List.mem_of_getElem? (i := 78) rfl) rfl, tm4 (List.mem_of_getElem? (i := 79) rfl) rfl, tm1 (List.mem_of_getElem? (i := 12) rfl) rfl, tm4 (List.mem_of_getElem? (i := 80) rfl) rfl, ⟨by decide +kernel, by decide +kernel, by decide +kernel⟩⟩
theorem cv_L_56 : cV RL 56 yX10_drift cX10_drift 6 (some (Jvm.ClassFile.FieldType.int)) 1 := ⟨tm4 (List.mem_of_getElem? (i := 81) rfl) rfl, tm4 (List.mem_of_getElem? (i := 82) rfl) rfl, tm4 (List.mem_of_getElem? (i := 83) rfl) rfl, tm1 (List.mem_of_getElem? (i := 12) rfl) rfl, tm4 (List.mem_of_getElem? (i := 84) rfl) rfl, ⟨by decide +kernel, by decide +kernel, by decide +kernel⟩⟩
theorem cv_X10_144 : cV RX10 144 yX10_drawOf cX10_drawOf 2 (some (Jvm.ClassFile.FieldType.int)) 1 := ⟨tm4 (List.mem_of_getElem? (i := 85) rfl) rfl, tm4 (List.mem_of_getElem? (i := 87) rfl) rfl, tm0 (List.mem_of_getElem? (i := 19) rfl) rfl, tm1 (List.mem_of_getElem? (i := 12) rfl) rfl, tm4 (List.mem_of_getElem? (i := 88) rfl) rfl, ⟨by decide +kernel, by decide +kernel, by decide +kernel⟩⟩
theorem kc_X10_136 : Cond.constantLong RX10 136 (1103515245) ∈ tG := tm4 (List.mem_of_getElem? (i := 89) rfl) rfl
theorem kc_X10_138 : Cond.constantLong RX10 138 (12345) ∈ tG := tm4 (List.mem_of_getElem? (i := 90) rfl) rfl
theorem kc_X10_140 : Cond.constantLong RX10 140 (2147483648) ∈ tG := tm4 (List.mem_of_getElem? (i := 91) rfl) rfl
theorem kc_X10_142 : Cond.constantLong RX10 142 (65536) ∈ tG := tm4 (List.mem_of_getElem? (i := 92) rfl) rfl
theorem cv_L_60 : cV RL 60 yX10_undo cX10_undo 3 (some (Jvm.ClassFile.FieldType.int)) 1 := ⟨tm4 (List.mem_of_getElem? (i := 93) rfl) rfl, tm4 (List.mem_of_getElem? (i := 94) rfl) rfl, tm4 (List.mem_of_getElem? (i := 95) rfl) rfl, tm1 (List.mem_of_getElem? (i := 12) rfl) rfl, tm4 (List.mem_of_getElem? (i := 96) rfl) rfl, ⟨by decide +kernel, by decide +kernel, by decide +kernel⟩⟩
theorem cv_L_65 : cV RL 65 yX10_run cX10_run 10 (some (Jvm.ClassFile.FieldType.long)) 3 := ⟨tm4 (List.mem_of_getElem? (i := 97) rfl) rfl, tm4 (List.mem_of_getElem? (i := 98) rfl) rfl, tm4 (List.mem_of_getElem? (i := 99) rfl) rfl, tm1 (List.mem_of_getElem? (i := 12) rfl) rfl, tm4 (List.mem_of_getElem? (i := 100) rfl) rfl, ⟨by decide +kernel, by decide +kernel, by decide +kernel⟩⟩
theorem kc_X10_154 : Cond.constantLong RX10 154 (-1000000001) ∈ tG := tm4 (List.mem_of_getElem? (i := 101) rfl) rfl
theorem kc_X10_156 : Cond.constantLong RX10 156 (-1000000002) ∈ tG := tm4 (List.mem_of_getElem? (i := 102) rfl) rfl
theorem cv_X10_158 : cV RX10 158 yX10_weighs cX10_weighs 8 none 4 := ⟨tm4 (List.mem_of_getElem? (i := 103) rfl) rfl, tm4 (List.mem_of_getElem? (i := 105) rfl) rfl, tm0 (List.mem_of_getElem? (i := 20) rfl) rfl, tm1 (List.mem_of_getElem? (i := 12) rfl) rfl, tm4 (List.mem_of_getElem? (i := 106) rfl) rfl, ⟨by decide +kernel, by decide +kernel, by decide +kernel⟩⟩
theorem cs_X10_162 : cS RX10 162 yX10_part cX10_part 5 (some (Jvm.ClassFile.FieldType.long)) 3 := ⟨tm4 (List.mem_of_getElem? (i := 107) rfl) rfl, tm4 (List.mem_of_getElem? (i := 108) rfl) rfl, tm1 (List.mem_of_getElem? (i := 12) rfl) rfl, tm4 (List.mem_of_getElem? (i := 109) rfl) rfl, ⟨by decide +kernel, by decide +kernel, by decide +kernel⟩⟩
theorem cs_X10_150 : cS RX10 150 yX10_gcd cX10_gcd 10 (some (Jvm.ClassFile.FieldType.long)) 2 := ⟨tm4 (List.mem_of_getElem? (i := 110) rfl) rfl, tm4 (List.mem_of_getElem? (i := 111) rfl) rfl, tm1 (List.mem_of_getElem? (i := 12) rfl) rfl, tm4 (List.mem_of_getElem? (i := 112) rfl) rfl, ⟨by decide +kernel, by decide +kernel, by decide +kernel⟩⟩
theorem cv_L_70 : cV RL 70 yX10_over cX10_over 17 (some (Jvm.ClassFile.FieldType.long)) 2 := ⟨tm4 (List.mem_of_getElem? (i := 113) rfl) rfl, tm4 (List.mem_of_getElem? (i := 114) rfl) rfl, tm4 (List.mem_of_getElem? (i := 115) rfl) rfl, tm1 (List.mem_of_getElem? (i := 12) rfl) rfl, tm4 (List.mem_of_getElem? (i := 116) rfl) rfl, ⟨by decide +kernel, by decide +kernel, by decide +kernel⟩⟩
theorem cv_L_74 : cV RL 74 yX10_linesFor cX10_linesFor 5 (some (Jvm.ClassFile.FieldType.int)) 3 := ⟨tm4 (List.mem_of_getElem? (i := 117) rfl) rfl, tm4 (List.mem_of_getElem? (i := 118) rfl) rfl, tm4 (List.mem_of_getElem? (i := 119) rfl) rfl, tm1 (List.mem_of_getElem? (i := 12) rfl) rfl, tm4 (List.mem_of_getElem? (i := 120) rfl) rfl, ⟨by decide +kernel, by decide +kernel, by decide +kernel⟩⟩
theorem cv_L_78 : cV RL 78 yX10_bestReserve cX10_bestReserve 5 (some (Jvm.ClassFile.FieldType.int)) 3 := ⟨tm4 (List.mem_of_getElem? (i := 121) rfl) rfl, tm4 (List.mem_of_getElem? (i := 122) rfl) rfl, tm4 (List.mem_of_getElem? (i := 123) rfl) rfl, tm1 (List.mem_of_getElem? (i := 12) rfl) rfl, tm4 (List.mem_of_getElem? (i := 124) rfl) rfl, ⟨by decide +kernel, by decide +kernel, by decide +kernel⟩⟩
theorem cv_L_82 : cV RL 82 yX10_write cX10_write 4 (some (Jvm.ClassFile.FieldType.int)) 3 := ⟨tm4 (List.mem_of_getElem? (i := 125) rfl) rfl, tm4 (List.mem_of_getElem? (i := 126) rfl) rfl, tm4 (List.mem_of_getElem? (i := 127) rfl) rfl, tm1 (List.mem_of_getElem? (i := 12) rfl) rfl, tm4 (List.mem_of_getElem? (i := 128) rfl) rfl, ⟨by decide +kernel, by decide +kernel, by decide +kernel⟩⟩
theorem kc_X10_166 : Cond.constant RX10 166 (-1000000004) ∈ tG := tm4 (List.mem_of_getElem? (i := 129) rfl) rfl
theorem cv_L_87 : cV RL 87 yX10_tear cX10_tear 2 (some (Jvm.ClassFile.FieldType.int)) 0 := ⟨tm4 (List.mem_of_getElem? (i := 130) rfl) rfl, tm4 (List.mem_of_getElem? (i := 131) rfl) rfl, tm4 (List.mem_of_getElem? (i := 132) rfl) rfl, tm1 (List.mem_of_getElem? (i := 12) rfl) rfl, tm4 (List.mem_of_getElem? (i := 133) rfl) rfl, ⟨by decide +kernel, by decide +kernel, by decide +kernel⟩⟩
theorem cv_L_91 : cV RL 91 yX10_seed cX10_seed 3 (some (Jvm.ClassFile.FieldType.int)) 1 := ⟨tm4 (List.mem_of_getElem? (i := 134) rfl) rfl, tm4 (List.mem_of_getElem? (i := 135) rfl) rfl, tm4 (List.mem_of_getElem? (i := 136) rfl) rfl, tm1 (List.mem_of_getElem? (i := 12) rfl) rfl, tm4 (List.mem_of_getElem? (i := 137) rfl) rfl, ⟨by decide +kernel, by decide +kernel, by decide +kernel⟩⟩
theorem cv_L_95 : cV RL 95 yX10_keep cX10_keep 3 (some (Jvm.ClassFile.FieldType.int)) 1 := ⟨tm4 (List.mem_of_getElem? (i := 138) rfl) rfl, tm4 (List.mem_of_getElem? (i := 139) rfl) rfl, tm4 (List.mem_of_getElem? (i := 140) rfl) rfl, tm1 (List.mem_of_getElem? (i := 12) rfl) rfl, tm4 (List.mem_of_getElem? (i := 141) rfl) rfl, ⟨by decide +kernel, by decide +kernel, by decide +kernel⟩⟩
theorem cv_L_99 : cV RL 99 yX10_goBack cX10_goBack 3 (some (Jvm.ClassFile.FieldType.int)) 1 := ⟨tm4 (List.mem_of_getElem? (i := 142) rfl) rfl, tm4 (List.mem_of_getElem? (i := 143) rfl) rfl, tm4 (List.mem_of_getElem? (i := 144) rfl) rfl, tm1 (List.mem_of_getElem? (i := 12) rfl) rfl, tm4 (List.mem_of_getElem? (i := 145) rfl) rfl, ⟨by decide +kernel, by decide +kernel, by decide +kernel⟩⟩
end
section
/-! The frame of the walks: a point of a walk is a predicate of the heap, the locals, the stack. -/
abbrev Ev : Type := va_G × (ClassId × ClassId × ClassId × ClassId × ClassId × ClassId)
abbrev tyE (E : Ev) : List (ClassId × FieldType) := [(E.2.1, .int), (E.2.2.1, .long), (E.2.2.2.1, .boolean), (E.2.2.2.2.1, .object RX3), (E.2.2.2.2.2.1, .object RX6), (E.2.2.2.2.2.2, .object RX5)]
/-- what the tables say of classes and array classes -/
def kE (E : Ev) (U : State) : Prop := va_K E.1 clE (tyE E) U ∧ va_AO RX3 U ∧ va_AO RX6 U ∧ va_AO RX5 U ∧ va_Nw (.methodLinkNest RX9 39 yX1_init "TrunkReserve") U
theorem kE.warm {E : Ev} {s U : State} (hW : s.WarmedH U.vm) (h : kE E s) : kE E U := ⟨va_K.moved hW.alike h.1, va_AO.moved hW.alike h.2.1, va_AO.moved hW.alike h.2.2.1, va_AO.moved hW.alike h.2.2.2.1, va_Nw.warmM hW h.2.2.2.2⟩
theorem kE.calling {E : Ev} {U : State} {g : JFrame} {mk : MethodId} {a : Array Value} (h : kE E U) : kE E (U.calling g mk a) := ⟨va_K.moved (u := U) (U := U.calling g mk a) (Vm.Alike.refl U.vm) h.1, va_AO.moved (u := U) (U := U.calling g mk a) (Vm.Alike.refl U.vm) h.2.1, va_AO.moved (u := U) (U := U.calling g mk a) (Vm.Alike.refl U.vm) h.2.2.1, va_AO.moved (u := U) (U := U.calling g mk a) (Vm.Alike.refl U.vm) h.2.2.2.1, va_Nw.same (u := U) (U := U.calling g mk a) rfl rfl h.2.2.2.2⟩
def ctP (E : Ev) (av : List Value) (Pr : Heap → Prop) : Array Value → State → Prop := va_Pc av (fun U => kE E U ∧ Pr U.heap)
def ctQ (A : Nat → Prop) (Rt : Option Value → Heap → Prop) : Array Value → State → Outcome → State → Prop := fun _ st o t => (∃ v, o = .returned v ∧ Rt v t.heap) ∧ va_F A st t
/-- the contract of a method: from a heap with Pr, called with av, it returns v with a heap t, Rt v t; nothing outside A has changed -/
def Ct (l : Launch) (E : Ev) (y : MethodName) (cc : ByteArray) (nL : Nat) (rt : Option FieldType) (R : Room) (av : List Value) (Pr : Heap → Prop) (Rt : Option Value → Heap → Prop) (A : Nat → Prop) : Prop :=
  Met l y (.code y cc nL rt :: tG) R (ctP E av Pr) (ctQ A Rt) R.cells R.slots A
theorem ctP_blind {E : Ev} {av : List Value} {Pr : Heap → Prop} : FrameBlind (ctP E av Pr) := fun _ _ _ _ h => ⟨h.1, h.2.1.calling, h.2.2⟩
/-- the locals -/
def lo_ok (ls : Array Slot) (lo : List (Option Value)) : Prop := ls.size = lo.length ∧ lv_wf ls ∧ ∀ (i : Nat) (v : Value), lo[i]? = some (some v) → ls[i]? = some (.val v)
def lo_pr (lo : List (Option Value)) : List (Nat × Value) := (List.range lo.length).filterMap fun i => match lo[i]? with
  | some (some v) => some (i, v)
  | _ => none
theorem lo_pr_mem {lo : List (Option Value)} {i : Nat} {v : Value} : (i, v) ∈ lo_pr lo ↔ lo[i]? = some (some v) := by
  unfold lo_pr
  rw [List.mem_filterMap]
  constructor
  · rintro ⟨j, hj, h⟩
    split at h
    · rename_i w hw
      cases h
      exact hw
    · cases h
  · intro h
    refine ⟨i, List.mem_range.mpr (List.getElem?_eq_some_iff.mp h).1, ?_⟩
    rw [h]
theorem lo_has {ls : Array Slot} {lo : List (Option Value)} (h : lo_ok ls lo) : lv_has ls lo.length (lo_pr lo) := ⟨h.1, h.2.1, fun q hq => h.2.2 q.1 q.2 (lo_pr_mem.mp hq)⟩
/-- a value of two words just below the place i is lost when i is written -/
def lo_clr (lo : List (Option Value)) : Nat → List (Option Value)
  | 0 => lo
  | i + 1 => match lo[i]? with
    | some (some v) => if v.category = 2 then lo.set i none else lo
    | _ => lo
theorem lo_clr_len (lo : List (Option Value)) : ∀ i : Nat, (lo_clr lo i).length = lo.length
  | 0 => rfl
  | i + 1 => by
    simp only [lo_clr]
    split
    · split
      · exact List.length_set
      · rfl
    · rfl
theorem lo_clr_get {lo : List (Option Value)} {j : Nat} {w : Value} : ∀ {i : Nat}, (lo_clr lo i)[j]? = some (some w) → lo[j]? = some (some w) ∧ ¬ (j + 1 = i ∧ w.category = 2)
  | 0, h => ⟨h, fun q => by omega⟩
  | i + 1, h => by
    simp only [lo_clr] at h
    split at h
    · rename_i v hv
      split at h
      · rename_i hc
        by_cases hj : j = i
        · subst hj
          rw [List.getElem?_set_self (List.getElem?_eq_some_iff.mp hv).1] at h
          cases h
        · rw [List.getElem?_set_ne (Ne.symm hj)] at h
          exact ⟨h, fun q => hj (by omega)⟩
      · rename_i hc
        refine ⟨h, fun q => ?_⟩
        have : j = i := by omega
        subst this
        rw [hv] at h
        cases h
        exact hc q.2
    · rename_i hn
      refine ⟨h, fun q => ?_⟩
      have : j = i := by omega
      subst this
      exact hn w h
def lo1 (lo : List (Option Value)) (i : Nat) (v : Value) : List (Option Value) := (lo_clr lo i).set i (some v)
def lo2 (lo : List (Option Value)) (i : Nat) (v : Value) : List (Option Value) := ((lo_clr lo i).set i (some v)).set (i + 1) none
theorem lo1_ok {ls : Array Slot} {lo lo' : List (Option Value)} {i : Nat} {v : Value} (hi : i < lo.length) (he : lo1 lo i v = lo')
    (h : lv_has ls lo.length ((i, v) :: (lo_pr lo).filter (fun q => !(q.1 == i) && !(q.1 + 1 == i && q.2.category == 2)))) : lo_ok ls lo' := by
  subst he
  refine ⟨h.1.trans (by unfold lo1; rw [List.length_set, lo_clr_len]), h.2.1, fun j w hj => ?_⟩
  unfold lo1 at hj
  by_cases hji : j = i
  · subst hji
    rw [List.getElem?_set_self (by rw [lo_clr_len]; exact hi)] at hj
    cases hj
    exact h.2.2 _ List.mem_cons_self
  · rw [List.getElem?_set_ne (Ne.symm hji)] at hj
    obtain ⟨h1, h2⟩ := lo_clr_get hj
    refine h.2.2 (j, w) (List.mem_cons_of_mem _ (List.mem_filter.mpr ⟨lo_pr_mem.mpr h1, ?_⟩))
    by_cases hc : w.category = 2
    · have : ¬ j + 1 = i := fun q => h2 ⟨q, hc⟩
      simp [hji, this]
    · simp [hji, hc]
theorem lo2_ok {ls : Array Slot} {lo lo' : List (Option Value)} {i : Nat} {v : Value} (hi : i + 1 < lo.length) (he : lo2 lo i v = lo')
    (h : lv_has ls lo.length ((i, v) :: (lo_pr lo).filter (fun q => !(q.1 == i) && (!(q.1 == i + 1) && !(q.1 + 1 == i && q.2.category == 2))))) : lo_ok ls lo' := by
  subst he
  refine ⟨h.1.trans (by unfold lo2; rw [List.length_set, List.length_set, lo_clr_len]), h.2.1, fun j w hj => ?_⟩
  unfold lo2 at hj
  by_cases hj1 : j = i + 1
  · subst hj1
    rw [List.getElem?_set_self (by rw [List.length_set, lo_clr_len]; exact hi)] at hj
    cases hj
  · rw [List.getElem?_set_ne (Ne.symm hj1)] at hj
    by_cases hji : j = i
    · subst hji
      rw [List.getElem?_set_self (by rw [lo_clr_len]; omega)] at hj
      cases hj
      exact h.2.2 _ List.mem_cons_self
    · rw [List.getElem?_set_ne (Ne.symm hji)] at hj
      obtain ⟨h1, h2⟩ := lo_clr_get hj
      refine h.2.2 (j, w) (List.mem_cons_of_mem _ (List.mem_filter.mpr ⟨lo_pr_mem.mpr h1, ?_⟩))
      by_cases hc : w.category = 2
      · have : ¬ j + 1 = i := fun q => h2 ⟨q, hc⟩
        simp [hji, hj1, this]
      · simp [hji, hj1, hc]
def lo_args : List Value → List (Option Value)
  | [] => []
  | v :: vs => if v.category = 2 then some v :: none :: lo_args vs else some v :: lo_args vs
def lo0 (av : List Value) (nL : Nat) : List (Option Value) := lo_args av ++ List.replicate (nL - (lo_args av).length) none
theorem lo_args_len : ∀ av : List Value, (lo_args av).length = (lg_sl av).length
  | [] => rfl
  | v :: vs => by
    have ih := lo_args_len vs
    unfold lg_sl at ih ⊢
    unfold lo_args
    rw [List.flatMap_cons, List.length_append, ← ih]
    split
    · simp; omega
    · simp; omega
theorem lo_args_mem : ∀ (av : List Value) (k i : Nat) (v : Value), (lo_args av)[i]? = some (some v) → (k + i, v) ∈ lv_args k av
  | [], k, i, v, h => by simp [lo_args] at h
  | w :: vs, k, i, v, h => by
    unfold lo_args at h
    unfold lv_args
    split at h
    · rename_i hc
      match i, h with
      | 0, h => 
        simp at h
        subst h
        simp
      | 1, h => simp at h
      | i + 2, h =>
        have h2 : (lo_args vs)[i]? = some (some v) := by simpa using h
        have := lo_args_mem vs (k + 2) i v h2
        have e : k + 2 + i = k + (i + 2) := by omega
        rw [e] at this
        simp [hc, this]
    · rename_i hc
      have hc1 : w.category = 1 := (lv_cat w).resolve_right hc
      match i, h with
      | 0, h =>
        simp at h
        subst h
        simp
      | i + 1, h =>
        have h2 : (lo_args vs)[i]? = some (some v) := by simpa using h
        have := lo_args_mem vs (k + 1) i v h2
        have e : k + 1 + i = k + (i + 1) := by omega
        rw [e] at this
        simp [hc1, this]
abbrev Cx : Type := Program × Env × State × MethodId × Array Value × List Frame × Method × Code × (Nat → Prop) × (Option Value → Heap → Prop)
/-- a point of a walk -/
def go (l : Launch) (R : Room) (E : Ev) (x : Cx) (k n : Nat) (Pr : Heap → Prop) (lo : List (Option Value)) (pc : Nat) (st : List Value) : Prop :=
  match x with
  | (p, e, s, m, args, below, meth, c, A, Rt) => ∀ (H : Heap) (ls : Array Slot) (locs : List Loc), Pr H → lo_ok ls lo → va_S A s.heap H locs → W p l e R s m args below meth c H locs k n (MQ below (ctQ A Rt) args s R.cells R.slots A) (F0 m pc ls st)
/-- what stands fixed in a method's walk -/
def fx (E : Ev) (x : Cx) (own : String) (cc : ByteArray) (rt : Option FieldType) (nL : Nat) : Prop :=
  match x with
  | (p, _, s, m, args, _, meth, c, _, _) => p.tables.exec = Jvm.exec ∧ c.code = cc ∧ c.maxLocals = nL ∧ s.vm.findClass own = some m.cls ∧ (∀ w ∈ tG, w.before args s = true) ∧ kE E s ∧ meth.sig.returnType = rt ∧ meth.locks = false
def ini (x : Cx) : Prop := x.2.2.2.2.2.2.1.name = "<init>"
def arx (x : Cx) : Nat → Prop := x.2.2.2.2.2.2.2.2.1
def rtx (x : Cx) : Option Value → Heap → Prop := x.2.2.2.2.2.2.2.2.2
theorem tG_goodIn {y : MethodName} {cc : ByteArray} {n : Nat} {r : Option FieldType} (h : Cond.code y cc n r ∈ tG) : GoodIn tG (.code y cc n r :: tG) := fun w hw => by
  rcases List.mem_cons.mp hw with rfl | hw
  · exact ⟨h, good_of_word (tG_good h)⟩
  · exact ⟨hw, good_of_word (tG_good hw)⟩
/-- a contract out of a walk from the entry -/
theorem ct_start {l : Launch} {E : Ev} {y : MethodName} {cc : ByteArray} {nL : Nat} {rt : Option FieldType} {R : Room} {av : List Value} {Pr : Heap → Prop} {Rt : Option Value → Heap → Prop} {A : Nat → Prop} (hy : plainName y.cls = true) (lo : List (Option Value)) (hlo : lo0 av nL = lo) (hle : (lo_args av).length ≤ nL)
    (h : ∀ x : Cx, fx E x y.cls cc rt nL → (x.2.2.2.2.2.2.1.name = y.name) → (∀ q, A q → arx x q) → (∀ v H, Rt v H → rtx x v H) → go l R E x 0 0 Pr lo 0 []) : Ct l E y cc nL rt R av Pr Rt A := by
  refine Met.ofW (cc := cc) (maxL := nL) (ret := rt) hy rfl ?_
  intro p e s m args below meth c s₁ B hml hv
  obtain ⟨rfl, hK, hP⟩ := hv
  have hts := atoms_spec (ws := .code y cc nL rt :: tG) B.pre
  have hg := h (p, e, s, m, av.toArray, below, meth, c, A, Rt) ⟨B.exec, B.bytes, hml, findClass_of_methodNamed B.named, fun w hw => hts w (List.mem_cons_of_mem _ hw), hK, B.returns, B.notSynchronized⟩ (name_of_methodNamed B.named B.method).1 (fun _ q => q) (fun _ _ q => q)
  have hle' : (lg_sl av).length ≤ nL := by rw [← lo_args_len]; exact hle
  have hl := lv_entry av (n := nL) hle'
  rw [lg_entry_eq]
  refine hg s.heap _ [] hP ?_ va_S.rf
  subst hlo
  refine ⟨?_, hl.2.1, fun i v hi => ?_⟩
  · rw [hl.1]
    unfold lo0
    rw [List.length_append, List.length_replicate]
    omega
  · have h2 : (lo_args av)[i]? = some (some v) := by
      unfold lo0 at hi
      by_cases hlt : i < (lo_args av).length
      · rwa [List.getElem?_append_left hlt] at hi
      · rw [List.getElem?_append_right (by omega)] at hi
        obtain ⟨_, hx⟩ := List.getElem?_eq_some_iff.mp hi
        rw [List.getElem_replicate] at hx
        cases hx
    have h3 := lo_args_mem av 0 i v h2
    rw [Nat.zero_add] at h3
    exact hl.2.2 (i, v) h3

section GO
variable {l : Launch} {R : Room} {E : Ev} {x : Cx} {k n : Nat} {Pr : Heap → Prop} {lo : List (Option Value)} {pc : Nat} {st : List Value} {own : String} {cc : ByteArray} {rt : Option FieldType} {nL : Nat}
theorem g_iconst (hF : fx E x own cc rt nL) {j : Int} (v : Int32) (d : decode cc pc = .ok (.iconst j, 1)) (q : Nat) (hq : pc + 1 = q) (hv : Int32.ofInt j = v) (h : go l R E x k n Pr lo q (.int v :: st)) : go l R E x k n Pr lo pc st := by
  obtain ⟨p, e, s, m, args, below, meth, c, A, Rt⟩ := x
  subst hq
  intro H ls locs hP hl hS
  exact lv_iconst hF.1 hF.2.1 d hv (h H ls locs hP hl hS)
theorem g_bipush (hF : fx E x own cc rt nL) {j : Int} (v : Int32) (d : decode cc pc = .ok (.bipush j, 2)) (q : Nat) (hq : pc + 2 = q) (hv : (Int8.ofInt j).toInt32 = v) (h : go l R E x k n Pr lo q (.int v :: st)) : go l R E x k n Pr lo pc st := by
  obtain ⟨p, e, s, m, args, below, meth, c, A, Rt⟩ := x
  subst hq
  intro H ls locs hP hl hS
  exact lv_bipush hF.1 hF.2.1 d hv (h H ls locs hP hl hS)
theorem g_sipush (hF : fx E x own cc rt nL) {j : Int} (v : Int32) (d : decode cc pc = .ok (.sipush j, 3)) (q : Nat) (hq : pc + 3 = q) (hv : (Int16.ofInt j).toInt32 = v) (h : go l R E x k n Pr lo q (.int v :: st)) : go l R E x k n Pr lo pc st := by
  obtain ⟨p, e, s, m, args, below, meth, c, A, Rt⟩ := x
  subst hq
  intro H ls locs hP hl hS
  exact lv_sipush hF.1 hF.2.1 d hv (h H ls locs hP hl hS)
theorem g_lconst (hF : fx E x own cc rt nL) {j : Fin 2} (v : Int64) (d : decode cc pc = .ok (.lconst j, 1)) (q : Nat) (hq : pc + 1 = q) (hv : Int64.ofNat (j : Nat) = v) (h : go l R E x k n Pr lo q (.long v :: st)) : go l R E x k n Pr lo pc st := by
  obtain ⟨p, e, s, m, args, below, meth, c, A, Rt⟩ := x
  subst hq
  intro H ls locs hP hl hS
  exact lv_lconst hF.1 hF.2.1 d hv (h H ls locs hP hl hS)
theorem g_null (hF : fx E x own cc rt nL)  (d : decode cc pc = .ok (.aconst_null, 1)) (q : Nat) (hq : pc + 1 = q) (h : go l R E x k n Pr lo q (.null :: st)) : go l R E x k n Pr lo pc st := by
  obtain ⟨p, e, s, m, args, below, meth, c, A, Rt⟩ := x
  subst hq
  intro H ls locs hP hl hS
  exact lv_null hF.1 hF.2.1 d (h H ls locs hP hl hS)
theorem g_iload_n (hF : fx E x own cc rt nL) {j : Fin 4} {v : Int32} (d : decode cc pc = .ok (.iload_n j, 1)) (q : Nat) (hq : pc + 1 = q) (hv : lo[(j : Nat)]? = some (some (.int v))) (h : go l R E x k n Pr lo q (.int v :: st)) : go l R E x k n Pr lo pc st := by
  obtain ⟨p, e, s, m, args, below, meth, c, A, Rt⟩ := x
  subst hq
  intro H ls locs hP hl hS
  exact lv_iload_n hF.1 hF.2.1 d rfl (hl.2.2 _ _ hv) (h H ls locs hP hl hS)
theorem g_iload (hF : fx E x own cc rt nL) {j : Nat} {v : Int32} (d : decode cc pc = .ok (.iload j, 2)) (q : Nat) (hq : pc + 2 = q) (hv : lo[j]? = some (some (.int v))) (h : go l R E x k n Pr lo q (.int v :: st)) : go l R E x k n Pr lo pc st := by
  obtain ⟨p, e, s, m, args, below, meth, c, A, Rt⟩ := x
  subst hq
  intro H ls locs hP hl hS
  exact lv_iload hF.1 hF.2.1 d (hl.2.2 _ _ hv) (h H ls locs hP hl hS)
theorem g_lload_n (hF : fx E x own cc rt nL) {j : Fin 4} {v : Int64} (d : decode cc pc = .ok (.lload_n j, 1)) (q : Nat) (hq : pc + 1 = q) (hv : lo[(j : Nat)]? = some (some (.long v))) (h : go l R E x k n Pr lo q (.long v :: st)) : go l R E x k n Pr lo pc st := by
  obtain ⟨p, e, s, m, args, below, meth, c, A, Rt⟩ := x
  subst hq
  intro H ls locs hP hl hS
  exact lv_lload_n hF.1 hF.2.1 d rfl (hl.2.2 _ _ hv) (h H ls locs hP hl hS)
theorem g_lload (hF : fx E x own cc rt nL) {j : Nat} {v : Int64} (d : decode cc pc = .ok (.lload j, 2)) (q : Nat) (hq : pc + 2 = q) (hv : lo[j]? = some (some (.long v))) (h : go l R E x k n Pr lo q (.long v :: st)) : go l R E x k n Pr lo pc st := by
  obtain ⟨p, e, s, m, args, below, meth, c, A, Rt⟩ := x
  subst hq
  intro H ls locs hP hl hS
  exact lv_lload hF.1 hF.2.1 d (hl.2.2 _ _ hv) (h H ls locs hP hl hS)
theorem g_aload_n (hF : fx E x own cc rt nL) {j : Fin 4} {v : Nat} (d : decode cc pc = .ok (.aload_n j, 1)) (q : Nat) (hq : pc + 1 = q) (hv : lo[(j : Nat)]? = some (some (.ref v))) (h : go l R E x k n Pr lo q (.ref v :: st)) : go l R E x k n Pr lo pc st := by
  obtain ⟨p, e, s, m, args, below, meth, c, A, Rt⟩ := x
  subst hq
  intro H ls locs hP hl hS
  exact lv_aload_n hF.1 hF.2.1 d rfl (hl.2.2 _ _ hv) (h H ls locs hP hl hS)
theorem g_aload (hF : fx E x own cc rt nL) {j : Nat} {v : Nat} (d : decode cc pc = .ok (.aload j, 2)) (q : Nat) (hq : pc + 2 = q) (hv : lo[j]? = some (some (.ref v))) (h : go l R E x k n Pr lo q (.ref v :: st)) : go l R E x k n Pr lo pc st := by
  obtain ⟨p, e, s, m, args, below, meth, c, A, Rt⟩ := x
  subst hq
  intro H ls locs hP hl hS
  exact lv_aload hF.1 hF.2.1 d (hl.2.2 _ _ hv) (h H ls locs hP hl hS)
theorem g_aload_nN (hF : fx E x own cc rt nL) {j : Fin 4} (d : decode cc pc = .ok (.aload_n j, 1)) (q : Nat) (hq : pc + 1 = q) (hv : lo[(j : Nat)]? = some (some .null)) (h : go l R E x k n Pr lo q (.null :: st)) : go l R E x k n Pr lo pc st := by
  obtain ⟨p, e, s, m, args, below, meth, c, A, Rt⟩ := x
  subst hq
  intro H ls locs hP hl hS
  exact lv_aload_nN hF.1 hF.2.1 d rfl (hl.2.2 _ _ hv) (h H ls locs hP hl hS)
theorem g_aloadN (hF : fx E x own cc rt nL) {j : Nat} (d : decode cc pc = .ok (.aload j, 2)) (q : Nat) (hq : pc + 2 = q) (hv : lo[j]? = some (some .null)) (h : go l R E x k n Pr lo q (.null :: st)) : go l R E x k n Pr lo pc st := by
  obtain ⟨p, e, s, m, args, below, meth, c, A, Rt⟩ := x
  subst hq
  intro H ls locs hP hl hS
  exact lv_aloadN hF.1 hF.2.1 d (hl.2.2 _ _ hv) (h H ls locs hP hl hS)
theorem g_istore_n (hF : fx E x own cc rt nL) {j : Fin 4} {v : Int32} (d : decode cc pc = .ok (.istore_n j, 1)) (q : Nat) (hq : pc + 1 = q) {lo' : List (Option Value)} (hj : (j : Nat) < lo.length) (he : lo1 lo (j : Nat) (.int v) = lo') (h : go l R E x k n Pr lo' q st) : go l R E x k n Pr lo pc (.int v :: st) := by
  obtain ⟨p, e, s, m, args, below, meth, c, A, Rt⟩ := x
  subst hq
  intro H ls locs hP hl hS
  exact lv_istore_n hF.1 hF.2.1 d rfl (lo_has hl) hj rfl (fun ls' hl' => h H ls' locs hP (lo1_ok hj he hl') hS)
theorem g_istore (hF : fx E x own cc rt nL) {j : Nat} {v : Int32} (d : decode cc pc = .ok (.istore j, 2)) (q : Nat) (hq : pc + 2 = q) {lo' : List (Option Value)} (hj : j < lo.length) (he : lo1 lo j (.int v) = lo') (h : go l R E x k n Pr lo' q st) : go l R E x k n Pr lo pc (.int v :: st) := by
  obtain ⟨p, e, s, m, args, below, meth, c, A, Rt⟩ := x
  subst hq
  intro H ls locs hP hl hS
  exact lv_istore hF.1 hF.2.1 d (lo_has hl) hj rfl (fun ls' hl' => h H ls' locs hP (lo1_ok hj he hl') hS)
theorem g_lstore_n (hF : fx E x own cc rt nL) {j : Fin 4} {v : Int64} (d : decode cc pc = .ok (.lstore_n j, 1)) (q : Nat) (hq : pc + 1 = q) {lo' : List (Option Value)} (hj : (j : Nat) + 1 < lo.length) (he : lo2 lo (j : Nat) (.long v) = lo') (h : go l R E x k n Pr lo' q st) : go l R E x k n Pr lo pc (.long v :: st) := by
  obtain ⟨p, e, s, m, args, below, meth, c, A, Rt⟩ := x
  subst hq
  intro H ls locs hP hl hS
  exact lv_lstore_n hF.1 hF.2.1 d rfl (lo_has hl) hj rfl (fun ls' hl' => h H ls' locs hP (lo2_ok hj he hl') hS)
theorem g_lstore (hF : fx E x own cc rt nL) {j : Nat} {v : Int64} (d : decode cc pc = .ok (.lstore j, 2)) (q : Nat) (hq : pc + 2 = q) {lo' : List (Option Value)} (hj : j + 1 < lo.length) (he : lo2 lo j (.long v) = lo') (h : go l R E x k n Pr lo' q st) : go l R E x k n Pr lo pc (.long v :: st) := by
  obtain ⟨p, e, s, m, args, below, meth, c, A, Rt⟩ := x
  subst hq
  intro H ls locs hP hl hS
  exact lv_lstore hF.1 hF.2.1 d (lo_has hl) hj rfl (fun ls' hl' => h H ls' locs hP (lo2_ok hj he hl') hS)
theorem g_astore_n (hF : fx E x own cc rt nL) {j : Fin 4} {v : Nat} (d : decode cc pc = .ok (.astore_n j, 1)) (q : Nat) (hq : pc + 1 = q) {lo' : List (Option Value)} (hj : (j : Nat) < lo.length) (he : lo1 lo (j : Nat) (.ref v) = lo') (h : go l R E x k n Pr lo' q st) : go l R E x k n Pr lo pc (.ref v :: st) := by
  obtain ⟨p, e, s, m, args, below, meth, c, A, Rt⟩ := x
  subst hq
  intro H ls locs hP hl hS
  exact lv_astore_n hF.1 hF.2.1 d rfl (lo_has hl) hj rfl (fun ls' hl' => h H ls' locs hP (lo1_ok hj he hl') hS)
theorem g_astore (hF : fx E x own cc rt nL) {j : Nat} {v : Nat} (d : decode cc pc = .ok (.astore j, 2)) (q : Nat) (hq : pc + 2 = q) {lo' : List (Option Value)} (hj : j < lo.length) (he : lo1 lo j (.ref v) = lo') (h : go l R E x k n Pr lo' q st) : go l R E x k n Pr lo pc (.ref v :: st) := by
  obtain ⟨p, e, s, m, args, below, meth, c, A, Rt⟩ := x
  subst hq
  intro H ls locs hP hl hS
  exact lv_astore hF.1 hF.2.1 d (lo_has hl) hj rfl (fun ls' hl' => h H ls' locs hP (lo1_ok hj he hl') hS)
theorem g_astore_nN (hF : fx E x own cc rt nL) {j : Fin 4} (d : decode cc pc = .ok (.astore_n j, 1)) (q : Nat) (hq : pc + 1 = q) {lo' : List (Option Value)} (hj : (j : Nat) < lo.length) (he : lo1 lo (j : Nat) (.null) = lo') (h : go l R E x k n Pr lo' q st) : go l R E x k n Pr lo pc (.null :: st) := by
  obtain ⟨p, e, s, m, args, below, meth, c, A, Rt⟩ := x
  subst hq
  intro H ls locs hP hl hS
  exact lv_astore_nN hF.1 hF.2.1 d rfl (lo_has hl) hj rfl (fun ls' hl' => h H ls' locs hP (lo1_ok hj he hl') hS)
theorem g_astoreN (hF : fx E x own cc rt nL) {j : Nat} (d : decode cc pc = .ok (.astore j, 2)) (q : Nat) (hq : pc + 2 = q) {lo' : List (Option Value)} (hj : j < lo.length) (he : lo1 lo j (.null) = lo') (h : go l R E x k n Pr lo' q st) : go l R E x k n Pr lo pc (.null :: st) := by
  obtain ⟨p, e, s, m, args, below, meth, c, A, Rt⟩ := x
  subst hq
  intro H ls locs hP hl hS
  exact lv_astoreN hF.1 hF.2.1 d (lo_has hl) hj rfl (fun ls' hl' => h H ls' locs hP (lo1_ok hj he hl') hS)
theorem g_iinc (hF : fx E x own cc rt nL) {j : Nat} {b : Int} {v : Int32} (d : decode cc pc = .ok (.iinc j b, 3)) (q : Nat) (hq : pc + 3 = q) (w : Int32) (hb : Int32.ofInt b = w) {lo' : List (Option Value)} (hv : lo[j]? = some (some (.int v))) (he : lo1 lo j (.int (v + w)) = lo') (h : go l R E x k n Pr lo' q st) : go l R E x k n Pr lo pc st := by
  obtain ⟨p, e, s, m, args, below, meth, c, A, Rt⟩ := x
  subst hq
  subst hb
  intro H ls locs hP hl hS
  have hj : j < lo.length := (List.getElem?_eq_some_iff.mp hv).1
  obtain ⟨i, hi⟩ := List.getElem?_of_mem (lo_pr_mem.mpr hv)
  exact lv_iinc hF.1 hF.2.1 d (lo_has hl) hi rfl hj rfl (fun ls' hl' => h H ls' locs hP (lo1_ok hj he hl') hS)
theorem g_iadd (hF : fx E x own cc rt nL) {a b : Int32} (d : decode cc pc = .ok (.iadd, 1)) (q : Nat) (hq : pc + 1 = q) (h : go l R E x k n Pr lo q (.int (a + b) :: st)) : go l R E x k n Pr lo pc (.int b :: .int a :: st) := by
  obtain ⟨p, e, s, m, args, below, meth, c, A, Rt⟩ := x
  subst hq
  intro H ls locs hP hl hS
  exact lv_iadd hF.1 hF.2.1 d (h H ls locs hP hl hS)
theorem g_isub (hF : fx E x own cc rt nL) {a b : Int32} (d : decode cc pc = .ok (.isub, 1)) (q : Nat) (hq : pc + 1 = q) (h : go l R E x k n Pr lo q (.int (a - b) :: st)) : go l R E x k n Pr lo pc (.int b :: .int a :: st) := by
  obtain ⟨p, e, s, m, args, below, meth, c, A, Rt⟩ := x
  subst hq
  intro H ls locs hP hl hS
  exact lv_isub hF.1 hF.2.1 d (h H ls locs hP hl hS)
theorem g_imul (hF : fx E x own cc rt nL) {a b : Int32} (d : decode cc pc = .ok (.imul, 1)) (q : Nat) (hq : pc + 1 = q) (h : go l R E x k n Pr lo q (.int (a * b) :: st)) : go l R E x k n Pr lo pc (.int b :: .int a :: st) := by
  obtain ⟨p, e, s, m, args, below, meth, c, A, Rt⟩ := x
  subst hq
  intro H ls locs hP hl hS
  exact lv_imul hF.1 hF.2.1 d (h H ls locs hP hl hS)
theorem g_iand (hF : fx E x own cc rt nL) {a b : Int32} (d : decode cc pc = .ok (.iand, 1)) (q : Nat) (hq : pc + 1 = q) (h : go l R E x k n Pr lo q (.int (a &&& b) :: st)) : go l R E x k n Pr lo pc (.int b :: .int a :: st) := by
  obtain ⟨p, e, s, m, args, below, meth, c, A, Rt⟩ := x
  subst hq
  intro H ls locs hP hl hS
  exact lv_iand hF.1 hF.2.1 d (h H ls locs hP hl hS)
theorem g_ior (hF : fx E x own cc rt nL) {a b : Int32} (d : decode cc pc = .ok (.ior, 1)) (q : Nat) (hq : pc + 1 = q) (h : go l R E x k n Pr lo q (.int (a ||| b) :: st)) : go l R E x k n Pr lo pc (.int b :: .int a :: st) := by
  obtain ⟨p, e, s, m, args, below, meth, c, A, Rt⟩ := x
  subst hq
  intro H ls locs hP hl hS
  exact lv_ior hF.1 hF.2.1 d (h H ls locs hP hl hS)
theorem g_ixor (hF : fx E x own cc rt nL) {a b : Int32} (d : decode cc pc = .ok (.ixor, 1)) (q : Nat) (hq : pc + 1 = q) (h : go l R E x k n Pr lo q (.int (a ^^^ b) :: st)) : go l R E x k n Pr lo pc (.int b :: .int a :: st) := by
  obtain ⟨p, e, s, m, args, below, meth, c, A, Rt⟩ := x
  subst hq
  intro H ls locs hP hl hS
  exact lv_ixor hF.1 hF.2.1 d (h H ls locs hP hl hS)
theorem g_ishl (hF : fx E x own cc rt nL) {a b : Int32} (d : decode cc pc = .ok (.ishl, 1)) (q : Nat) (hq : pc + 1 = q) (h : go l R E x k n Pr lo q (.int (a <<< (b &&& 31)) :: st)) : go l R E x k n Pr lo pc (.int b :: .int a :: st) := by
  obtain ⟨p, e, s, m, args, below, meth, c, A, Rt⟩ := x
  subst hq
  intro H ls locs hP hl hS
  exact lv_ishl hF.1 hF.2.1 d (h H ls locs hP hl hS)
theorem g_ishr (hF : fx E x own cc rt nL) {a b : Int32} (d : decode cc pc = .ok (.ishr, 1)) (q : Nat) (hq : pc + 1 = q) (h : go l R E x k n Pr lo q (.int (a >>> (b &&& 31)) :: st)) : go l R E x k n Pr lo pc (.int b :: .int a :: st) := by
  obtain ⟨p, e, s, m, args, below, meth, c, A, Rt⟩ := x
  subst hq
  intro H ls locs hP hl hS
  exact lv_ishr hF.1 hF.2.1 d (h H ls locs hP hl hS)
theorem g_idiv (hF : fx E x own cc rt nL) {a b : Int32} (d : decode cc pc = .ok (.idiv, 1)) (q : Nat) (hq : pc + 1 = q) (hb : ¬ b = 0) (h : go l R E x k n Pr lo q (.int (a / b) :: st)) : go l R E x k n Pr lo pc (.int b :: .int a :: st) := by
  obtain ⟨p, e, s, m, args, below, meth, c, A, Rt⟩ := x
  subst hq
  intro H ls locs hP hl hS
  exact lv_idiv hF.1 hF.2.1 d hb (h H ls locs hP hl hS)
theorem g_irem (hF : fx E x own cc rt nL) {a b : Int32} (d : decode cc pc = .ok (.irem, 1)) (q : Nat) (hq : pc + 1 = q) (hb : ¬ b = 0) (h : go l R E x k n Pr lo q (.int (a - a / b * b) :: st)) : go l R E x k n Pr lo pc (.int b :: .int a :: st) := by
  obtain ⟨p, e, s, m, args, below, meth, c, A, Rt⟩ := x
  subst hq
  intro H ls locs hP hl hS
  exact lv_irem hF.1 hF.2.1 d hb (h H ls locs hP hl hS)
theorem g_iushr (hF : fx E x own cc rt nL) {a b : Int32} (d : decode cc pc = .ok (.iushr, 1)) (q : Nat) (hq : pc + 1 = q) (h : go l R E x k n Pr lo q (.int (a.toUInt32 >>> (b.toUInt32 &&& Int32.toUInt32 31)).toInt32 :: st)) : go l R E x k n Pr lo pc (.int b :: .int a :: st) := by
  obtain ⟨p, e, s, m, args, below, meth, c, A, Rt⟩ := x
  subst hq
  intro H ls locs hP hl hS
  exact lv_iushr hF.1 hF.2.1 d rfl (h H ls locs hP hl hS)
theorem g_ladd (hF : fx E x own cc rt nL) {a b : Int64} (d : decode cc pc = .ok (.ladd, 1)) (q : Nat) (hq : pc + 1 = q) (h : go l R E x k n Pr lo q (.long (a + b) :: st)) : go l R E x k n Pr lo pc (.long b :: .long a :: st) := by
  obtain ⟨p, e, s, m, args, below, meth, c, A, Rt⟩ := x
  subst hq
  intro H ls locs hP hl hS
  exact lv_ladd hF.1 hF.2.1 d (h H ls locs hP hl hS)
theorem g_lsub (hF : fx E x own cc rt nL) {a b : Int64} (d : decode cc pc = .ok (.lsub, 1)) (q : Nat) (hq : pc + 1 = q) (h : go l R E x k n Pr lo q (.long (a - b) :: st)) : go l R E x k n Pr lo pc (.long b :: .long a :: st) := by
  obtain ⟨p, e, s, m, args, below, meth, c, A, Rt⟩ := x
  subst hq
  intro H ls locs hP hl hS
  exact lv_lsub hF.1 hF.2.1 d (h H ls locs hP hl hS)
theorem g_lmul (hF : fx E x own cc rt nL) {a b : Int64} (d : decode cc pc = .ok (.lmul, 1)) (q : Nat) (hq : pc + 1 = q) (h : go l R E x k n Pr lo q (.long (a * b) :: st)) : go l R E x k n Pr lo pc (.long b :: .long a :: st) := by
  obtain ⟨p, e, s, m, args, below, meth, c, A, Rt⟩ := x
  subst hq
  intro H ls locs hP hl hS
  exact lv_lmul hF.1 hF.2.1 d (h H ls locs hP hl hS)
theorem g_ldiv (hF : fx E x own cc rt nL) {a b : Int64} (d : decode cc pc = .ok (.ldiv, 1)) (q : Nat) (hq : pc + 1 = q) (hb : ¬ b = 0) (h : go l R E x k n Pr lo q (.long (a / b) :: st)) : go l R E x k n Pr lo pc (.long b :: .long a :: st) := by
  obtain ⟨p, e, s, m, args, below, meth, c, A, Rt⟩ := x
  subst hq
  intro H ls locs hP hl hS
  exact lv_ldiv hF.1 hF.2.1 d hb (h H ls locs hP hl hS)
theorem g_lrem (hF : fx E x own cc rt nL) {a b : Int64} (d : decode cc pc = .ok (.lrem, 1)) (q : Nat) (hq : pc + 1 = q) (hb : ¬ b = 0) (h : go l R E x k n Pr lo q (.long (a - a / b * b) :: st)) : go l R E x k n Pr lo pc (.long b :: .long a :: st) := by
  obtain ⟨p, e, s, m, args, below, meth, c, A, Rt⟩ := x
  subst hq
  intro H ls locs hP hl hS
  exact lv_lrem hF.1 hF.2.1 d hb (h H ls locs hP hl hS)
theorem g_lneg (hF : fx E x own cc rt nL) {a : Int64} (d : decode cc pc = .ok (.lneg, 1)) (q : Nat) (hq : pc + 1 = q) (h : go l R E x k n Pr lo q (.long (-a) :: st)) : go l R E x k n Pr lo pc (.long a :: st) := by
  obtain ⟨p, e, s, m, args, below, meth, c, A, Rt⟩ := x
  subst hq
  intro H ls locs hP hl hS
  exact lv_lneg hF.1 hF.2.1 d (h H ls locs hP hl hS)
theorem g_lcmp (hF : fx E x own cc rt nL) {a b : Int64} (d : decode cc pc = .ok (.lcmp, 1)) (q : Nat) (hq : pc + 1 = q) (h : go l R E x k n Pr lo q (.int (lg_cmp a b) :: st)) : go l R E x k n Pr lo pc (.long b :: .long a :: st) := by
  obtain ⟨p, e, s, m, args, below, meth, c, A, Rt⟩ := x
  subst hq
  intro H ls locs hP hl hS
  exact W.lcmp hF.1 hF.2.1 d (h H ls locs hP hl hS)
theorem g_i2l (hF : fx E x own cc rt nL) {a : Int32} (d : decode cc pc = .ok (.i2l, 1)) (q : Nat) (hq : pc + 1 = q) (h : go l R E x k n Pr lo q (.long a.toInt64 :: st)) : go l R E x k n Pr lo pc (.int a :: st) := by
  obtain ⟨p, e, s, m, args, below, meth, c, A, Rt⟩ := x
  subst hq
  intro H ls locs hP hl hS
  exact lv_i2l hF.1 hF.2.1 d rfl (h H ls locs hP hl hS)
theorem g_l2i (hF : fx E x own cc rt nL) {a : Int64} (d : decode cc pc = .ok (.l2i, 1)) (q : Nat) (hq : pc + 1 = q) (h : go l R E x k n Pr lo q (.int a.toInt32 :: st)) : go l R E x k n Pr lo pc (.long a :: st) := by
  obtain ⟨p, e, s, m, args, below, meth, c, A, Rt⟩ := x
  subst hq
  intro H ls locs hP hl hS
  exact lv_l2i hF.1 hF.2.1 d rfl (h H ls locs hP hl hS)
theorem g_dup (hF : fx E x own cc rt nL) {v : Value} (d : decode cc pc = .ok (.dup, 1)) (q : Nat) (hq : pc + 1 = q) (hv : v.category = 1) (h : go l R E x k n Pr lo q (v :: v :: st)) : go l R E x k n Pr lo pc (v :: st) := by
  obtain ⟨p, e, s, m, args, below, meth, c, A, Rt⟩ := x
  subst hq
  intro H ls locs hP hl hS
  exact lv_dup hF.1 hF.2.1 d hv (h H ls locs hP hl hS)
theorem g_pop (hF : fx E x own cc rt nL) {v : Value} (d : decode cc pc = .ok (.pop, 1)) (q : Nat) (hq : pc + 1 = q) (hv : v.category = 1) (h : go l R E x k n Pr lo q st) : go l R E x k n Pr lo pc (v :: st) := by
  obtain ⟨p, e, s, m, args, below, meth, c, A, Rt⟩ := x
  subst hq
  intro H ls locs hP hl hS
  exact lv_pop hF.1 hF.2.1 d hv (h H ls locs hP hl hS)
theorem g_dup2 (hF : fx E x own cc rt nL) {v w : Value} (d : decode cc pc = .ok (.dup2, 1)) (q : Nat) (hq : pc + 1 = q) (hv : v.category = 1) (hw : w.category = 1) (h : go l R E x k n Pr lo q (v :: w :: v :: w :: st)) : go l R E x k n Pr lo pc (v :: w :: st) := by
  obtain ⟨p, e, s, m, args, below, meth, c, A, Rt⟩ := x
  subst hq
  intro H ls locs hP hl hS
  exact lv_dup2_11 hF.1 hF.2.1 d hv hw (h H ls locs hP hl hS)
theorem g_if_eq (hF : fx E x own cc rt nL) {a : Int32} {off : Int} (d : decode cc pc = .ok (.ifCond .eq off, 3)) (q : Nat) (hq : pc + 3 = q) (tgt : Nat) (ht : (pc : Int) + off = (tgt : Int)) (kt : a = 0 → go l R E x k n Pr lo tgt st) (kf : ¬ a = 0 → go l R E x k n Pr lo q st) : go l R E x k n Pr lo pc (.int a :: st) := by
  obtain ⟨p, e, s, m, args, below, meth, c, A, Rt⟩ := x
  subst hq
  intro H ls locs hP hl hS
  exact lv_if_eq hF.1 hF.2.1 d ht (fun z => kt z H ls locs hP hl hS) (fun z => kf z H ls locs hP hl hS)
theorem g_icmp_eq (hF : fx E x own cc rt nL) {a b : Int32} {off : Int} (d : decode cc pc = .ok (.if_icmp .eq off, 3)) (q : Nat) (hq : pc + 3 = q) (tgt : Nat) (ht : (pc : Int) + off = (tgt : Int)) (kt : a = b → go l R E x k n Pr lo tgt st) (kf : ¬ a = b → go l R E x k n Pr lo q st) : go l R E x k n Pr lo pc (.int b :: .int a :: st) := by
  obtain ⟨p, e, s, m, args, below, meth, c, A, Rt⟩ := x
  subst hq
  intro H ls locs hP hl hS
  exact lv_icmp_eq hF.1 hF.2.1 d ht (fun z => kt z H ls locs hP hl hS) (fun z => kf z H ls locs hP hl hS)
theorem g_if_ne (hF : fx E x own cc rt nL) {a : Int32} {off : Int} (d : decode cc pc = .ok (.ifCond .ne off, 3)) (q : Nat) (hq : pc + 3 = q) (tgt : Nat) (ht : (pc : Int) + off = (tgt : Int)) (kt : ¬ a = 0 → go l R E x k n Pr lo tgt st) (kf : a = 0 → go l R E x k n Pr lo q st) : go l R E x k n Pr lo pc (.int a :: st) := by
  obtain ⟨p, e, s, m, args, below, meth, c, A, Rt⟩ := x
  subst hq
  intro H ls locs hP hl hS
  exact lv_if_ne hF.1 hF.2.1 d ht (fun z => kt z H ls locs hP hl hS) (fun z => kf z H ls locs hP hl hS)
theorem g_icmp_ne (hF : fx E x own cc rt nL) {a b : Int32} {off : Int} (d : decode cc pc = .ok (.if_icmp .ne off, 3)) (q : Nat) (hq : pc + 3 = q) (tgt : Nat) (ht : (pc : Int) + off = (tgt : Int)) (kt : ¬ a = b → go l R E x k n Pr lo tgt st) (kf : a = b → go l R E x k n Pr lo q st) : go l R E x k n Pr lo pc (.int b :: .int a :: st) := by
  obtain ⟨p, e, s, m, args, below, meth, c, A, Rt⟩ := x
  subst hq
  intro H ls locs hP hl hS
  exact lv_icmp_ne hF.1 hF.2.1 d ht (fun z => kt z H ls locs hP hl hS) (fun z => kf z H ls locs hP hl hS)
theorem g_if_lt (hF : fx E x own cc rt nL) {a : Int32} {off : Int} (d : decode cc pc = .ok (.ifCond .lt off, 3)) (q : Nat) (hq : pc + 3 = q) (tgt : Nat) (ht : (pc : Int) + off = (tgt : Int)) (kt : a < 0 → go l R E x k n Pr lo tgt st) (kf : ¬ a < 0 → go l R E x k n Pr lo q st) : go l R E x k n Pr lo pc (.int a :: st) := by
  obtain ⟨p, e, s, m, args, below, meth, c, A, Rt⟩ := x
  subst hq
  intro H ls locs hP hl hS
  exact lv_if_lt hF.1 hF.2.1 d ht (fun z => kt z H ls locs hP hl hS) (fun z => kf z H ls locs hP hl hS)
theorem g_icmp_lt (hF : fx E x own cc rt nL) {a b : Int32} {off : Int} (d : decode cc pc = .ok (.if_icmp .lt off, 3)) (q : Nat) (hq : pc + 3 = q) (tgt : Nat) (ht : (pc : Int) + off = (tgt : Int)) (kt : a < b → go l R E x k n Pr lo tgt st) (kf : ¬ a < b → go l R E x k n Pr lo q st) : go l R E x k n Pr lo pc (.int b :: .int a :: st) := by
  obtain ⟨p, e, s, m, args, below, meth, c, A, Rt⟩ := x
  subst hq
  intro H ls locs hP hl hS
  exact lv_icmp_lt hF.1 hF.2.1 d ht (fun z => kt z H ls locs hP hl hS) (fun z => kf z H ls locs hP hl hS)
theorem g_if_ge (hF : fx E x own cc rt nL) {a : Int32} {off : Int} (d : decode cc pc = .ok (.ifCond .ge off, 3)) (q : Nat) (hq : pc + 3 = q) (tgt : Nat) (ht : (pc : Int) + off = (tgt : Int)) (kt : 0 ≤ a → go l R E x k n Pr lo tgt st) (kf : ¬ 0 ≤ a → go l R E x k n Pr lo q st) : go l R E x k n Pr lo pc (.int a :: st) := by
  obtain ⟨p, e, s, m, args, below, meth, c, A, Rt⟩ := x
  subst hq
  intro H ls locs hP hl hS
  exact lv_if_ge hF.1 hF.2.1 d ht (fun z => kt z H ls locs hP hl hS) (fun z => kf z H ls locs hP hl hS)
theorem g_icmp_ge (hF : fx E x own cc rt nL) {a b : Int32} {off : Int} (d : decode cc pc = .ok (.if_icmp .ge off, 3)) (q : Nat) (hq : pc + 3 = q) (tgt : Nat) (ht : (pc : Int) + off = (tgt : Int)) (kt : b ≤ a → go l R E x k n Pr lo tgt st) (kf : ¬ b ≤ a → go l R E x k n Pr lo q st) : go l R E x k n Pr lo pc (.int b :: .int a :: st) := by
  obtain ⟨p, e, s, m, args, below, meth, c, A, Rt⟩ := x
  subst hq
  intro H ls locs hP hl hS
  exact lv_icmp_ge hF.1 hF.2.1 d ht (fun z => kt z H ls locs hP hl hS) (fun z => kf z H ls locs hP hl hS)
theorem g_if_gt (hF : fx E x own cc rt nL) {a : Int32} {off : Int} (d : decode cc pc = .ok (.ifCond .gt off, 3)) (q : Nat) (hq : pc + 3 = q) (tgt : Nat) (ht : (pc : Int) + off = (tgt : Int)) (kt : 0 < a → go l R E x k n Pr lo tgt st) (kf : ¬ 0 < a → go l R E x k n Pr lo q st) : go l R E x k n Pr lo pc (.int a :: st) := by
  obtain ⟨p, e, s, m, args, below, meth, c, A, Rt⟩ := x
  subst hq
  intro H ls locs hP hl hS
  exact lv_if_gt hF.1 hF.2.1 d ht (fun z => kt z H ls locs hP hl hS) (fun z => kf z H ls locs hP hl hS)
theorem g_icmp_gt (hF : fx E x own cc rt nL) {a b : Int32} {off : Int} (d : decode cc pc = .ok (.if_icmp .gt off, 3)) (q : Nat) (hq : pc + 3 = q) (tgt : Nat) (ht : (pc : Int) + off = (tgt : Int)) (kt : b < a → go l R E x k n Pr lo tgt st) (kf : ¬ b < a → go l R E x k n Pr lo q st) : go l R E x k n Pr lo pc (.int b :: .int a :: st) := by
  obtain ⟨p, e, s, m, args, below, meth, c, A, Rt⟩ := x
  subst hq
  intro H ls locs hP hl hS
  exact lv_icmp_gt hF.1 hF.2.1 d ht (fun z => kt z H ls locs hP hl hS) (fun z => kf z H ls locs hP hl hS)
theorem g_if_le (hF : fx E x own cc rt nL) {a : Int32} {off : Int} (d : decode cc pc = .ok (.ifCond .le off, 3)) (q : Nat) (hq : pc + 3 = q) (tgt : Nat) (ht : (pc : Int) + off = (tgt : Int)) (kt : a ≤ 0 → go l R E x k n Pr lo tgt st) (kf : ¬ a ≤ 0 → go l R E x k n Pr lo q st) : go l R E x k n Pr lo pc (.int a :: st) := by
  obtain ⟨p, e, s, m, args, below, meth, c, A, Rt⟩ := x
  subst hq
  intro H ls locs hP hl hS
  exact lv_if_le hF.1 hF.2.1 d ht (fun z => kt z H ls locs hP hl hS) (fun z => kf z H ls locs hP hl hS)
theorem g_icmp_le (hF : fx E x own cc rt nL) {a b : Int32} {off : Int} (d : decode cc pc = .ok (.if_icmp .le off, 3)) (q : Nat) (hq : pc + 3 = q) (tgt : Nat) (ht : (pc : Int) + off = (tgt : Int)) (kt : a ≤ b → go l R E x k n Pr lo tgt st) (kf : ¬ a ≤ b → go l R E x k n Pr lo q st) : go l R E x k n Pr lo pc (.int b :: .int a :: st) := by
  obtain ⟨p, e, s, m, args, below, meth, c, A, Rt⟩ := x
  subst hq
  intro H ls locs hP hl hS
  exact lv_icmp_le hF.1 hF.2.1 d ht (fun z => kt z H ls locs hP hl hS) (fun z => kf z H ls locs hP hl hS)
theorem g_goto (hF : fx E x own cc rt nL)  {off : Int} (d : decode cc pc = .ok (.goto off, 3)) (tgt : Nat) (ht : (pc : Int) + off = (tgt : Int)) (h : go l R E x k n Pr lo tgt st) : go l R E x k n Pr lo pc st := by
  obtain ⟨p, e, s, m, args, below, meth, c, A, Rt⟩ := x
  intro H ls locs hP hl hS
  exact lv_goto hF.1 hF.2.1 d ht (h H ls locs hP hl hS)
theorem g_ifnonnull (hF : fx E x own cc rt nL) {a : Nat} {off : Int} (d : decode cc pc = .ok (.ifnonnull off, 3)) (tgt : Nat) (ht : (pc : Int) + off = (tgt : Int)) (h : go l R E x k n Pr lo tgt st) : go l R E x k n Pr lo pc (.ref a :: st) := by
  obtain ⟨p, e, s, m, args, below, meth, c, A, Rt⟩ := x
  intro H ls locs hP hl hS
  exact lv_ifnonnull hF.1 hF.2.1 d ht (h H ls locs hP hl hS)
theorem g_ifnull (hF : fx E x own cc rt nL) {a : Nat} {off : Int} (d : decode cc pc = .ok (.ifnull off, 3)) (q : Nat) (hq : pc + 3 = q) (h : go l R E x k n Pr lo q st) : go l R E x k n Pr lo pc (.ref a :: st) := by
  obtain ⟨p, e, s, m, args, below, meth, c, A, Rt⟩ := x
  subst hq
  intro H ls locs hP hl hS
  exact lv_ifnull hF.1 hF.2.1 d (h H ls locs hP hl hS)
theorem g_ifnullN (hF : fx E x own cc rt nL)  {off : Int} (d : decode cc pc = .ok (.ifnull off, 3)) (tgt : Nat) (ht : (pc : Int) + off = (tgt : Int)) (h : go l R E x k n Pr lo tgt st) : go l R E x k n Pr lo pc (.null :: st) := by
  obtain ⟨p, e, s, m, args, below, meth, c, A, Rt⟩ := x
  intro H ls locs hP hl hS
  exact lv_ifnullN hF.1 hF.2.1 d ht (h H ls locs hP hl hS)
theorem g_ifnonnullN (hF : fx E x own cc rt nL)  {off : Int} (d : decode cc pc = .ok (.ifnonnull off, 3)) (q : Nat) (hq : pc + 3 = q) (h : go l R E x k n Pr lo q st) : go l R E x k n Pr lo pc (.null :: st) := by
  obtain ⟨p, e, s, m, args, below, meth, c, A, Rt⟩ := x
  subst hq
  intro H ls locs hP hl hS
  exact lv_ifnonnullN hF.1 hF.2.1 d (h H ls locs hP hl hS)
theorem g_tabOut (hF : fx E x own cc rt nL) {a : Int32} {dflt lw hg : Int} {offs : Array Int} {len : Nat} (d : decode cc pc = .ok (.tableswitch dflt lw hg offs, len)) (hx : a.toInt < lw ∨ hg < a.toInt) (tgt : Nat) (ht : (pc : Int) + dflt = (tgt : Int)) (h : go l R E x k n Pr lo tgt st) : go l R E x k n Pr lo pc (.int a :: st) := by
  obtain ⟨p, e, s, m, args, below, meth, c, A, Rt⟩ := x
  intro H ls locs hP hl hS
  exact lv_tableOut hF.1 hF.2.1 d hx ht (h H ls locs hP hl hS)
theorem g_tabIn (hF : fx E x own cc rt nL) {a : Int32} {dflt lw hg : Int} {offs : Array Int} {len : Nat} (d : decode cc pc = .ok (.tableswitch dflt lw hg offs, len)) (h1 : ¬ a.toInt < lw) (h2 : ¬ hg < a.toInt) (off : Int) (ho : offs[(a.toInt - lw).toNat]? = some off) (tgt : Nat) (ht : (pc : Int) + off = (tgt : Int)) (h : go l R E x k n Pr lo tgt st) : go l R E x k n Pr lo pc (.int a :: st) := by
  obtain ⟨p, e, s, m, args, below, meth, c, A, Rt⟩ := x
  intro H ls locs hP hl hS
  exact lv_tableIn hF.1 hF.2.1 d h1 h2 ho ht (h H ls locs hP hl hS)
theorem g_ldc (hF : fx E x own cc rt nL) {i : Nat} {v : Int32} (hk : Cond.constant own i v ∈ tG) (d : decode cc pc = .ok (.ldc i, 2)) (q : Nat) (hq : pc + 2 = q) (h : go l R E x k n Pr lo q (.int v :: st)) : go l R E x k n Pr lo pc st := by
  obtain ⟨p, e, s, m, args, below, meth, c, A, Rt⟩ := x
  subst hq
  intro H ls locs hP hl hS
  exact lv_ldc hF.1 hF.2.1 hF.2.2.2.1 (hF.2.2.2.2.1 _ hk) d (h H ls locs hP hl hS)
theorem g_ldcw (hF : fx E x own cc rt nL) {i : Nat} {v : Int32} (hk : Cond.constant own i v ∈ tG) (d : decode cc pc = .ok (.ldc_w i, 3)) (q : Nat) (hq : pc + 3 = q) (h : go l R E x k n Pr lo q (.int v :: st)) : go l R E x k n Pr lo pc st := by
  obtain ⟨p, e, s, m, args, below, meth, c, A, Rt⟩ := x
  subst hq
  intro H ls locs hP hl hS
  exact lv_ldcw hF.1 hF.2.1 hF.2.2.2.1 (hF.2.2.2.2.1 _ hk) d (h H ls locs hP hl hS)
theorem g_ldc2 (hF : fx E x own cc rt nL) {i : Nat} {v : Int64} (hk : Cond.constantLong own i v ∈ tG) (d : decode cc pc = .ok (.ldc2_w i, 3)) (q : Nat) (hq : pc + 3 = q) (h : go l R E x k n Pr lo q (.long v :: st)) : go l R E x k n Pr lo pc st := by
  obtain ⟨p, e, s, m, args, below, meth, c, A, Rt⟩ := x
  subst hq
  intro H ls locs hP hl hS
  exact lv_ldc2 hF.1 hF.2.1 hF.2.2.2.1 (hF.2.2.2.2.1 _ hk) d (h H ls locs hP hl hS)
/-- the value on top gets a name -/
theorem g_topi {v : Int32} (h : ∀ w : Int32, w = v → go l R E x k n Pr lo pc (.int w :: st)) : go l R E x k n Pr lo pc (.int v :: st) := h v rfl
theorem g_topl {v : Int64} (h : ∀ w : Int64, w = v → go l R E x k n Pr lo pc (.long w :: st)) : go l R E x k n Pr lo pc (.long v :: st) := h v rfl
/-- another picture of the same heap -/
theorem g_pr {Pr' : Heap → Prop} (hp : ∀ H, Pr H → Pr' H) (h : go l R E x k n Pr' lo pc st) : go l R E x k n Pr lo pc st := by
  obtain ⟨p, e, s, m, args, below, meth, c, A, Rt⟩ := x
  intro H ls locs hP hl hS
  exact h H ls locs (hp H hP) hl hS
/-- what the picture tells beside the heap -/
theorem g_ex {α : Sort _} {P : α → Heap → Prop} (h : ∀ a, go l R E x k n (P a) lo pc st) : go l R E x k n (fun H => ∃ a, P a H) lo pc st := by
  obtain ⟨p, e, s, m, args, below, meth, c, A, Rt⟩ := x
  intro H ls locs hP hl hS
  obtain ⟨a, hP⟩ := hP
  exact h a H ls locs hP hl hS
theorem g_pure {P : Prop} (hp : ∀ H, Pr H → P) (h : P → go l R E x k n Pr lo pc st) : go l R E x k n Pr lo pc st := by
  obtain ⟨p, e, s, m, args, below, meth, c, A, Rt⟩ := x
  intro H ls locs hP hl hS
  exact h (hp H hP) H ls locs hP hl hS
/-- fewer locals known -/
def lo_cut : List Bool → List (Option Value) → List (Option Value)
  | b :: bs, v :: vs => (if b then v else none) :: lo_cut bs vs
  | _, vs => vs
theorem lo_cut_len : ∀ (bs : List Bool) (vs : List (Option Value)), (lo_cut bs vs).length = vs.length
  | [], vs => by unfold lo_cut; rfl
  | b :: bs, [] => by unfold lo_cut; rfl
  | b :: bs, v :: vs => by unfold lo_cut; simp [lo_cut_len bs vs]
theorem lo_cut_get : ∀ (bs : List Bool) (vs : List (Option Value)) (i : Nat) (v : Value), (lo_cut bs vs)[i]? = some (some v) → vs[i]? = some (some v)
  | [], vs, i, v, h => by unfold lo_cut at h; exact h
  | b :: bs, [], i, v, h => by unfold lo_cut at h; exact h
  | b :: bs, w :: vs, i, v, h => by
    unfold lo_cut at h
    cases i with
    | zero =>
      cases b <;> simp at h
      simp [h]
    | succ i =>
      have := lo_cut_get bs vs i v (by simpa using h)
      simpa using this
theorem g_cut (bs : List Bool) {lo' : List (Option Value)} (he : lo_cut bs lo = lo') (h : go l R E x k n Pr lo' pc st) : go l R E x k n Pr lo pc st := by
  obtain ⟨p, e, s, m, args, below, meth, c, A, Rt⟩ := x
  subst he
  intro H ls locs hP hl hS
  exact h H ls locs hP ⟨hl.1.trans (lo_cut_len bs lo).symm, hl.2.1, fun i v hi => hl.2.2 i v (lo_cut_get bs lo i v hi)⟩ hS
/-! returns -/
theorem g_iret (hF : fx E x own cc (some .int) nL) {v : Int32} (d : decode cc pc = .ok (.ireturn, 1)) (hk : k ≤ R.cells) (hn : n ≤ R.slots) (hR : ∀ H, Pr H → rtx x (some (.int v)) H) : go l R E x k n Pr lo pc [.int v] := by
  obtain ⟨p, e, s, m, args, below, meth, c, A, Rt⟩ := x
  intro H ls locs hP hl hS
  refine W.widen hk hn ?_
  exact W.iret hF.1 hF.2.1 hF.2.2.2.2.2.2.1 (fun t ht _ => ⟨⟨_, rfl, by rw [ht]; exact hR H hP⟩, hS.F ht⟩) (fun q hq => hS.2.2 q hq) d hF.2.2.2.2.2.2.2
theorem g_zret (hF : fx E x own cc (some .boolean) nL) {v : Int32} (hv : narrow .boolean (.int v) = .int v) (d : decode cc pc = .ok (.ireturn, 1)) (hk : k ≤ R.cells) (hn : n ≤ R.slots) (hR : ∀ H, Pr H → rtx x (some (.int v)) H) : go l R E x k n Pr lo pc [.int v] := by
  obtain ⟨p, e, s, m, args, below, meth, c, A, Rt⟩ := x
  intro H ls locs hP hl hS
  refine W.widen hk hn ?_
  exact W.zret hF.1 hF.2.1 hF.2.2.2.2.2.2.1 hv (fun t ht _ => ⟨⟨_, rfl, by rw [ht]; exact hR H hP⟩, hS.F ht⟩) (fun q hq => hS.2.2 q hq) d hF.2.2.2.2.2.2.2
theorem g_lret (hF : fx E x own cc (some .long) nL) {v : Int64} (d : decode cc pc = .ok (.lreturn, 1)) (hk : k ≤ R.cells) (hn : n ≤ R.slots) (hR : ∀ H, Pr H → rtx x (some (.long v)) H) : go l R E x k n Pr lo pc [.long v] := by
  obtain ⟨p, e, s, m, args, below, meth, c, A, Rt⟩ := x
  intro H ls locs hP hl hS
  refine W.widen hk hn ?_
  exact W.lret hF.1 hF.2.1 hF.2.2.2.2.2.2.1 (fun t ht _ => ⟨⟨_, rfl, by rw [ht]; exact hR H hP⟩, hS.F ht⟩) (fun q hq => hS.2.2 q hq) d hF.2.2.2.2.2.2.2
theorem g_vret (hF : fx E x own cc none nL) (d : decode cc pc = .ok (.return_, 1)) (hk : k ≤ R.cells) (hn : n ≤ R.slots) (hR : ∀ H, Pr H → rtx x none H) : go l R E x k n Pr lo pc [] := by
  obtain ⟨p, e, s, m, args, below, meth, c, A, Rt⟩ := x
  intro H ls locs hP hl hS
  refine W.widen hk hn ?_
  exact W.vret hF.1 hF.2.1 hF.2.2.2.2.2.2.1 (fun t ht _ => ⟨⟨_, rfl, by rw [ht]; exact hR H hP⟩, hS.F ht⟩) (fun q hq => hS.2.2 q hq) d hF.2.2.2.2.2.2.2
theorem g_aret {C : String} (hF : fx E x own cc (some (.object C)) nL) {v : Value} (hv : v = .null ∨ ∃ a, v = .ref a) (d : decode cc pc = .ok (.areturn, 1)) (hk : k ≤ R.cells) (hn : n ≤ R.slots) (hR : ∀ H, Pr H → rtx x (some v) H) : go l R E x k n Pr lo pc [v] := by
  obtain ⟨p, e, s, m, args, below, meth, c, A, Rt⟩ := x
  intro H ls locs hP hl hS
  refine W.widen hk hn ?_
  exact W.aret hF.1 hF.2.1 hF.2.2.2.2.2.2.1 (Or.inl ⟨_, rfl⟩) hv (fun t ht _ => ⟨⟨_, rfl, by rw [ht]; exact hR H hP⟩, hS.F ht⟩) (fun q hq => hS.2.2 q hq) d hF.2.2.2.2.2.2.2
end GO
end
section
/-! Rows that read and write the heap, and calls. -/
theorem va1 {D : va_G} {cl : List vw_C} {q : Nat × va_E} {H : Heap} (h : va_at D cl q H) : va_P D cl [q] H := fun k z hk => by
  cases k with
  | zero => cases hk; exact h
  | succ k => simp at hk
/-- an object, an array of ints, of longs, of booleans, of references -/
abbrev ob (E : Ev) (ci a : Nat) (fs : List Value) (H : Heap) : Prop := va_at E.1 clE (a, .inr (ci, fs)) H
abbrev ai (E : Ev) (a n : Nat) (f : Nat → Int32) (H : Heap) : Prop := va_at E.1 clE (a, .inl (E.2.1, n, .inl f)) H
abbrev aj (E : Ev) (a n : Nat) (f : Nat → Int64) (H : Heap) : Prop := va_at E.1 clE (a, .inl (E.2.2.1, n, .inr (.inl f))) H
abbrev az (E : Ev) (a n : Nat) (f : Nat → Int32) (H : Heap) : Prop := va_at E.1 clE (a, .inl (E.2.2.2.1, n, .inl f)) H
abbrev aq (E : Ev) (c : ClassId) (a n : Nat) (f : Nat → Option Nat) (H : Heap) : Prop := va_at E.1 clE (a, .inl (c, n, .inr (.inr (.inr (.inr f))))) H
/-- nothing but the cell a has changed -/
abbrev but (a : Nat) (H H' : Heap) : Prop := H'.size = H.size ∧ ∀ b, b ≠ a → H'[b]? = H[b]?
/-- nothing outside A has changed -/
abbrev out (A : Nat → Prop) (H H' : Heap) : Prop := H.size ≤ H'.size ∧ ∀ b, b < H.size → ¬ A b → H'[b]? = H[b]?
theorem ai_congr {E : Ev} {a n : Nat} {f g : Nat → Int32} {H : Heap} (h : ∀ j, j < n → f j = g j) (h1 : ai E a n f H) : ai E a n g H := by
  have e : vp_cell E.2.1 (n, .inl f) = vp_cell E.2.1 (n, .inl g) := by
    rw [vp_cell_i, vp_cell_i]
    unfold arrV
    congr 1
    apply Array.ext
    · simp
    · intro i hi _
      simp at hi ⊢
      exact h i hi
  show H[a]? = some (vp_cell E.2.1 (n, .inl g))
  rw [← e]
  exact h1
theorem aj_congr {E : Ev} {a n : Nat} {f g : Nat → Int64} {H : Heap} (h : ∀ j, j < n → f j = g j) (h1 : aj E a n f H) : aj E a n g H := by
  have e : vp_cell E.2.2.1 (n, .inr (.inl f)) = vp_cell E.2.2.1 (n, .inr (.inl g)) := by
    rw [vp_cell_l, vp_cell_l]
    unfold arrV
    congr 1
    apply Array.ext
    · simp
    · intro i hi _
      simp at hi ⊢
      exact h i hi
  show H[a]? = some (vp_cell E.2.2.1 (n, .inr (.inl g)))
  rw [← e]
  exact h1
section GM
variable {l : Launch} {R : Room} {E : Ev} {x : Cx} {k n : Nat} {Pr Pr' : Heap → Prop} {lo : List (Option Value)} {pc : Nat} {st : List Value} {own : String} {cc : ByteArray} {rt : Option FieldType} {nL : Nat}
theorem g_get (hF : fx E x own cc rt nL) {i ci kf a : Nat} {fs : List Value} {v : Value} (hf : fW own i ci kf) (d : decode cc pc = .ok (.getfield i, 3)) (q : Nat) (hq : pc + 3 = q) (rd : ∀ H, Pr H → ob E ci a fs H) (hv : fs[kf]? = some v) (h : go l R E x k n Pr lo q (v :: st)) : go l R E x k n Pr lo pc (.ref a :: st) := by
  obtain ⟨p, e, s, m, args, below, meth, c, A, Rt⟩ := x
  obtain ⟨C, T, N, hc, hin, hk, hlk⟩ := hf
  subst hq
  intro H ls locs hP hl hS
  exact va_get hF.1 hF.2.1 (Ts := tG) hF.2.2.2.2.1 hin hF.2.2.2.1 hF.2.2.2.2.2.1.1 (va1 (rd H hP)) 0 rfl hc kf hk (hF.2.2.2.2.1 _ hlk) (fun _ z => z) hv d (h H ls locs hP hl hS)
theorem g_put (hF : fx E x own cc rt nL) {i ci kf a : Nat} {fs : List Value} {v : Value} {ty : FieldType} (hf : pW own i ci kf false ty) (d : decode cc pc = .ok (.putfield i, 3)) (q : Nat) (hq : pc + 3 = q) (rd : ∀ H, Pr H → ob E ci a fs H) (hl0 : kf < fs.length) (hn : narrow ty v = v) (hfit : fits ty v = true) (hA : arx x a)
    (wr : ∀ H H', Pr H → ob E ci a (fs.set kf v) H' → but a H H' → Pr' H') (h : go l R E x k n Pr' lo q st) : go l R E x k n Pr lo pc (v :: .ref a :: st) := by
  obtain ⟨p, e, s, m, args, below, meth, c, A, Rt⟩ := x
  obtain ⟨C, T, N, t0, hc, hin, hk, hlk, hty, hnm, hfin, rfl, -⟩ := hf
  subst hq
  intro H ls locs hP hl hS
  have hts := hF.2.2.2.2.1
  have hK := hF.2.2.2.2.2.1.1
  have hap := va_apart (own := own) hts hin t0 hty hnm hK hc
  obtain ⟨r, h1, cell, q1, q2, q3, q4⟩ := rd H hP
  obtain rfl : r = (C, T, N) := Option.some.inj (h1.symm.trans hc)
  obtain ⟨hSl, hfc, kC, hkC, hkind⟩ := hK.1 ci _ hc
  obtain ⟨cf, kf', fi, f, hi, hsl⟩ := hSl kf hk
  have hlay := hts _ (hin _ (u_in_lay hk))
  unfold u_lay at hlay
  rw [if_neg (by rw [hfin]; decide)] at hlay
  refine W.putK hF.1 hF.2.1 (f := f) ⟨hF.2.2.2.1, hts _ hlk, ⟨_, _, _, hi⟩, (u_facts hfc hkC (u_lays hts hin hk) hi).1⟩ (by rw [q2]; exact u_store hfc hkC hkind hlay hi (hty kf hk) hn hfit) q1 q3 (by rw [hsl]; exact k2_hasslot (q4 kf hk)) rfl rfl d fun H' e1 e2 e3 => ?_
  rw [hsl] at e1 ⊢
  exact h H' ls _ (wr H H' hP ⟨_, hc, t_OB.to (V := updV (vp_V fs) kf v) ⟨_, e1, q2, q3, t_set q4 hap hk v⟩ (fun j _ => vp_updV_set hl0 v j)⟩ ⟨e2, e3⟩) hl (hS.put e2 e3 hA)
theorem g_putF (hF : fx E x own cc rt nL) (hI : ini x) {i ci kf a : Nat} {fs : List Value} {v : Value} {ty : FieldType} (hf : pW own i ci kf true ty) (d : decode cc pc = .ok (.putfield i, 3)) (q : Nat) (hq : pc + 3 = q) (rd : ∀ H, Pr H → ob E ci a fs H) (hl0 : kf < fs.length) (hn : narrow ty v = v) (hfit : fits ty v = true) (hA : arx x a)
    (wr : ∀ H H', Pr H → ob E ci a (fs.set kf v) H' → but a H H' → Pr' H') (h : go l R E x k n Pr' lo q st) : go l R E x k n Pr lo pc (v :: .ref a :: st) := by
  obtain ⟨p, e, s, m, args, below, meth, c, A, Rt⟩ := x
  obtain ⟨C, T, N, t0, hc, hin, hk, hlk, hty, hnm, hfin, rfl, hdecl⟩ := hf
  subst hq
  intro H ls locs hP hl hS
  have hts := hF.2.2.2.2.1
  have hown := hF.2.2.2.1
  have hK := hF.2.2.2.2.2.1.1
  have hap := va_apart (own := own) hts hin t0 hty hnm hK hc
  obtain ⟨r, h1, cell, q1, q2, q3, q4⟩ := rd H hP
  obtain rfl : r = (C, T, N) := Option.some.inj (h1.symm.trans hc)
  obtain ⟨hSl, hfc, kC, hkC, hkind⟩ := hK.1 ci _ hc
  obtain ⟨cf, kf', fi, f, hi, hsl⟩ := hSl kf hk
  have hlay := hts _ (hin _ (u_in_lay hk))
  unfold u_lay at hlay
  rw [if_pos hfin] at hlay
  have hcf : m.cls = cf := by
    obtain ⟨_, _, c', _, _, _, -, -, hf', -, -, -, hown2, -⟩ := Cond.laysFinal_spec hlay
    have e1 : c' = cf := by have := hi.symm.trans hf'; simp at this; exact this.1.symm
    rw [hdecl rfl] at hown2
    rw [← e1]
    exact Option.some.inj (hown.symm.trans hown2)
  refine W.putFinK hF.1 hF.2.1 hown (hts _ hlk) hi (u_facts hfc hkC (u_lays hts hin hk) hi).1 hcf hI (by rw [q2]; exact u_fits hfc hkC hkind (Or.inr hlay) hi (hty kf hk) hn hfit) q1 q3 (by rw [hsl]; exact k2_hasslot (q4 kf hk)) rfl rfl d fun H' e1 e2 e3 => ?_
  rw [hsl] at e1 ⊢
  exact h H' ls _ (wr H H' hP ⟨_, hc, t_OB.to (V := updV (vp_V fs) kf v) ⟨_, e1, q2, q3, t_set q4 hap hk v⟩ (fun j _ => vp_updV_set hl0 v j)⟩ ⟨e2, e3⟩) hl (hS.put e2 e3 hA)
theorem g_iald (hF : fx E x own cc rt nL) {a N : Nat} {f : Nat → Int32} {i : Int32} (d : decode cc pc = .ok (.iaload, 1)) (q : Nat) (hq : pc + 1 = q) (rd : ∀ H, Pr H → ai E a N f H) (hi : vp_in i N) (h : go l R E x k n Pr lo q (.int (f i.toNatClampNeg) :: st)) : go l R E x k n Pr lo pc (.int i :: .ref a :: st) := by
  obtain ⟨p, e, s, m, args, below, meth, c, A, Rt⟩ := x
  subst hq
  intro H ls locs hP hl hS
  exact va_iald hF.1 hF.2.1 hF.2.2.2.2.2.1.1 (va1 (rd H hP)) 0 0 rfl rfl hi d (h H ls locs hP hl hS)
theorem g_lald (hF : fx E x own cc rt nL) {a N : Nat} {f : Nat → Int64} {i : Int32} (d : decode cc pc = .ok (.laload, 1)) (q : Nat) (hq : pc + 1 = q) (rd : ∀ H, Pr H → aj E a N f H) (hi : vp_in i N) (h : go l R E x k n Pr lo q (.long (f i.toNatClampNeg) :: st)) : go l R E x k n Pr lo pc (.int i :: .ref a :: st) := by
  obtain ⟨p, e, s, m, args, below, meth, c, A, Rt⟩ := x
  subst hq
  intro H ls locs hP hl hS
  exact va_lald hF.1 hF.2.1 hF.2.2.2.2.2.1.1 (va1 (rd H hP)) 0 1 rfl rfl hi d (h H ls locs hP hl hS)
theorem g_zald (hF : fx E x own cc rt nL) {a N : Nat} {f : Nat → Int32} {i : Int32} (d : decode cc pc = .ok (.baload, 1)) (q : Nat) (hq : pc + 1 = q) (rd : ∀ H, Pr H → az E a N f H) (hi : vp_in i N) (h : go l R E x k n Pr lo q (.int (f i.toNatClampNeg) :: st)) : go l R E x k n Pr lo pc (.int i :: .ref a :: st) := by
  obtain ⟨p, e, s, m, args, below, meth, c, A, Rt⟩ := x
  subst hq
  intro H ls locs hP hl hS
  exact va_zald hF.1 hF.2.1 hF.2.2.2.2.2.1.1 (va1 (rd H hP)) 0 2 rfl rfl hi d (h H ls locs hP hl hS)
theorem g_aald (hF : fx E x own cc rt nL) {a N : Nat} {f : Nat → Option Nat} {i : Int32} {cA : ClassId} {C : String} (t0 : Nat) (d : decode cc pc = .ok (.aaload, 1)) (q : Nat) (hq : pc + 1 = q) (ht : (tyE E)[t0]? = some (cA, .object C)) (rd : ∀ H, Pr H → aq E cA a N f H) (hi : vp_in i N) {b : Nat} (hb : f i.toNatClampNeg = some b) (h : go l R E x k n Pr lo q (.ref b :: st)) : go l R E x k n Pr lo pc (.int i :: .ref a :: st) := by
  obtain ⟨p, e, s, m, args, below, meth, c, A, Rt⟩ := x
  subst hq
  intro H ls locs hP hl hS
  refine va_aldq hF.1 hF.2.1 hF.2.2.2.2.2.1.1 (va1 (rd H hP)) 0 t0 rfl ht hi d ?_
  rw [hb]
  exact h H ls locs hP hl hS
theorem g_alen (hF : fx E x own cc rt nL) {a N : Nat} {f : Nat → Int32} (d : decode cc pc = .ok (.arraylength, 1)) (q : Nat) (hq : pc + 1 = q) (rd : ∀ H, Pr H → ai E a N f H) (h : go l R E x k n Pr lo q (.int (Int32.ofNat N) :: st)) : go l R E x k n Pr lo pc (.ref a :: st) := by
  obtain ⟨p, e, s, m, args, below, meth, c, A, Rt⟩ := x
  subst hq
  intro H ls locs hP hl hS
  exact va_alen hF.1 hF.2.1 hF.2.2.2.2.2.1.1 (va1 (rd H hP)) 0 0 rfl rfl rfl d (h H ls locs hP hl hS)
theorem g_iast (hF : fx E x own cc rt nL) {a N : Nat} {f : Nat → Int32} {i v : Int32} (d : decode cc pc = .ok (.iastore, 1)) (q : Nat) (hq : pc + 1 = q) (rd : ∀ H, Pr H → ai E a N f H) (hi : vp_in i N) (hA : arx x a)
    (wr : ∀ H H', Pr H → ai E a N (upd f i.toNatClampNeg v) H' → but a H H' → Pr' H') (h : go l R E x k n Pr' lo q st) : go l R E x k n Pr lo pc (.int v :: .int i :: .ref a :: st) := by
  obtain ⟨p, e, s, m, args, below, meth, c, A, Rt⟩ := x
  subst hq
  intro H ls locs hP hl hS
  refine W.iast hF.1 hF.2.1 (rd H hP) ((hF.2.2.2.2.2.1.1.2 0 _ rfl).1 N (fun j => .int (f j))) (fun q => by cases q) (by show ¬ (i < 0 ∨ (arrV _ _ _).slots.size ≤ _); rw [arrV_size]; exact hi) rfl rfl d fun H1 e1 z oq => ?_
  refine h H1 ls _ (wr H H1 hP ?_ ⟨z, oq⟩) hl (hS.put z oq hA)
  show H1[a]? = some (vp_cell _ _)
  rw [e1, vp_cell_i, vp_cell_i, arrV_store]
  congr 2
  funext j
  by_cases hj : j = i.toNatClampNeg <;> simp [updV, upd, hj]
theorem g_last (hF : fx E x own cc rt nL) {a N : Nat} {f : Nat → Int64} {i : Int32} {v : Int64} (d : decode cc pc = .ok (.lastore, 1)) (q : Nat) (hq : pc + 1 = q) (rd : ∀ H, Pr H → aj E a N f H) (hi : vp_in i N) (hA : arx x a)
    (wr : ∀ H H', Pr H → aj E a N (vp_updL f i.toNatClampNeg v) H' → but a H H' → Pr' H') (h : go l R E x k n Pr' lo q st) : go l R E x k n Pr lo pc (.long v :: .int i :: .ref a :: st) := by
  obtain ⟨p, e, s, m, args, below, meth, c, A, Rt⟩ := x
  subst hq
  intro H ls locs hP hl hS
  refine W.last hF.1 hF.2.1 (rd H hP) ((hF.2.2.2.2.2.1.1.2 1 _ rfl).1 N (fun j => .long (f j))) (fun q => by cases q) (by show ¬ (i < 0 ∨ (arrV _ _ _).slots.size ≤ _); rw [arrV_size]; exact hi) rfl rfl d fun H1 e1 z oq => ?_
  refine h H1 ls _ (wr H H1 hP ?_ ⟨z, oq⟩) hl (hS.put z oq hA)
  show H1[a]? = some (vp_cell _ _)
  rw [e1, vp_cell_l, vp_cell_l, arrV_store]
  congr 2
  funext j
  by_cases hj : j = i.toNatClampNeg <;> simp [updV, vp_updL, hj]
theorem g_zast (hF : fx E x own cc rt nL) {a N : Nat} {f : Nat → Int32} {i v : Int32} (d : decode cc pc = .ok (.bastore, 1)) (q : Nat) (hq : pc + 1 = q) (rd : ∀ H, Pr H → az E a N f H) (hi : vp_in i N) (hv : narrow .boolean (.int v) = .int v) (hA : arx x a)
    (wr : ∀ H H', Pr H → az E a N (upd f i.toNatClampNeg v) H' → but a H H' → Pr' H') (h : go l R E x k n Pr' lo q st) : go l R E x k n Pr lo pc (.int v :: .int i :: .ref a :: st) := by
  obtain ⟨p, e, s, m, args, below, meth, c, A, Rt⟩ := x
  subst hq
  intro H ls locs hP hl hS
  refine W.zast hF.1 hF.2.1 (rd H hP) ((hF.2.2.2.2.2.1.1.2 2 _ rfl).1 N (fun j => .int (f j))) (fun q => by cases q) (by show ¬ (i < 0 ∨ (arrV _ _ _).slots.size ≤ _); rw [arrV_size]; exact hi) rfl rfl d fun H1 e1 z oq => ?_
  refine h H1 ls _ (wr H H1 hP ?_ ⟨z, oq⟩) hl (hS.put z oq hA)
  show H1[a]? = some (vp_cell _ _)
  rw [e1, hv, vp_cell_i, vp_cell_i, arrV_store]
  congr 2
  funext j
  by_cases hj : j = i.toNatClampNeg <;> simp [updV, upd, hj]
/-! calls: a contract's end is rV: the value, and the picture behind it -/
def rV (v : Option Value) (P : Heap → Prop) : Option Value → Heap → Prop := fun w H => w = v ∧ P H
section CALL
variable {k1 n1 : Nat} {st1 : List Value} {i nL' np b : Nat} {y : MethodName} {cc' : ByteArray} {rt' : Option FieldType} {R' : Room} {As st0 : List Value} {Pr1 Pr1' : Heap → Prop} {A1 : Nat → Prop} {vr : Option Value}
theorem go_back {p : Program} {e : Env} {s : State} {m : MethodId} {args : Array Value} {below : List Frame} {meth : Method} {c : Code} {A : Nat → Prop} {Rt : Option Value → Heap → Prop} {H : Heap} {ls : Array Slot} {locs : List Loc} {a0 : Array Value}
    (hr : va_Run p l e R s m args below meth c H locs k n R'.cells R'.slots (F0 m pc ls st0) st (ctQ A1 (rV vr Pr1') a0) A1) (hP : Pr H) (hl : lo_ok ls lo) (hS : va_S A s.heap H locs) (hA : ∀ q, A1 q → A q) (hst1 : vr.toList ++ st = st1) (hk1 : k + R'.cells = k1) (hn1 : n + R'.slots = n1)
    (back : ∀ H H', Pr H → Pr1' H' → out A1 H H' → Pr' H') (h : go l R E (p, e, s, m, args, below, meth, c, A, Rt) k1 n1 Pr' lo (pc + 3) st1) :
    W p l e R s m args below meth c H locs k n (MQ below (ctQ A Rt) args s R.cells R.slots A) (F0 m pc ls st0) := by
  subst hst1
  subst hk1
  subst hn1
  intro T hT X
  obtain ⟨v, st₀, t, T', L, h0, X', hL, e1, e2, ⟨⟨w, hw, hwv, hp⟩, hz, hk⟩, stp⟩ := hr T hT X
  cases hw
  subst hwv
  rw [h0] at hz hk
  have hP' : Pr' T'.heap := by
    rw [e1]
    exact back H t.heap hP hp ⟨hz, hk⟩
  obtain ⟨t2, a1, b1⟩ := h T'.heap ls (locs ++ L) hP' hl ⟨Nat.le_trans hS.1 (by rw [e1]; exact hz), fun q h1 h2 => by
      rw [e1, hk q (Nat.lt_of_lt_of_le h1 hS.1) (fun z => h2 (hA q z))]
      exact hS.2.1 q h1 h2, fun q hq => by
      rcases List.mem_append.mp hq with h | h
      · exact hS.2.2 q h
      · exact hA _ (hL q h)⟩ T' rfl X'
  exact ⟨t2, stp t2 a1, b1⟩
theorem g_callV (hF : fx E x own cc rt nL) (hw : cV own i y cc' nL' rt' np) (hC : Ct l E y cc' nL' rt' R' (.ref b :: As) Pr1 (rV vr Pr1') A1) (d : decode cc pc = .ok (.invokevirtual i, 3)) (q : Nat) (hq : pc + 3 = q) (hst : st0 = As.reverse ++ .ref b :: st) (hn : As.length = np) (hR : R'.frames + 1 ≤ R.frames ∧ 8 + (nL' + 11) + R'.locals ≤ R.locals) (hc : k + R'.cells ≤ R.cells ∧ n + R'.slots ≤ R.slots) (hlen : lo.length = nL) (hW : (st.map fun v => v.category).sum ≤ 8)
    (ci : Nat) {fs : List Value} {T0 : u_T} {N0 : Nat} (hci : clE[ci]? = some (y.cls, T0, N0)) (rcv : ∀ H, Pr H → ob E ci b fs H) (to : ∀ H, Pr H → Pr1 H) (hA : ∀ q, A1 q → arx x q) (back : ∀ H H', Pr H → Pr1' H' → out A1 H H' → Pr' H') (hst1 : vr.toList ++ st = st1) (hk1 : k + R'.cells = k1) (hn1 : n + R'.slots = n1) (h : go l R E x k1 n1 Pr' lo q st1) : go l R E x k n Pr lo pc st0 := by
  obtain ⟨p, e, s, m, args, below, meth, c, A, Rt⟩ := x
  subst hq
  intro H ls locs hP hl hS
  obtain ⟨w1, w2, w3, w4, w5, w6⟩ := hw
  have hts := hF.2.2.2.2.1
  refine go_back (va_runV (Ts := tG) (C := y.cls) (As := As) (rest := st) ⟨hF.1, hF.2.1, hF.2.2.1, hF.2.2.2.1, hts⟩ hC ⟨callB_of np hts (tG_goodIn w5) rfl rfl rfl (hts _ w4) (hts _ w1) w6 hR, hts _ w2, hts _ w3⟩ ⟨ctP_blind, va_recv hF.2.2.2.2.2.1.1 (va1 (rcv H hP)) hci (q0 := 0) rfl, fun U hU hWm => ⟨rfl, hF.2.2.2.2.2.1.warm hWm, by rw [hU]; exact to H hP⟩⟩ rfl hn (hl.1.trans hlen) hst (lv_room hW) d hc) hP hl hS hA hst1 hk1 hn1 back h
theorem g_callS (hF : fx E x own cc rt nL) (hw : cS own i y cc' nL' rt' np) (hC : Ct l E y cc' nL' rt' R' As Pr1 (rV vr Pr1') A1) (d : decode cc pc = .ok (.invokestatic i, 3)) (q : Nat) (hq : pc + 3 = q) (hst : st0 = As.reverse ++ st) (hn : As.length = np) (hR : R'.frames + 1 ≤ R.frames ∧ 8 + (nL' + 11) + R'.locals ≤ R.locals) (hc : k + R'.cells ≤ R.cells ∧ n + R'.slots ≤ R.slots) (hlen : lo.length = nL) (hW : (st.map fun v => v.category).sum ≤ 8)
    (to : ∀ H, Pr H → Pr1 H) (hA : ∀ q, A1 q → arx x q) (back : ∀ H H', Pr H → Pr1' H' → out A1 H H' → Pr' H') (hst1 : vr.toList ++ st = st1) (hk1 : k + R'.cells = k1) (hn1 : n + R'.slots = n1) (h : go l R E x k1 n1 Pr' lo q st1) : go l R E x k n Pr lo pc st0 := by
  obtain ⟨p, e, s, m, args, below, meth, c, A, Rt⟩ := x
  subst hq
  intro H ls locs hP hl hS
  obtain ⟨w1, w2, w4, w5, w6⟩ := hw
  have hts := hF.2.2.2.2.1
  refine go_back (va_runS (Ts := tG) (As := As) (rest := st) ⟨hF.1, hF.2.1, hF.2.2.1, hF.2.2.2.1, hts⟩ hC ⟨callB_of np hts (tG_goodIn w5) rfl rfl rfl (hts _ w4) (hts _ w1) w6 hR, hts _ w2⟩ ⟨ctP_blind, fun U hU hWm => ⟨rfl, hF.2.2.2.2.2.1.warm hWm, by rw [hU]; exact to H hP⟩⟩ rfl hn (hl.1.trans hlen) hst (lv_room hW) d hc) hP hl hS hA hst1 hk1 hn1 back h
theorem g_callI (hF : fx E x own cc rt nL) (hw : cI own i y cc' nL' np) (hC : Ct l E y cc' nL' none R' (.ref b :: As) Pr1 (rV vr Pr1') A1) (d : decode cc pc = .ok (.invokespecial i, 3)) (q : Nat) (hq : pc + 3 = q) (hst : st0 = As.reverse ++ .ref b :: st) (hn : As.length = np) (hR : R'.frames + 1 ≤ R.frames ∧ 8 + (nL' + 11) + R'.locals ≤ R.locals) (hc : k + R'.cells ≤ R.cells ∧ n + R'.slots ≤ R.slots) (hlen : lo.length = nL) (hW : (st.map fun v => v.category).sum ≤ 8)
    (to : ∀ H, Pr H → Pr1 H) (hA : ∀ q, A1 q → arx x q) (back : ∀ H H', Pr H → Pr1' H' → out A1 H H' → Pr' H') (hst1 : vr.toList ++ st = st1) (hk1 : k + R'.cells = k1) (hn1 : n + R'.slots = n1) (h : go l R E x k1 n1 Pr' lo q st1) : go l R E x k n Pr lo pc st0 := by
  obtain ⟨p, e, s, m, args, below, meth, c, A, Rt⟩ := x
  subst hq
  intro H ls locs hP hl hS
  obtain ⟨w1, w2, w4, w5, w3, w6⟩ := hw
  have hts := hF.2.2.2.2.1
  refine go_back (va_runI (Ts := tG) (As := As) (rest := st) ⟨hF.1, hF.2.1, hF.2.2.1, hF.2.2.2.1, hts⟩ hC ⟨callB_of np hts (tG_goodIn w5) rfl rfl rfl (hts _ w4) (hts _ w1) w6 hR, w3, hts _ w2⟩ ⟨ctP_blind, fun U hU hWm => ⟨rfl, hF.2.2.2.2.2.1.warm hWm, by rw [hU]; exact to H hP⟩⟩ rfl hn (hl.1.trans hlen) hst (lv_room hW) d hc) hP hl hS hA hst1 hk1 hn1 back h
/-- a contract said of a larger picture -/
theorem Ct.lift {l : Launch} {E : Ev} {y : MethodName} {cc : ByteArray} {nL : Nat} {rt : Option FieldType} {R : Room} {av : List Value} {P P2 : Heap → Prop} {Rt Rt2 : Option Value → Heap → Prop} {A A2 : Nat → Prop} (h : Ct l E y cc nL rt R av P Rt A) (to : ∀ H, P2 H → P H) (hA : ∀ q, A q → A2 q) (back : ∀ v H H', P2 H → Rt v H' → out A H H' → Rt2 v H') : Ct l E y cc nL rt R av P2 Rt2 A2 := by
  intro p e ha hc hk s m args below hf happ hP ht
  obtain ⟨t, o, a1, b1, b2, ⟨⟨v, rfl, hv⟩, hz, hq⟩, L, hL, hfree⟩ := h p e ha hc hk s m args below hf happ ⟨hP.1, hP.2.1, to _ hP.2.2⟩ ht
  exact ⟨t, _, a1, b1, b2, ⟨⟨v, rfl, back v _ _ hP.2.2 hv ⟨hz, hq⟩⟩, hz, fun q h1 h2 => hq q h1 (fun z => h2 (hA q z))⟩, L, hL, fun q z => hA _ (hfree q z)⟩
end CALL
end GM
/-! numbers -/
theorem i_le {a b : Nat} (h : nI a ≤ nI b) (ha : a < 2 ^ 31) (hb : b < 2 ^ 31) : a ≤ b := (nI_leI ha hb).mp h
theorem i_nle {a b : Nat} (h : ¬ nI a ≤ nI b) (ha : a < 2 ^ 31) (hb : b < 2 ^ 31) : b < a := Nat.not_le.mp fun z => h ((nI_leI ha hb).mpr z)
theorem i_lt {a b : Nat} (h : nI a < nI b) (ha : a < 2 ^ 31) (hb : b < 2 ^ 31) : a < b := (nI_ltI ha hb).mp h
theorem i_nlt {a b : Nat} (h : ¬ nI a < nI b) (ha : a < 2 ^ 31) (hb : b < 2 ^ 31) : b ≤ a := Nat.not_lt.mp fun z => h ((nI_ltI ha hb).mpr z)
end
section
/-! TrunkReserve$Group, and the JDK's methods that it calls. A group's picture: gv (the reference's row of 34 numbers) and fs (since when a line is free, as the class tells it). -/
def rm (d : Nat) : Room := { frames := d, cells := 0, slots := 0, locals := 32 * d }
def gfs (gv : Nat → Int32) (a : Nat) : List Value := [.int (gv 0), .int (gv 1), .int (gv 2), .int (gv 3), .int (gv 4), .int (gv 6), .int (gv 7), .int (gv 8), .int (gv 9), .int (gv 5 + 1), .ref (a + 1), .ref (a + 2), .ref (a + 3), .ref (a + 4)]
def Gp (E : Ev) (a : Nat) (gv fs : Nat → Int32) (H : Heap) : Prop := ob E 3 a (gfs gv a) H ∧ ai E (a + 1) 6 (fun l => gv (10 + 4 * l)) H ∧ ai E (a + 2) 6 (fun l => gv (11 + 4 * l)) H ∧ ai E (a + 3) 6 (fun l => gv (12 + 4 * l)) H ∧ ai E (a + 4) 6 fs H
def rg (a n : Nat) : Nat → Prop := fun q => a ≤ q ∧ q < a + n
theorem ai_kept {E : Ev} {a n : Nat} {f : Nat → Int32} {H H' : Heap} (h : ai E a n f H) (hq : H'[a]? = H[a]?) : ai E a n f H' := va_at.kept h hq
theorem ob_kept {E : Ev} {ci a : Nat} {fs : List Value} {H H' : Heap} (h : ob E ci a fs H) (hq : H'[a]? = H[a]?) : ob E ci a fs H' := va_at.kept h hq
theorem Gp.kept {E : Ev} {a : Nat} {gv fs : Nat → Int32} {H H' : Heap} (h : Gp E a gv fs H) (hq : ∀ q, rg a 5 q → H'[q]? = H[q]?) : Gp E a gv fs H' :=
  ⟨ob_kept h.1 (hq _ ⟨by omega, by omega⟩), ai_kept h.2.1 (hq _ ⟨by omega, by omega⟩), ai_kept h.2.2.1 (hq _ ⟨by omega, by omega⟩), ai_kept h.2.2.2.1 (hq _ ⟨by omega, by omega⟩), ai_kept h.2.2.2.2 (hq _ ⟨by omega, by omega⟩)⟩
theorem Gp.lt {E : Ev} {a : Nat} {gv fs : Nat → Int32} {H : Heap} (h : Gp E a gv fs H) : ∀ q, rg a 5 q → q < H.size := by
  intro q hq
  have h0 : a + 4 < H.size := va_at.lt h.2.2.2.2
  have := hq.2
  omega
theorem Gp.to {E : Ev} {a : Nat} {gv gv' fs : Nat → Int32} {H : Heap} (h : Gp E a gv fs H) (h0 : ∀ w, w < 10 → gv w = gv' w) (h1 : ∀ l, l < 6 → gv (10 + 4 * l) = gv' (10 + 4 * l) ∧ gv (11 + 4 * l) = gv' (11 + 4 * l) ∧ gv (12 + 4 * l) = gv' (12 + 4 * l)) : Gp E a gv' fs H := by
  refine ⟨?_, ai_congr (fun j hj => (h1 j hj).1) h.2.1, ai_congr (fun j hj => (h1 j hj).2.1) h.2.2.1, ai_congr (fun j hj => (h1 j hj).2.2) h.2.2.2.1, h.2.2.2.2⟩
  have e : gfs gv' a = gfs gv a := by
    unfold gfs
    rw [h0 0 (by omega), h0 1 (by omega), h0 2 (by omega), h0 3 (by omega), h0 4 (by omega), h0 5 (by omega), h0 6 (by omega), h0 7 (by omega), h0 8 (by omega), h0 9 (by omega)]
  rw [e]
  exact h.1
/-- the object's own cell is written -/
theorem Gp.wo {E : Ev} {a : Nat} {gv fs : Nat → Int32} {H H' : Heap} {w : Nat} {z : Int32} (hw : w < 10) {vs : List Value} (hv : vs = gfs (upd gv w z) a) (h : Gp E a gv fs H) (h1 : ob E 3 a vs H') (h2 : but a H H') : Gp E a (upd gv w z) fs H' := by
  subst hv
  have e : ∀ j, j ≥ 10 → upd gv w z j = gv j := fun j hj => pk_un (by omega)
  refine ⟨h1, ?_, ?_, ?_, ai_kept h.2.2.2.2 (h2.2 _ (by omega))⟩
  · exact ai_congr (fun j hj => (e _ (by omega)).symm) (ai_kept h.2.1 (h2.2 _ (by omega)))
  · exact ai_congr (fun j hj => (e _ (by omega)).symm) (ai_kept h.2.2.1 (h2.2 _ (by omega)))
  · exact ai_congr (fun j hj => (e _ (by omega)).symm) (ai_kept h.2.2.2.1 (h2.2 _ (by omega)))
theorem gfs_hi {gv : Nat → Int32} {a w : Nat} {z : Int32} (hw : 10 ≤ w) : gfs (upd gv w z) a = gfs gv a := by
  have e : ∀ j, j < 10 → upd gv w z j = gv j := fun j hj => pk_un (by omega)
  unfold gfs
  rw [e 0 (by omega), e 1 (by omega), e 2 (by omega), e 3 (by omega), e 4 (by omega), e 5 (by omega), e 6 (by omega), e 7 (by omega), e 8 (by omega), e 9 (by omega)]
theorem Gp.w1 {E : Ev} {a : Nat} {gv fs : Nat → Int32} {H H' : Heap} {l : Nat} {z : Int32} (hl : l < 6) (h : Gp E a gv fs H) (h1 : ai E (a + 1) 6 (upd (fun l => gv (10 + 4 * l)) (nI l).toNatClampNeg z) H') (h2 : but (a + 1) H H') : Gp E a (upd gv (10 + 4 * l) z) fs H' := by
  rw [nI_clamp (by omega)] at h1
  refine ⟨?_, ?_, ?_, ?_, ai_kept h.2.2.2.2 (h2.2 _ (by omega))⟩
  · rw [gfs_hi (by omega)]; exact ob_kept h.1 (h2.2 _ (by omega))
  · refine ai_congr (fun j hj => ?_) h1
    by_cases hjl : j = l
    · subst hjl; rw [pk_us, pk_us]
    · rw [pk_un hjl, pk_un (by omega)]
  · exact ai_congr (fun j hj => (pk_un (by omega)).symm) (ai_kept h.2.2.1 (h2.2 _ (by omega)))
  · exact ai_congr (fun j hj => (pk_un (by omega)).symm) (ai_kept h.2.2.2.1 (h2.2 _ (by omega)))
theorem Gp.w2 {E : Ev} {a : Nat} {gv fs : Nat → Int32} {H H' : Heap} {l : Nat} {z : Int32} (hl : l < 6) (h : Gp E a gv fs H) (h1 : ai E (a + 2) 6 (upd (fun l => gv (11 + 4 * l)) (nI l).toNatClampNeg z) H') (h2 : but (a + 2) H H') : Gp E a (upd gv (11 + 4 * l) z) fs H' := by
  rw [nI_clamp (by omega)] at h1
  refine ⟨?_, ?_, ?_, ?_, ai_kept h.2.2.2.2 (h2.2 _ (by omega))⟩
  · rw [gfs_hi (by omega)]; exact ob_kept h.1 (h2.2 _ (by omega))
  · exact ai_congr (fun j hj => (pk_un (by omega)).symm) (ai_kept h.2.1 (h2.2 _ (by omega)))
  · refine ai_congr (fun j hj => ?_) h1
    by_cases hjl : j = l
    · subst hjl; rw [pk_us, pk_us]
    · rw [pk_un hjl, pk_un (by omega)]
  · exact ai_congr (fun j hj => (pk_un (by omega)).symm) (ai_kept h.2.2.2.1 (h2.2 _ (by omega)))
theorem Gp.w3 {E : Ev} {a : Nat} {gv fs : Nat → Int32} {H H' : Heap} {l : Nat} {z : Int32} (hl : l < 6) (h : Gp E a gv fs H) (h1 : ai E (a + 3) 6 (upd (fun l => gv (12 + 4 * l)) (nI l).toNatClampNeg z) H') (h2 : but (a + 3) H H') : Gp E a (upd gv (12 + 4 * l) z) fs H' := by
  rw [nI_clamp (by omega)] at h1
  refine ⟨?_, ?_, ?_, ?_, ai_kept h.2.2.2.2 (h2.2 _ (by omega))⟩
  · rw [gfs_hi (by omega)]; exact ob_kept h.1 (h2.2 _ (by omega))
  · exact ai_congr (fun j hj => (pk_un (by omega)).symm) (ai_kept h.2.1 (h2.2 _ (by omega)))
  · exact ai_congr (fun j hj => (pk_un (by omega)).symm) (ai_kept h.2.2.1 (h2.2 _ (by omega)))
  · refine ai_congr (fun j hj => ?_) h1
    by_cases hjl : j = l
    · subst hjl; rw [pk_us, pk_us]
    · rw [pk_un hjl, pk_un (by omega)]
theorem Gp.w4 {E : Ev} {a : Nat} {gv fs : Nat → Int32} {H H' : Heap} {l : Nat} {z : Int32} (hl : l < 6) (h : Gp E a gv fs H) (h1 : ai E (a + 4) 6 (upd fs (nI l).toNatClampNeg z) H') (h2 : but (a + 4) H H') : Gp E a gv (upd fs l z) H' := by
  rw [nI_clamp (by omega)] at h1
  exact ⟨ob_kept h.1 (h2.2 _ (by omega)), ai_kept h.2.1 (h2.2 _ (by omega)), ai_kept h.2.2.1 (h2.2 _ (by omega)), ai_kept h.2.2.2.1 (h2.2 _ (by omega)), h1⟩
/-! Integer.bitCount -/
def us (z k : Int32) : Int32 := (z.toUInt32 >>> (k.toUInt32 &&& Int32.toUInt32 31)).toInt32
def bc1 (z : Int32) : Int32 := z - (us z 1 &&& 1431655765)
def bc2 (z : Int32) : Int32 := (z &&& 858993459) + (us z 2 &&& 858993459)
def bc3 (z : Int32) : Int32 := (z + us z 4) &&& 252645135
def bc4 (z : Int32) : Int32 := z + us z 8
def bc5 (z : Int32) : Int32 := z + us z 16
def bitC (z : Int32) : Int32 := bc5 (bc4 (bc3 (bc2 (bc1 z)))) &&& 63
set_option maxRecDepth 100000 in
set_option maxHeartbeats 4000000 in
theorem c_bitCount (l : Launch) (E : Ev) (z : Int32) (P : Heap → Prop) : Ct l E yJ6_bitCount_0f7a4 cJ6_bitCount_0f7a4 1 (some .int) (rm 1) [.int z] P (rV (some (.int (bitC z))) P) (fun _ => False) := by
  refine ct_start (by decide) [some (.int z)] rfl (Nat.le_of_ble_eq_true rfl) ?_
  intro x hF hN hA hR
  refine g_iload_n hF dJ6_bitCount_0f7a4_0 1 rfl rfl ?_
  refine g_iload_n hF dJ6_bitCount_0f7a4_1 2 rfl rfl ?_
  refine g_iconst hF (1) dJ6_bitCount_0f7a4_2 3 rfl rfl ?_
  refine g_iushr hF dJ6_bitCount_0f7a4_3 4 rfl ?_
  refine g_ldcw hF kc_J6_265 dJ6_bitCount_0f7a4_4 7 rfl ?_
  refine g_iand hF dJ6_bitCount_0f7a4_7 8 rfl ?_
  refine g_isub hF dJ6_bitCount_0f7a4_8 9 rfl ?_
  refine g_topi (fun w1 e1 => ?_)
  refine g_istore_n hF dJ6_bitCount_0f7a4_9 10 rfl (lo' := [_]) (Nat.le_of_ble_eq_true rfl) rfl ?_
  refine g_iload_n hF dJ6_bitCount_0f7a4_10 11 rfl rfl ?_
  refine g_ldcw hF kc_J6_266 dJ6_bitCount_0f7a4_11 14 rfl ?_
  refine g_iand hF dJ6_bitCount_0f7a4_14 15 rfl ?_
  refine g_iload_n hF dJ6_bitCount_0f7a4_15 16 rfl rfl ?_
  refine g_iconst hF (2) dJ6_bitCount_0f7a4_16 17 rfl rfl ?_
  refine g_iushr hF dJ6_bitCount_0f7a4_17 18 rfl ?_
  refine g_ldcw hF kc_J6_266 dJ6_bitCount_0f7a4_18 21 rfl ?_
  refine g_iand hF dJ6_bitCount_0f7a4_21 22 rfl ?_
  refine g_iadd hF dJ6_bitCount_0f7a4_22 23 rfl ?_
  refine g_topi (fun w2 e2 => ?_)
  refine g_istore_n hF dJ6_bitCount_0f7a4_23 24 rfl (lo' := [_]) (Nat.le_of_ble_eq_true rfl) rfl ?_
  refine g_iload_n hF dJ6_bitCount_0f7a4_24 25 rfl rfl ?_
  refine g_iload_n hF dJ6_bitCount_0f7a4_25 26 rfl rfl ?_
  refine g_iconst hF (4) dJ6_bitCount_0f7a4_26 27 rfl rfl ?_
  refine g_iushr hF dJ6_bitCount_0f7a4_27 28 rfl ?_
  refine g_iadd hF dJ6_bitCount_0f7a4_28 29 rfl ?_
  refine g_ldcw hF kc_J6_267 dJ6_bitCount_0f7a4_29 32 rfl ?_
  refine g_iand hF dJ6_bitCount_0f7a4_32 33 rfl ?_
  refine g_topi (fun w3 e3 => ?_)
  refine g_istore_n hF dJ6_bitCount_0f7a4_33 34 rfl (lo' := [_]) (Nat.le_of_ble_eq_true rfl) rfl ?_
  refine g_iload_n hF dJ6_bitCount_0f7a4_34 35 rfl rfl ?_
  refine g_iload_n hF dJ6_bitCount_0f7a4_35 36 rfl rfl ?_
  refine g_bipush hF (8) dJ6_bitCount_0f7a4_36 38 rfl rfl ?_
  refine g_iushr hF dJ6_bitCount_0f7a4_38 39 rfl ?_
  refine g_iadd hF dJ6_bitCount_0f7a4_39 40 rfl ?_
  refine g_topi (fun w4 e4 => ?_)
  refine g_istore_n hF dJ6_bitCount_0f7a4_40 41 rfl (lo' := [_]) (Nat.le_of_ble_eq_true rfl) rfl ?_
  refine g_iload_n hF dJ6_bitCount_0f7a4_41 42 rfl rfl ?_
  refine g_iload_n hF dJ6_bitCount_0f7a4_42 43 rfl rfl ?_
  refine g_bipush hF (16) dJ6_bitCount_0f7a4_43 45 rfl rfl ?_
  refine g_iushr hF dJ6_bitCount_0f7a4_45 46 rfl ?_
  refine g_iadd hF dJ6_bitCount_0f7a4_46 47 rfl ?_
  refine g_topi (fun w5 e5 => ?_)
  refine g_istore_n hF dJ6_bitCount_0f7a4_47 48 rfl (lo' := [_]) (Nat.le_of_ble_eq_true rfl) rfl ?_
  refine g_iload_n hF dJ6_bitCount_0f7a4_48 49 rfl rfl ?_
  refine g_bipush hF (63) dJ6_bitCount_0f7a4_49 51 rfl rfl ?_
  refine g_iand hF dJ6_bitCount_0f7a4_51 52 rfl ?_
  exact g_iret hF dJ6_bitCount_0f7a4_52 (Nat.le_of_ble_eq_true rfl) (Nat.le_of_ble_eq_true rfl) (fun H h => hR _ _ ⟨congrArg (fun z => some (Value.int z)) (by subst e5 e4 e3 e2 e1; rfl), h⟩)
set_option maxRecDepth 100000 in
set_option maxHeartbeats 4000000 in
theorem c_fill (l : Launch) (E : Ev) (a N : Nat) (f : Nat → Int32) (v : Int32) (hN0 : N < 2 ^ 31) : Ct l E yJ7_fill_53178 cJ7_fill_53178 4 none (rm 1) [.ref a, .int v] (ai E a N f) (rV none (ai E a N (fun _ => v))) (fun q => q = a) := by
  refine ct_start (by decide) [some (.ref a), some (.int v), none, none] rfl (Nat.le_of_ble_eq_true rfl) ?_
  intro x hF hN hA hR
  have loop : ∀ (n j : Nat) (g : Nat → Int32) (i : Int32), N - j < n → j ≤ N → (∀ i, i < j → g i = v) → i = nI j → go l (rm 1) E x 0 0 (ai E a N g) [some (.ref a), some (.int v), some (.int i), some (.int (nI N))] 5 [] := by
    intro n
    induction n with
    | zero => intro j g i h; omega
    | succ n ih =>
      intro j g i hn hj hg hi
      subst hi
      refine g_iload_n hF dJ7_fill_53178_5 6 rfl rfl ?_
      refine g_iload_n hF dJ7_fill_53178_6 7 rfl rfl ?_
      refine g_icmp_ge hF dJ7_fill_53178_7 10 rfl 20 (by decide) (fun c7 => ?_) (fun c7 => ?_)
      · exact g_vret hF dJ7_fill_53178_20 (Nat.le_of_ble_eq_true rfl) (Nat.le_of_ble_eq_true rfl) (fun H h => hR _ _ ⟨rfl, ai_congr (fun i hi => hg i (by have := i_le c7 hN0 (by omega); omega)) h⟩)
      · refine g_aload_n hF dJ7_fill_53178_10 11 rfl rfl ?_
        refine g_iload_n hF dJ7_fill_53178_11 12 rfl rfl ?_
        refine g_iload_n hF dJ7_fill_53178_12 13 rfl rfl ?_
        refine g_iast hF dJ7_fill_53178_13 14 rfl (fun H h => h) (vp_in_nI (show j < N from i_nle c7 hN0 (by omega)) hN0) (hA _ rfl) (Pr' := ai E a N (upd g j v)) (fun H H' h h1 h2 => by rw [nI_clamp (by omega)] at h1; exact h1) ?_
        refine g_iinc hF dJ7_fill_53178_14 17 rfl (1) rfl (lo' := [_, _, _, _]) rfl rfl ?_
        refine g_goto hF dJ7_fill_53178_17 5 (by decide) ?_
        have hlt : j < N := i_nle c7 hN0 (by omega)
        exact ih (j + 1) _ _ (by omega) (by omega) (fun i hi => if h : i = j then h ▸ pk_us else (pk_un h).trans (hg i (by omega))) (nI_succ j).symm
  refine g_iconst hF (0) dJ7_fill_53178_0 1 rfl rfl ?_
  refine g_istore_n hF dJ7_fill_53178_1 2 rfl (lo' := [_, _, _, _]) (Nat.le_of_ble_eq_true rfl) rfl ?_
  refine g_aload_n hF dJ7_fill_53178_2 3 rfl rfl ?_
  refine g_alen hF dJ7_fill_53178_3 4 rfl (fun H h => h) ?_
  refine g_istore_n hF dJ7_fill_53178_4 5 rfl (lo' := [_, _, _, _]) (Nat.le_of_ble_eq_true rfl) rfl ?_
  exact loop (N + 1) 0 f 0 (by omega) (by omega) (fun i hi => by omega) nI_0.symm
/-! Group's own methods -/
def sSet (gv : Nat → Int32) (w : Int32) : Nat → Int32
  | 0 => 0
  | k + 1 => if gv (10 + 4 * k) = w then sSet gv w k ||| (1 <<< (nI k &&& 31)) else sSet gv w k
set_option maxRecDepth 100000 in
set_option maxHeartbeats 4000000 in
theorem c_G_setOf (l : Launch) (E : Ev) (a : Nat) (gv fs : Nat → Int32) (w : Int32) (N : Nat) (hn0 : gv 0 = nI N) (hn6 : N ≤ 6) : Ct l E yX3_setOf cX3_setOf 4 (some .int) (rm 1) [.ref a, .int w] (Gp E a gv fs) (rV (some (.int (sSet gv w N))) (Gp E a gv fs)) (fun _ => False) := by
  refine ct_start (by decide) [some (.ref a), some (.int w), none, none] rfl (Nat.le_of_ble_eq_true rfl) ?_
  intro x hF hN hA hR
  have loop : ∀ (n j : Nat) (s i : Int32), N - j < n → j ≤ N → s = sSet gv w j → i = nI j → go l (rm 1) E x 0 0 (Gp E a gv fs) [some (.ref a), some (.int w), some (.int s), some (.int i)] 4 [] := by
    intro n
    induction n with
    | zero => intro j s i h; omega
    | succ n ih =>
      intro j s i hn hj hs hi
      subst hi
      have hcl : (nI j).toNatClampNeg = j := nI_clamp (by omega)
      refine g_iload_n hF dX3_setOf_4 5 rfl rfl ?_
      refine g_aload_n hF dX3_setOf_5 6 rfl rfl ?_
      refine g_get hF fl_X3_24 dX3_setOf_6 9 rfl (by intro H h; first | exact h.1 | exact h.2.1 | exact h.2.2.1 | exact h.2.2.2.1 | exact h.2.2.2.2) rfl ?_
      refine g_icmp_ge hF dX3_setOf_9 12 rfl 34 (by decide) (fun c9 => ?_) (fun c9 => ?_)
      · refine g_iload_n hF dX3_setOf_34 35 rfl rfl ?_
        exact g_iret hF dX3_setOf_35 (Nat.le_of_ble_eq_true rfl) (Nat.le_of_ble_eq_true rfl) (fun H h => hR _ _ ⟨congrArg (fun z => some (Value.int z)) (by have := i_le (hn0 ▸ c9) (by omega) (by omega); rw [hs, show j = N by omega]), h⟩)
      · have hlt : j < N := i_nle (hn0 ▸ c9) (by omega) (by omega)
        refine g_aload_n hF dX3_setOf_12 13 rfl rfl ?_
        refine g_get hF fl_X3_9 dX3_setOf_13 16 rfl (by intro H h; first | exact h.1 | exact h.2.1 | exact h.2.2.1 | exact h.2.2.2.1 | exact h.2.2.2.2) rfl ?_
        refine g_iload_n hF dX3_setOf_16 17 rfl rfl ?_
        refine g_iald hF dX3_setOf_17 18 rfl (by intro H h; first | exact h.1 | exact h.2.1 | exact h.2.2.1 | exact h.2.2.2.1 | exact h.2.2.2.2) (vp_in_nI (show j < 6 by omega) (by omega)) ?_
        refine g_iload_n hF dX3_setOf_18 19 rfl rfl ?_
        refine g_icmp_ne hF dX3_setOf_19 22 rfl 28 (by decide) (fun c19 => ?_) (fun c19 => ?_)
        · rw [hcl] at c19
          refine g_iinc hF dX3_setOf_28 31 rfl (1) rfl (lo' := [_, _, _, _]) rfl rfl ?_
          refine g_goto hF dX3_setOf_31 4 (by decide) ?_
          exact ih (j + 1) _ _ (by omega) (by omega) (by simp only [sSet, hs, c19, if_true, if_false]) (nI_succ j).symm
        · refine g_iload_n hF dX3_setOf_22 23 rfl rfl ?_
          refine g_iconst hF (1) dX3_setOf_23 24 rfl rfl ?_
          refine g_iload_n hF dX3_setOf_24 25 rfl rfl ?_
          refine g_ishl hF dX3_setOf_25 26 rfl ?_
          refine g_ior hF dX3_setOf_26 27 rfl ?_
          refine g_istore_n hF dX3_setOf_27 28 rfl (lo' := [_, _, _, _]) (Nat.le_of_ble_eq_true rfl) rfl ?_
          rw [hcl] at c19
          refine g_iinc hF dX3_setOf_28 31 rfl (1) rfl (lo' := [_, _, _, _]) rfl rfl ?_
          refine g_goto hF dX3_setOf_31 4 (by decide) ?_
          exact ih (j + 1) _ _ (by omega) (by omega) (by simp only [sSet, hs, c19, if_true, if_false]) (nI_succ j).symm
  refine g_iconst hF (0) dX3_setOf_0 1 rfl rfl ?_
  refine g_istore_n hF dX3_setOf_1 2 rfl (lo' := [_, _, _, _]) (Nat.le_of_ble_eq_true rfl) rfl ?_
  refine g_iconst hF (0) dX3_setOf_2 3 rfl rfl ?_
  refine g_istore_n hF dX3_setOf_3 4 rfl (lo' := [_, _, _, _]) (Nat.le_of_ble_eq_true rfl) rfl ?_
  exact loop (N + 1) 0 0 0 (by omega) (by omega) rfl nI_0.symm
end
section
/-! Group: counting, choosing, writing, copying -/
theorem wd_ac1 : Cond.methodLink RX3 64 arraycopyName ∈ tG := tm2 (List.mem_of_getElem? (i := 200) rfl) rfl
theorem wd_ac2 : Cond.static arraycopyName ∈ tG := tm2 (List.mem_of_getElem? (i := 201) rfl) rfl
theorem wd_ac3 : Cond.native arraycopyName ∈ tG := tm2 (List.mem_of_getElem? (i := 202) rfl) rfl
theorem wd_ac4 : Cond.initialized "java/lang/System" ∈ tG := tm1 (List.mem_of_getElem? (i := 15) rfl) rfl
section GC
variable {l : Launch} {R : Room} {E : Ev} {x : Cx} {k n : Nat} {Pr Pr' : Heap → Prop} {lo : List (Option Value)} {pc : Nat} {st : List Value} {cc : ByteArray} {rt : Option FieldType} {nL : Nat}
/-- System.arraycopy of six ints from the first on -/
theorem g_copy6 (hF : fx E x RX3 cc rt nL) {a0 a : Nat} {f g : Nat → Int32} (d : decode cc pc = .ok (.invokestatic 64, 3)) (q : Nat) (hq : pc + 3 = q) (rd0 : ∀ H, Pr H → ai E a0 6 f H) (rd1 : ∀ H, Pr H → ai E a 6 g H) (hA : arx x a) (hfr : 1 ≤ R.frames) (hlo : (st.map fun v => v.category).sum + (nativeFrameWords "java/lang/System" "arraycopy" 5 + 11) ≤ R.locals) (hlen : lo.length = nL)
    (wr : ∀ H H', Pr H → ai E a 6 f H' → but a H H' → Pr' H') (h : go l R E x k n Pr' lo q st) : go l R E x k n Pr lo pc (.int 6 :: .int 0 :: .ref a :: .int 0 :: .ref a0 :: st) := by
  obtain ⟨p, e, s, m, args, below, meth, c, A, Rt⟩ := x
  subst hq
  intro H ls locs hP hl hS T hT X
  have hts := hF.2.2.2.2.1
  have hc0 : H[a0]? = some (vp_cell E.2.1 (6, .inl f)) := rd0 H hP
  have hc1 : H[a]? = some (vp_cell E.2.1 (6, .inl g)) := rd1 H hP
  obtain ⟨-, k0, hk0, cm0, hkk0⟩ := (hF.2.2.2.2.2.1.1.2 0 _ rfl).1 6 (fun j => .int (f j))
  have z6 : (6 : Int32).toNatClampNeg = 6 := by decide
  have z0 : (0 : Int32).toNatClampNeg = 0 := by decide
  obtain ⟨vm', X', step⟩ := X.arraycopy hF.1 hF.2.2.2.1 (hts _ wd_ac1) (hts _ wd_ac3) (hts _ wd_ac2) (hts _ wd_ac4) (src := a0) (dst := a) (cs := vp_cell E.2.1 (6, .inl f)) (cd := vp_cell E.2.1 (6, .inl g)) (srcPos := 0) (destPos := 0) (n := 6) (by rw [hT]; exact hc0) (by rw [hT]; exact hc1)
    (fun _ h => by cases h) (fun _ h => by cases h) (fun h => by cases h) (fun h => by cases h) hk0 hk0 hkk0 hkk0 rfl (by decide) (by decide) (by decide)
    (by show ¬ _ > ((arrV E.2.1 6 (fun j => .int (f j))).slots.size : Int); rw [arrV_size]; decide)
    (by show ¬ _ > ((arrV E.2.1 6 (fun j => .int (g j))).slots.size : Int); rw [arrV_size]; decide)
    (fun vm₁ _ i hi => by
      have e : (vp_cell E.2.1 (6, .inl f)).slots.getD ((0 : Int32).toNatClampNeg + i) .null = .int (f i) := by
        show (arrV E.2.1 6 (fun j => .int (f j))).slots.getD _ _ = _
        rw [z6] at hi
        rw [z0, Nat.zero_add, Array.getD_eq_getD_getElem?, arrV_read _ _ hi]
        rfl
      rw [e]
      exact ⟨rfl, trivial⟩)
    (g := F0 m pc ls (.int 6 :: .int 0 :: .ref a :: .int 0 :: .ref a0 :: st)) rfl (by show ls.size = _; rw [hl.1, hlen]; exact hF.2.2.1.symm) (rest := st) rfl (by rw [hF.2.1]; exact d) hfr (by show 2 * 0 + _ + _ ≤ _; omega)
  have e1 : copied (vp_cell E.2.1 (6, .inl f)) (vp_cell E.2.1 (6, .inl g)) 0 0 6 = vp_cell E.2.1 (6, .inl (va_cpy f g (0 : Int32).toNatClampNeg (0 : Int32).toNatClampNeg (6 : Int32).toNatClampNeg)) := va_copied (fun z => .int z) E.2.1 E.2.1 f g (by rw [z0, z6]; exact Nat.le_refl 6)
  rw [e1, z0, z6] at X' step
  have hla : a < H.size := (Array.getElem?_eq_some_iff.mp hc1).1
  have hheap : ((T.setVm vm').setCell a (vp_cell E.2.1 (6, .inl (va_cpy f g 0 0 6)))).heap = H.setIfInBounds a (vp_cell E.2.1 (6, .inl (va_cpy f g 0 0 6))) := by rw [← hT]; rfl
  have oq : ∀ q : Nat, q ≠ a → (H.setIfInBounds a (vp_cell E.2.1 (6, .inl (va_cpy f g 0 0 6))))[q]? = H[q]? := fun q hq => by simp [Array.getElem?_setIfInBounds, Ne.symm hq]
  have hnew : ai E a 6 f (H.setIfInBounds a (vp_cell E.2.1 (6, .inl (va_cpy f g 0 0 6)))) := by
    refine ai_congr (f := va_cpy f g 0 0 6) (fun j hj => ?_) (show (H.setIfInBounds a _)[a]? = some _ by simp [Array.getElem?_setIfInBounds, hla])
    rw [pk_cpy_in (by omega) (by omega)]
    congr 1
    omega
  obtain ⟨t, a1, b1⟩ := h (H.setIfInBounds a (vp_cell E.2.1 (6, .inl (va_cpy f g 0 0 6)))) ls _ (wr H _ hP hnew ⟨by simp, oq⟩) hl ⟨by simp; exact hS.1, fun q g1 g2 => by
      rw [oq q (fun e => g2 (by rw [e]; exact hA))]
      exact hS.2.1 q g1 g2, fun q hq => by
      rcases List.mem_append.mp hq with h | h
      · exact hS.2.2 q h
      · obtain ⟨z, -, hz⟩ := List.mem_map.mp h
        rw [← hz]
        exact hA⟩ _ hheap X'
  exact ⟨t, step t a1, b1⟩
end GC
theorem i_sub1 (z : Int32) : z - 1 = z + (-1) := by rw [Int32.sub_eq_add_neg]
set_option maxRecDepth 100000 in
set_option maxHeartbeats 4000000 in
theorem c_G_count (l : Launch) (E : Ev) (a : Nat) (gv fs : Nat → Int32) (w : Int32) (N : Nat) (hn0 : gv 0 = nI N) (hn6 : N ≤ 6) : Ct l E yX3_count cX3_count 2 (some .int) (rm 2) [.ref a, .int w] (Gp E a gv fs) (rV (some (.int (bitC (sSet gv w N)))) (Gp E a gv fs)) (fun _ => False) := by
  refine ct_start (by decide) [some (.ref a), some (.int w)] rfl (Nat.le_of_ble_eq_true rfl) ?_
  intro x hF hN hA hR
  refine g_aload_n hF dX3_count_0 1 rfl rfl ?_
  refine g_iload_n hF dX3_count_1 2 rfl rfl ?_
  refine g_callV hF cv_X3_70 (c_G_setOf l E a gv fs w N hn0 hn6) dX3_count_2 5 rfl (st := []) rfl rfl ⟨Nat.le_of_ble_eq_true rfl, Nat.le_of_ble_eq_true rfl⟩ ⟨Nat.le_of_ble_eq_true rfl, Nat.le_of_ble_eq_true rfl⟩ rfl (Nat.le_of_ble_eq_true rfl) 3 rfl (by intro H h; first | exact h.1 | exact h.2.1 | exact h.2.2.1 | exact h.2.2.2.1 | exact h.2.2.2.2) (Pr' := _) (fun _ h => h) (hA) (fun _ _ _ h _ => h) (st1 := [_]) rfl (k1 := 0) (n1 := 0) rfl rfl ?_
  refine g_callS hF cs_X3_74 (c_bitCount l E (sSet gv w N) (Gp E a gv fs)) dX3_count_5 8 rfl (st := []) rfl rfl ⟨Nat.le_of_ble_eq_true rfl, Nat.le_of_ble_eq_true rfl⟩ ⟨Nat.le_of_ble_eq_true rfl, Nat.le_of_ble_eq_true rfl⟩ rfl (Nat.le_of_ble_eq_true rfl) (Pr' := _) (fun _ h => h) (hA) (fun _ _ _ h _ => h) (st1 := [_]) rfl (k1 := 0) (n1 := 0) rfl rfl ?_
  exact g_iret hF dX3_count_8 (Nat.le_of_ble_eq_true rfl) (Nat.le_of_ble_eq_true rfl) (fun H h => hR _ _ ⟨congrArg (fun z => some (Value.int z)) (rfl), h⟩)
set_option maxRecDepth 100000 in
set_option maxHeartbeats 4000000 in
theorem c_G_hasLine (l : Launch) (E : Ev) (a : Nat) (gv fs : Nat → Int32) (z : Int32) : Ct l E yX3_hasLine cX3_hasLine 2 (some .boolean) (rm 1) [.ref a, .int z] (Gp E a gv fs) (rV (some (.int (if 0 ≤ z ∧ z < gv 0 then 1 else 0))) (Gp E a gv fs)) (fun _ => False) := by
  refine ct_start (by decide) [some (.ref a), some (.int z)] rfl (Nat.le_of_ble_eq_true rfl) ?_
  intro x hF hN hA hR
  have J : ∀ v : Int32, (v = 0 ∨ v = 1) → v = (if 0 ≤ z ∧ z < gv 0 then 1 else 0) → go l (rm 1) E x 0 0 (Gp E a gv fs) [some (.ref a), some (.int z)] 17 [.int v] := by
    intro v hv he
    exact g_zret hF (by rcases hv with rfl | rfl <;> rfl) dX3_hasLine_17 (Nat.le_of_ble_eq_true rfl) (Nat.le_of_ble_eq_true rfl) (fun H h => hR _ _ ⟨congrArg (fun z => some (Value.int z)) (he), h⟩)
  refine g_iload_n hF dX3_hasLine_0 1 rfl rfl ?_
  refine g_if_lt hF dX3_hasLine_1 4 rfl 16 (by decide) (fun c1 => ?_) (fun c1 => ?_)
  · refine g_iconst hF (0) dX3_hasLine_16 17 rfl rfl ?_
    first | exact J 0 (Or.inl rfl) (if_neg (fun h => absurd h.1 (Int32.not_le.mpr c1))).symm | exact J 0 (Or.inl rfl) (if_neg (fun h => absurd h.2 (Int32.not_lt.mpr c9))).symm | exact J 1 (Or.inr rfl) (if_pos ⟨Int32.not_lt.mp c1, Int32.not_le.mp c9⟩).symm
  · refine g_iload_n hF dX3_hasLine_4 5 rfl rfl ?_
    refine g_aload_n hF dX3_hasLine_5 6 rfl rfl ?_
    refine g_get hF fl_X3_24 dX3_hasLine_6 9 rfl (by intro H h; first | exact h.1 | exact h.2.1 | exact h.2.2.1 | exact h.2.2.2.1 | exact h.2.2.2.2) rfl ?_
    refine g_icmp_ge hF dX3_hasLine_9 12 rfl 16 (by decide) (fun c9 => ?_) (fun c9 => ?_)
    · refine g_iconst hF (0) dX3_hasLine_16 17 rfl rfl ?_
      first | exact J 0 (Or.inl rfl) (if_neg (fun h => absurd h.1 (Int32.not_le.mpr c1))).symm | exact J 0 (Or.inl rfl) (if_neg (fun h => absurd h.2 (Int32.not_lt.mpr c9))).symm | exact J 1 (Or.inr rfl) (if_pos ⟨Int32.not_lt.mp c1, Int32.not_le.mp c9⟩).symm
    · refine g_iconst hF (1) dX3_hasLine_12 13 rfl rfl ?_
      refine g_goto hF dX3_hasLine_13 17 (by decide) ?_
      first | exact J 0 (Or.inl rfl) (if_neg (fun h => absurd h.1 (Int32.not_le.mpr c1))).symm | exact J 0 (Or.inl rfl) (if_neg (fun h => absurd h.2 (Int32.not_lt.mpr c9))).symm | exact J 1 (Or.inr rfl) (if_pos ⟨Int32.not_lt.mp c1, Int32.not_le.mp c9⟩).symm
/-- the first free line in the ring from s on, of N, with so many steps left -/
def fFrom (gv : Nat → Int32) (N s : Nat) : Nat → Nat → Int32
  | 0, _ => -1
  | d + 1, i => if gv (10 + 4 * ((s + i) % N)) = 0 then nI ((s + i) % N) else fFrom gv N s d (i + 1)
set_option maxRecDepth 100000 in
set_option maxHeartbeats 4000000 in
theorem c_G_firstFreeFrom (l : Launch) (E : Ev) (a : Nat) (gv fs : Nat → Int32) (N s : Nat) (hn0 : gv 0 = nI N) (hn1 : 1 ≤ N) (hn6 : N ≤ 6) (hs : s ≤ 6) : Ct l E yX3_firstFreeFrom cX3_firstFreeFrom 4 (some .int) (rm 1) [.ref a, .int (nI s)] (Gp E a gv fs) (rV (some (.int (fFrom gv N s N 0))) (Gp E a gv fs)) (fun _ => False) := by
  refine ct_start (by decide) [some (.ref a), some (.int (nI s)), none, none] rfl (Nat.le_of_ble_eq_true rfl) ?_
  intro x hF hN hA hR
  have loop : ∀ (n j : Nat) (i : Int32), N - j < n → j ≤ N → i = nI j → fFrom gv N s N 0 = fFrom gv N s (N - j) j → go l (rm 1) E x 0 0 (Gp E a gv fs) [some (.ref a), some (.int (nI s)), some (.int i), none] 2 [] := by
    intro n
    induction n with
    | zero => intro j i h; omega
    | succ n ih =>
      intro j i hn hj hi hv
      subst hi
      have hm : (s + j) % N < N := Nat.mod_lt _ (by omega)
      have hcl : (nI ((s + j) % N)).toNatClampNeg = (s + j) % N := nI_clamp (by omega)
      refine g_iload_n hF dX3_firstFreeFrom_2 3 rfl rfl ?_
      refine g_aload_n hF dX3_firstFreeFrom_3 4 rfl rfl ?_
      refine g_get hF fl_X3_24 dX3_firstFreeFrom_4 7 rfl (by intro H h; first | exact h.1 | exact h.2.1 | exact h.2.2.1 | exact h.2.2.2.1 | exact h.2.2.2.2) rfl ?_
      refine g_icmp_ge hF dX3_firstFreeFrom_7 10 rfl 36 (by decide) (fun c7 => ?_) (fun c7 => ?_)
      · refine g_iconst hF (-1) dX3_firstFreeFrom_36 37 rfl rfl ?_
        exact g_iret hF dX3_firstFreeFrom_37 (Nat.le_of_ble_eq_true rfl) (Nat.le_of_ble_eq_true rfl) (fun H h => hR _ _ ⟨congrArg (fun z => some (Value.int z)) (by have := i_le (hn0 ▸ c7) (by omega) (by omega); rw [hv, show N - j = 0 by omega]; rfl), h⟩)
      · have hlt : j < N := i_nle (hn0 ▸ c7) (by omega) (by omega)
        obtain ⟨d, hd⟩ : ∃ d, N - j = d + 1 := ⟨N - j - 1, by omega⟩
        rw [hd] at hv
        refine g_iload_n hF dX3_firstFreeFrom_10 11 rfl rfl ?_
        refine g_iload_n hF dX3_firstFreeFrom_11 12 rfl rfl ?_
        refine g_iadd hF dX3_firstFreeFrom_12 13 rfl ?_
        refine g_aload_n hF dX3_firstFreeFrom_13 14 rfl rfl ?_
        refine g_get hF fl_X3_24 dX3_firstFreeFrom_14 17 rfl (by intro H h; first | exact h.1 | exact h.2.1 | exact h.2.2.1 | exact h.2.2.2.1 | exact h.2.2.2.2) rfl ?_
        refine g_irem hF dX3_firstFreeFrom_17 18 rfl (by rw [hn0]; exact nI_ne0 (by omega) (by omega)) ?_
        rw [hn0, nI_add, pk_rem (by omega) (by omega) (by omega)]
        refine g_istore_n hF dX3_firstFreeFrom_18 19 rfl (lo' := [_, _, _, _]) (Nat.le_of_ble_eq_true rfl) rfl ?_
        refine g_aload_n hF dX3_firstFreeFrom_19 20 rfl rfl ?_
        refine g_get hF fl_X3_9 dX3_firstFreeFrom_20 23 rfl (by intro H h; first | exact h.1 | exact h.2.1 | exact h.2.2.1 | exact h.2.2.2.1 | exact h.2.2.2.2) rfl ?_
        refine g_iload_n hF dX3_firstFreeFrom_23 24 rfl rfl ?_
        refine g_iald hF dX3_firstFreeFrom_24 25 rfl (by intro H h; first | exact h.1 | exact h.2.1 | exact h.2.2.1 | exact h.2.2.2.1 | exact h.2.2.2.2) (vp_in_nI (show (s + j) % N < 6 by omega) (by omega)) ?_
        refine g_if_ne hF dX3_firstFreeFrom_25 28 rfl 30 (by decide) (fun c25 => ?_) (fun c25 => ?_)
        · rw [hcl] at c25
          refine g_iinc hF dX3_firstFreeFrom_30 33 rfl (1) rfl (lo' := [_, _, _, _]) rfl rfl ?_
          refine g_goto hF dX3_firstFreeFrom_33 2 (by decide) ?_
          refine g_cut [true, true, true, false] (lo' := [_, _, _, _]) rfl ?_
          exact ih (j + 1) _ (by omega) (by omega) (nI_succ j).symm (by rw [hv, show N - (j + 1) = d by omega]; exact if_neg c25)
        · rw [hcl] at c25
          refine g_iload_n hF dX3_firstFreeFrom_28 29 rfl rfl ?_
          exact g_iret hF dX3_firstFreeFrom_29 (Nat.le_of_ble_eq_true rfl) (Nat.le_of_ble_eq_true rfl) (fun H h => hR _ _ ⟨congrArg (fun z => some (Value.int z)) (by rw [hv]; exact (if_pos c25).symm), h⟩)
  refine g_iconst hF (0) dX3_firstFreeFrom_0 1 rfl rfl ?_
  refine g_istore_n hF dX3_firstFreeFrom_1 2 rfl (lo' := [_, _, _, _]) (Nat.le_of_ble_eq_true rfl) rfl ?_
  exact loop (N + 1) 0 0 (by omega) (by omega) nI_0.symm rfl
def fLast (gv : Nat → Int32) : Nat → Int32
  | 0 => -1
  | j + 1 => if gv (10 + 4 * j) = 0 then nI j else fLast gv j
set_option maxRecDepth 100000 in
set_option maxHeartbeats 4000000 in
theorem c_G_lastFree (l : Launch) (E : Ev) (a : Nat) (gv fs : Nat → Int32) (N : Nat) (hn0 : gv 0 = nI N) (hn6 : N ≤ 6) : Ct l E yX3_lastFree cX3_lastFree 2 (some .int) (rm 1) [.ref a] (Gp E a gv fs) (rV (some (.int (fLast gv N))) (Gp E a gv fs)) (fun _ => False) := by
  refine ct_start (by decide) [some (.ref a), none] rfl (Nat.le_of_ble_eq_true rfl) ?_
  intro x hF hN hA hR
  have loop : ∀ (j : Nat) (i : Int32), j ≤ 6 → i = nI j + (-1) → fLast gv N = fLast gv j → go l (rm 1) E x 0 0 (Gp E a gv fs) [some (.ref a), some (.int i)] 7 [] := by
    intro j
    induction j with
    | zero =>
      intro i hj hi hv
      subst hi
      refine g_iload_n hF dX3_lastFree_7 8 rfl rfl ?_
      refine g_if_lt hF dX3_lastFree_8 11 rfl 28 (by decide) (fun _ => ?_) (fun c => absurd ((by decide)) c)
      refine g_iconst hF (-1) dX3_lastFree_28 29 rfl rfl ?_
      exact g_iret hF dX3_lastFree_29 (Nat.le_of_ble_eq_true rfl) (Nat.le_of_ble_eq_true rfl) (fun H h => hR _ _ ⟨congrArg (fun z => some (Value.int z)) (hv.symm), h⟩)
    | succ j ih =>
      intro i hj hi hv
      have hi2 : i = nI j := by rw [hi]; exact pk_m1 j
      subst hi2
      have hcl : (nI j).toNatClampNeg = j := nI_clamp (by omega)
      refine g_iload_n hF dX3_lastFree_7 8 rfl rfl ?_
      refine g_if_lt hF dX3_lastFree_8 11 rfl 28 (by decide) (fun c => absurd c (nI_pos (by omega))) (fun _ => ?_)
      refine g_aload_n hF dX3_lastFree_11 12 rfl rfl ?_
      refine g_get hF fl_X3_9 dX3_lastFree_12 15 rfl (by intro H h; first | exact h.1 | exact h.2.1 | exact h.2.2.1 | exact h.2.2.2.1 | exact h.2.2.2.2) rfl ?_
      refine g_iload_n hF dX3_lastFree_15 16 rfl rfl ?_
      refine g_iald hF dX3_lastFree_16 17 rfl (by intro H h; first | exact h.1 | exact h.2.1 | exact h.2.2.1 | exact h.2.2.2.1 | exact h.2.2.2.2) (vp_in_nI (show j < 6 by omega) (by omega)) ?_
      refine g_if_ne hF dX3_lastFree_17 20 rfl 22 (by decide) (fun c17 => ?_) (fun c17 => ?_)
      · rw [hcl] at c17
        refine g_iinc hF dX3_lastFree_22 25 rfl (-1) rfl (lo' := [_, _]) rfl rfl ?_
        refine g_goto hF dX3_lastFree_25 7 (by decide) ?_
        exact ih _ (by omega) rfl (by rw [hv]; exact if_neg c17)
      · rw [hcl] at c17
        refine g_iload_n hF dX3_lastFree_20 21 rfl rfl ?_
        exact g_iret hF dX3_lastFree_21 (Nat.le_of_ble_eq_true rfl) (Nat.le_of_ble_eq_true rfl) (fun H h => hR _ _ ⟨congrArg (fun z => some (Value.int z)) (by rw [hv]; exact (if_pos c17).symm), h⟩)
  refine g_aload_n hF dX3_lastFree_0 1 rfl rfl ?_
  refine g_get hF fl_X3_24 dX3_lastFree_1 4 rfl (by intro H h; first | exact h.1 | exact h.2.1 | exact h.2.2.1 | exact h.2.2.2.1 | exact h.2.2.2.2) rfl ?_
  refine g_iconst hF (1) dX3_lastFree_4 5 rfl rfl ?_
  refine g_isub hF dX3_lastFree_5 6 rfl ?_
  rw [hn0, i_sub1]
  refine g_istore_n hF dX3_lastFree_6 7 rfl (lo' := [_, _]) (Nat.le_of_ble_eq_true rfl) rfl ?_
  exact loop N _ hn6 rfl rfl
/-- of the free lines the one with the least key, of like ones the first -/
def fLg (sv key : Nat → Int32) : Nat → Int32
  | 0 => -1
  | j + 1 => if sv j = 0 ∧ (fLg sv key j = -1 ∨ key j < key (fLg sv key j).toNatClampNeg) then nI j else fLg sv key j
theorem fLg_rng (sv key : Nat → Int32) : ∀ j, fLg sv key j = -1 ∨ ∃ t, t < j ∧ fLg sv key j = nI t ∧ sv t = 0
  | 0 => Or.inl rfl
  | j + 1 => by
    rcases fLg_rng sv key j with h | ⟨t, h1, h2, h3⟩ <;> by_cases hc : sv j = 0 ∧ (fLg sv key j = -1 ∨ key j < key (fLg sv key j).toNatClampNeg)
    · exact Or.inr ⟨j, by omega, if_pos hc, hc.1⟩
    · exact Or.inl ((if_neg hc).trans h)
    · exact Or.inr ⟨j, by omega, if_pos hc, hc.1⟩
    · exact Or.inr ⟨t, by omega, (if_neg hc).trans h2, h3⟩
set_option maxRecDepth 100000 in
set_option maxHeartbeats 4000000 in
theorem c_G_longestFree (l : Launch) (E : Ev) (a : Nat) (gv fs : Nat → Int32) (N : Nat) (hn0 : gv 0 = nI N) (hn6 : N ≤ 6) : Ct l E yX3_longestFree cX3_longestFree 3 (some .int) (rm 1) [.ref a] (Gp E a gv fs) (rV (some (.int (fLg (fun l => gv (10 + 4 * l)) fs N))) (Gp E a gv fs)) (fun _ => False) := by
  refine ct_start (by decide) [some (.ref a), none, none] rfl (Nat.le_of_ble_eq_true rfl) ?_
  intro x hF hN hA hR
  have loop : ∀ (n j : Nat) (b i : Int32), N - j < n → j ≤ N → i = nI j → b = fLg (fun l => gv (10 + 4 * l)) fs j → go l (rm 1) E x 0 0 (Gp E a gv fs) [some (.ref a), some (.int b), some (.int i)] 4 [] := by
    intro n
    induction n with
    | zero => intro j b i h; omega
    | succ n ih =>
      intro j b i hn hj hi hb
      subst hi
      have hcl : (nI j).toNatClampNeg = j := nI_clamp (by omega)
      refine g_iload_n hF dX3_longestFree_4 5 rfl rfl ?_
      refine g_aload_n hF dX3_longestFree_5 6 rfl rfl ?_
      refine g_get hF fl_X3_24 dX3_longestFree_6 9 rfl (by intro H h; first | exact h.1 | exact h.2.1 | exact h.2.2.1 | exact h.2.2.2.1 | exact h.2.2.2.2) rfl ?_
      refine g_icmp_ge hF dX3_longestFree_9 12 rfl 49 (by decide) (fun c9 => ?_) (fun c9 => ?_)
      · refine g_iload_n hF dX3_longestFree_49 50 rfl rfl ?_
        exact g_iret hF dX3_longestFree_50 (Nat.le_of_ble_eq_true rfl) (Nat.le_of_ble_eq_true rfl) (fun H h => hR _ _ ⟨congrArg (fun z => some (Value.int z)) (by have := i_le (hn0 ▸ c9) (by omega) (by omega); rw [hb, show j = N by omega]), h⟩)
      · have hlt : j < N := i_nle (hn0 ▸ c9) (by omega) (by omega)
        refine g_aload_n hF dX3_longestFree_12 13 rfl rfl ?_
        refine g_get hF fl_X3_9 dX3_longestFree_13 16 rfl (by intro H h; first | exact h.1 | exact h.2.1 | exact h.2.2.1 | exact h.2.2.2.1 | exact h.2.2.2.2) rfl ?_
        refine g_iload_n hF dX3_longestFree_16 17 rfl rfl ?_
        refine g_iald hF dX3_longestFree_17 18 rfl (by intro H h; first | exact h.1 | exact h.2.1 | exact h.2.2.1 | exact h.2.2.2.1 | exact h.2.2.2.2) (vp_in_nI (show j < 6 by omega) (by omega)) ?_
        rw [hcl]
        refine g_if_ne hF dX3_longestFree_18 21 rfl 43 (by decide) (fun c18 => ?_) (fun c18 => ?_)
        · refine g_iinc hF dX3_longestFree_43 46 rfl (1) rfl (lo' := [_, _, _]) rfl rfl ?_
          refine g_goto hF dX3_longestFree_46 4 (by decide) ?_
          subst hb
          exact ih (j + 1) _ _ (by omega) (by omega) (nI_succ j).symm (if_neg (fun h => c18 h.1)).symm
        · refine g_iload_n hF dX3_longestFree_21 22 rfl rfl ?_
          refine g_iconst hF (-1) dX3_longestFree_22 23 rfl rfl ?_
          refine g_icmp_eq hF dX3_longestFree_23 26 rfl 41 (by decide) (fun c23 => ?_) (fun c23 => ?_)
          · refine g_iload_n hF dX3_longestFree_41 42 rfl rfl ?_
            refine g_istore_n hF dX3_longestFree_42 43 rfl (lo' := [_, _, _]) (Nat.le_of_ble_eq_true rfl) rfl ?_
            refine g_iinc hF dX3_longestFree_43 46 rfl (1) rfl (lo' := [_, _, _]) rfl rfl ?_
            refine g_goto hF dX3_longestFree_46 4 (by decide) ?_
            subst hb
            exact ih (j + 1) _ _ (by omega) (by omega) (nI_succ j).symm (if_pos ⟨c18, Or.inl c23⟩).symm
          · have hbr : vp_in b 6 := by rcases fLg_rng (fun l => gv (10 + 4 * l)) fs j with h | ⟨t, h1, h2, -⟩; exact absurd (hb.trans h) c23; rw [hb, h2]; exact vp_in_nI (by omega) (by omega)
            refine g_aload_n hF dX3_longestFree_26 27 rfl rfl ?_
            refine g_get hF fl_X3_21 dX3_longestFree_27 30 rfl (by intro H h; first | exact h.1 | exact h.2.1 | exact h.2.2.1 | exact h.2.2.2.1 | exact h.2.2.2.2) rfl ?_
            refine g_iload_n hF dX3_longestFree_30 31 rfl rfl ?_
            refine g_iald hF dX3_longestFree_31 32 rfl (by intro H h; first | exact h.1 | exact h.2.1 | exact h.2.2.1 | exact h.2.2.2.1 | exact h.2.2.2.2) (vp_in_nI (show j < 6 by omega) (by omega)) ?_
            rw [hcl]
            refine g_aload_n hF dX3_longestFree_32 33 rfl rfl ?_
            refine g_get hF fl_X3_21 dX3_longestFree_33 36 rfl (by intro H h; first | exact h.1 | exact h.2.1 | exact h.2.2.1 | exact h.2.2.2.1 | exact h.2.2.2.2) rfl ?_
            refine g_iload_n hF dX3_longestFree_36 37 rfl rfl ?_
            refine g_iald hF dX3_longestFree_37 38 rfl (by intro H h; first | exact h.1 | exact h.2.1 | exact h.2.2.1 | exact h.2.2.2.1 | exact h.2.2.2.2) (hbr) ?_
            refine g_icmp_ge hF dX3_longestFree_38 41 rfl 43 (by decide) (fun c38 => ?_) (fun c38 => ?_)
            · refine g_iinc hF dX3_longestFree_43 46 rfl (1) rfl (lo' := [_, _, _]) rfl rfl ?_
              refine g_goto hF dX3_longestFree_46 4 (by decide) ?_
              subst hb
              exact ih (j + 1) _ _ (by omega) (by omega) (nI_succ j).symm (if_neg (fun h => h.2.elim c23 (fun z => absurd z (Int32.not_lt.mpr c38)))).symm
            · refine g_iload_n hF dX3_longestFree_41 42 rfl rfl ?_
              refine g_istore_n hF dX3_longestFree_42 43 rfl (lo' := [_, _, _]) (Nat.le_of_ble_eq_true rfl) rfl ?_
              refine g_iinc hF dX3_longestFree_43 46 rfl (1) rfl (lo' := [_, _, _]) rfl rfl ?_
              refine g_goto hF dX3_longestFree_46 4 (by decide) ?_
              subst hb
              exact ih (j + 1) _ _ (by omega) (by omega) (nI_succ j).symm (if_pos ⟨c18, Or.inr (Int32.not_le.mp c38)⟩).symm
  refine g_iconst hF (-1) dX3_longestFree_0 1 rfl rfl ?_
  refine g_istore_n hF dX3_longestFree_1 2 rfl (lo' := [_, _, _]) (Nat.le_of_ble_eq_true rfl) rfl ?_
  refine g_iconst hF (0) dX3_longestFree_2 3 rfl rfl ?_
  refine g_istore_n hF dX3_longestFree_3 4 rfl (lo' := [_, _, _]) (Nat.le_of_ble_eq_true rfl) rfl ?_
  exact loop (N + 1) 0 _ 0 (by omega) (by omega) nI_0.symm rfl
/-- the line that a group would take, by its way of choosing -/
def sCh (gv key : Nat → Int32) (N s : Nat) : Int32 := if gv 4 = 1 then fLast gv N else if gv 4 = 2 then fLg (fun l => gv (10 + 4 * l)) key N else if gv 4 = 3 then fFrom gv N s N 0 else fFrom gv N 0 N 0
set_option maxRecDepth 100000 in
set_option maxHeartbeats 4000000 in
theorem c_G_chosenLine (l : Launch) (E : Ev) (a : Nat) (gv fs : Nat → Int32) (N s : Nat) (hn0 : gv 0 = nI N) (hn1 : 1 ≤ N) (hn6 : N ≤ 6) (hs : gv 5 + 1 = nI s) (hs6 : s ≤ 6) (hc : gv 4 = 0 ∨ gv 4 = 1 ∨ gv 4 = 2 ∨ gv 4 = 3) : Ct l E yX3_chosenLine cX3_chosenLine 1 (some .int) (rm 2) [.ref a] (Gp E a gv fs) (rV (some (.int (sCh gv fs N s))) (Gp E a gv fs)) (fun _ => False) := by
  refine ct_start (by decide) [some (.ref a)] rfl (Nat.le_of_ble_eq_true rfl) ?_
  intro x hF hN hA hR
  rcases hc with hc | hc | hc | hc
  · have hv : sCh gv fs N s = fFrom gv N 0 N 0 := by unfold sCh; rw [hc]; rfl
    refine g_aload_n hF dX3_chosenLine_0 1 rfl rfl ?_
    refine g_get hF fl_X3_37 dX3_chosenLine_1 4 rfl (by intro H h; first | exact h.1 | exact h.2.1 | exact h.2.2.1 | exact h.2.2.2.1 | exact h.2.2.2.2) rfl ?_
    rw [hc]
    refine g_tabOut hF dX3_chosenLine_4 (Or.inl (by decide)) 51 (by decide) ?_
    refine g_aload_n hF dX3_chosenLine_51 52 rfl rfl ?_
    refine g_iconst hF (0) dX3_chosenLine_52 53 rfl rfl ?_
    refine g_callV hF cv_X3_86 (c_G_firstFreeFrom l E a gv fs N 0 hn0 hn1 hn6 (by omega)) dX3_chosenLine_53 56 rfl (st := []) rfl rfl ⟨Nat.le_of_ble_eq_true rfl, Nat.le_of_ble_eq_true rfl⟩ ⟨Nat.le_of_ble_eq_true rfl, Nat.le_of_ble_eq_true rfl⟩ rfl (Nat.le_of_ble_eq_true rfl) 3 rfl (by intro H h; first | exact h.1 | exact h.2.1 | exact h.2.2.1 | exact h.2.2.2.1 | exact h.2.2.2.2) (Pr' := _) (fun _ h => h) (hA) (fun _ _ _ h _ => h) (st1 := [_]) rfl (k1 := 0) (n1 := 0) rfl rfl ?_
    exact g_iret hF dX3_chosenLine_56 (Nat.le_of_ble_eq_true rfl) (Nat.le_of_ble_eq_true rfl) (fun H h => hR _ _ ⟨congrArg (fun z => some (Value.int z)) (hv.symm), h⟩)
  · have hv : sCh gv fs N s = fLast gv N := by unfold sCh; rw [hc]; rfl
    refine g_aload_n hF dX3_chosenLine_0 1 rfl rfl ?_
    refine g_get hF fl_X3_37 dX3_chosenLine_1 4 rfl (by intro H h; first | exact h.1 | exact h.2.1 | exact h.2.2.1 | exact h.2.2.2.1 | exact h.2.2.2.2) rfl ?_
    rw [hc]
    refine g_tabIn hF dX3_chosenLine_4 (by decide) (by decide) (28) rfl 32 (by decide) ?_
    refine g_aload_n hF dX3_chosenLine_32 33 rfl rfl ?_
    refine g_callV hF cv_X3_79 (c_G_lastFree l E a gv fs N hn0 hn6) dX3_chosenLine_33 36 rfl (st := []) rfl rfl ⟨Nat.le_of_ble_eq_true rfl, Nat.le_of_ble_eq_true rfl⟩ ⟨Nat.le_of_ble_eq_true rfl, Nat.le_of_ble_eq_true rfl⟩ rfl (Nat.le_of_ble_eq_true rfl) 3 rfl (by intro H h; first | exact h.1 | exact h.2.1 | exact h.2.2.1 | exact h.2.2.2.1 | exact h.2.2.2.2) (Pr' := _) (fun _ h => h) (hA) (fun _ _ _ h _ => h) (st1 := [_]) rfl (k1 := 0) (n1 := 0) rfl rfl ?_
    exact g_iret hF dX3_chosenLine_36 (Nat.le_of_ble_eq_true rfl) (Nat.le_of_ble_eq_true rfl) (fun H h => hR _ _ ⟨congrArg (fun z => some (Value.int z)) (hv.symm), h⟩)
  · have hv : sCh gv fs N s = fLg (fun l => gv (10 + 4 * l)) fs N := by unfold sCh; rw [hc]; rfl
    refine g_aload_n hF dX3_chosenLine_0 1 rfl rfl ?_
    refine g_get hF fl_X3_37 dX3_chosenLine_1 4 rfl (by intro H h; first | exact h.1 | exact h.2.1 | exact h.2.2.1 | exact h.2.2.2.1 | exact h.2.2.2.2) rfl ?_
    rw [hc]
    refine g_tabIn hF dX3_chosenLine_4 (by decide) (by decide) (33) rfl 37 (by decide) ?_
    refine g_aload_n hF dX3_chosenLine_37 38 rfl rfl ?_
    refine g_callV hF cv_X3_83 (c_G_longestFree l E a gv fs N hn0 hn6) dX3_chosenLine_38 41 rfl (st := []) rfl rfl ⟨Nat.le_of_ble_eq_true rfl, Nat.le_of_ble_eq_true rfl⟩ ⟨Nat.le_of_ble_eq_true rfl, Nat.le_of_ble_eq_true rfl⟩ rfl (Nat.le_of_ble_eq_true rfl) 3 rfl (by intro H h; first | exact h.1 | exact h.2.1 | exact h.2.2.1 | exact h.2.2.2.1 | exact h.2.2.2.2) (Pr' := _) (fun _ h => h) (hA) (fun _ _ _ h _ => h) (st1 := [_]) rfl (k1 := 0) (n1 := 0) rfl rfl ?_
    exact g_iret hF dX3_chosenLine_41 (Nat.le_of_ble_eq_true rfl) (Nat.le_of_ble_eq_true rfl) (fun H h => hR _ _ ⟨congrArg (fun z => some (Value.int z)) (hv.symm), h⟩)
  · have hv : sCh gv fs N s = fFrom gv N s N 0 := by unfold sCh; rw [hc]; rfl
    refine g_aload_n hF dX3_chosenLine_0 1 rfl rfl ?_
    refine g_get hF fl_X3_37 dX3_chosenLine_1 4 rfl (by intro H h; first | exact h.1 | exact h.2.1 | exact h.2.2.1 | exact h.2.2.2.1 | exact h.2.2.2.2) rfl ?_
    rw [hc]
    refine g_tabIn hF dX3_chosenLine_4 (by decide) (by decide) (38) rfl 42 (by decide) ?_
    refine g_aload_n hF dX3_chosenLine_42 43 rfl rfl ?_
    refine g_aload_n hF dX3_chosenLine_43 44 rfl rfl ?_
    refine g_get hF fl_X3_55 dX3_chosenLine_44 47 rfl (by intro H h; first | exact h.1 | exact h.2.1 | exact h.2.2.1 | exact h.2.2.2.1 | exact h.2.2.2.2) rfl ?_
    rw [hs]
    refine g_callV hF cv_X3_86 (c_G_firstFreeFrom l E a gv fs N s hn0 hn1 hn6 hs6) dX3_chosenLine_47 50 rfl (st := []) rfl rfl ⟨Nat.le_of_ble_eq_true rfl, Nat.le_of_ble_eq_true rfl⟩ ⟨Nat.le_of_ble_eq_true rfl, Nat.le_of_ble_eq_true rfl⟩ rfl (Nat.le_of_ble_eq_true rfl) 3 rfl (by intro H h; first | exact h.1 | exact h.2.1 | exact h.2.2.1 | exact h.2.2.2.1 | exact h.2.2.2.2) (Pr' := _) (fun _ h => h) (hA) (fun _ _ _ h _ => h) (st1 := [_]) rfl (k1 := 0) (n1 := 0) rfl rfl ?_
    exact g_iret hF dX3_chosenLine_50 (Nat.le_of_ble_eq_true rfl) (Nat.le_of_ble_eq_true rfl) (fun H h => hR _ _ ⟨congrArg (fun z => some (Value.int z)) (hv.symm), h⟩)
end
section
/-! Group: holding, letting go, beginning, copying -/
theorem Gp.ring0 {E : Ev} {a : Nat} {gv fs : Nat → Int32} {H H' : Heap} (h : Gp E a gv fs H) (h1 : ob E 3 a ((gfs gv a).set 9 (.int 0)) H') (h2 : but a H H') : Gp E a (upd gv 5 (-1)) fs H' :=
  Gp.wo (by omega) (by rw [show (0 : Int32) = -1 + 1 by decide]; rfl) h h1 h2
def gset (k : Nat) (z : Int32) (gv : Nat → Int32) : Nat → Int32 := fun w => if 10 ≤ w ∧ (w - 10) % 4 = k then z else gv w
def gcp (k : Nat) (ov gv : Nat → Int32) : Nat → Int32 := fun w => if 10 ≤ w ∧ (w - 10) % 4 = k then ov w else gv w
theorem gset_at {k : Nat} {z : Int32} {gv : Nat → Int32} {w : Nat} (h1 : 10 ≤ w) (h2 : (w - 10) % 4 = k) : gset k z gv w = z := if_pos ⟨h1, h2⟩
theorem gset_ne {k : Nat} {z : Int32} {gv : Nat → Int32} {w : Nat} (h : w < 10 ∨ (w - 10) % 4 ≠ k) : gset k z gv w = gv w := if_neg (by omega)
theorem gcp_at {k : Nat} {ov gv : Nat → Int32} {w : Nat} (h1 : 10 ≤ w) (h2 : (w - 10) % 4 = k) : gcp k ov gv w = ov w := if_pos ⟨h1, h2⟩
theorem gcp_ne {k : Nat} {ov gv : Nat → Int32} {w : Nat} (h : w < 10 ∨ (w - 10) % 4 ≠ k) : gcp k ov gv w = gv w := if_neg (by omega)
theorem Gp.mk {E : Ev} {a : Nat} {gv gv' fs fs' : Nat → Int32} {H H' : Heap} (h : Gp E a gv fs H) (he : ∀ w, w < 10 → gv w = gv' w) (h0 : H'[a]? = H[a]?) (h1 : ai E (a + 1) 6 (fun l => gv' (10 + 4 * l)) H') (h2 : ai E (a + 2) 6 (fun l => gv' (11 + 4 * l)) H') (h3 : ai E (a + 3) 6 (fun l => gv' (12 + 4 * l)) H') (h4 : ai E (a + 4) 6 fs' H') : Gp E a gv' fs' H' := by
  refine ⟨?_, h1, h2, h3, h4⟩
  have e : gfs gv' a = gfs gv a := by
    unfold gfs
    rw [he 0 (by omega), he 1 (by omega), he 2 (by omega), he 3 (by omega), he 4 (by omega), he 5 (by omega), he 6 (by omega), he 7 (by omega), he 8 (by omega), he 9 (by omega)]
  rw [e]
  exact ob_kept h.1 h0
theorem out_at {A : Nat → Prop} {H H' : Heap} {E : Ev} {q : Nat × va_E} (h : out A H H') (h1 : va_at E.1 clE q H) (h2 : ¬ A q.1) : H'[q.1]? = H[q.1]? := h.2 _ h1.lt h2
theorem Gp.f1 {E : Ev} {a : Nat} {gv fs : Nat → Int32} {z : Int32} {H H' : Heap} (h : Gp E a gv fs H) (h1 : ai E (a + 1) 6 (fun _ => z) H') (h2 : out (fun q => q = a + 1) H H') : Gp E a (gset 0 z gv) fs H' :=
  Gp.mk h (fun w hw => (gset_ne (by omega)).symm) (out_at h2 h.1 (by show ¬ a = a + 1; omega)) (ai_congr (fun j _ => (gset_at (by omega) (by omega)).symm) h1) (ai_congr (fun j _ => (gset_ne (by omega)).symm) (ai_kept h.2.2.1 (out_at h2 h.2.2.1 (by show ¬ a + 2 = a + 1; omega)))) (ai_congr (fun j _ => (gset_ne (by omega)).symm) (ai_kept h.2.2.2.1 (out_at h2 h.2.2.2.1 (by show ¬ a + 3 = a + 1; omega)))) (ai_kept h.2.2.2.2 (out_at h2 h.2.2.2.2 (by show ¬ a + 4 = a + 1; omega)))
theorem Gp.f2 {E : Ev} {a : Nat} {gv fs : Nat → Int32} {z : Int32} {H H' : Heap} (h : Gp E a gv fs H) (h1 : ai E (a + 2) 6 (fun _ => z) H') (h2 : out (fun q => q = a + 2) H H') : Gp E a (gset 1 z gv) fs H' :=
  Gp.mk h (fun w hw => (gset_ne (by omega)).symm) (out_at h2 h.1 (by show ¬ a = a + 2; omega)) (ai_congr (fun j _ => (gset_ne (by omega)).symm) (ai_kept h.2.1 (out_at h2 h.2.1 (by show ¬ a + 1 = a + 2; omega)))) (ai_congr (fun j _ => (gset_at (by omega) (by omega)).symm) h1) (ai_congr (fun j _ => (gset_ne (by omega)).symm) (ai_kept h.2.2.2.1 (out_at h2 h.2.2.2.1 (by show ¬ a + 3 = a + 2; omega)))) (ai_kept h.2.2.2.2 (out_at h2 h.2.2.2.2 (by show ¬ a + 4 = a + 2; omega)))
theorem Gp.f3 {E : Ev} {a : Nat} {gv fs : Nat → Int32} {z : Int32} {H H' : Heap} (h : Gp E a gv fs H) (h1 : ai E (a + 3) 6 (fun _ => z) H') (h2 : out (fun q => q = a + 3) H H') : Gp E a (gset 2 z gv) fs H' :=
  Gp.mk h (fun w hw => (gset_ne (by omega)).symm) (out_at h2 h.1 (by show ¬ a = a + 3; omega)) (ai_congr (fun j _ => (gset_ne (by omega)).symm) (ai_kept h.2.1 (out_at h2 h.2.1 (by show ¬ a + 1 = a + 3; omega)))) (ai_congr (fun j _ => (gset_ne (by omega)).symm) (ai_kept h.2.2.1 (out_at h2 h.2.2.1 (by show ¬ a + 2 = a + 3; omega)))) (ai_congr (fun j _ => (gset_at (by omega) (by omega)).symm) h1) (ai_kept h.2.2.2.2 (out_at h2 h.2.2.2.2 (by show ¬ a + 4 = a + 3; omega)))
theorem Gp.f4 {E : Ev} {a : Nat} {gv fs fs' : Nat → Int32} {H H' : Heap} (h : Gp E a gv fs H) (h1 : ai E (a + 4) 6 fs' H') (h2 : out (fun q => q = a + 4) H H') : Gp E a gv fs' H' :=
  Gp.mk h (fun w hw => rfl) (out_at h2 h.1 (by show ¬ a = a + 4; omega)) (ai_kept h.2.1 (out_at h2 h.2.1 (by show ¬ a + 1 = a + 4; omega))) (ai_kept h.2.2.1 (out_at h2 h.2.2.1 (by show ¬ a + 2 = a + 4; omega))) (ai_kept h.2.2.2.1 (out_at h2 h.2.2.2.1 (by show ¬ a + 3 = a + 4; omega))) h1
theorem Gp.c1 {E : Ev} {a : Nat} {gv ov fs : Nat → Int32} {H H' : Heap} (h : Gp E a gv fs H) (h1 : ai E (a + 1) 6 (fun l => ov (10 + 4 * l)) H') (h2 : but (a + 1) H H') : Gp E a (gcp 0 ov gv) fs H' :=
  Gp.mk h (fun w hw => (gcp_ne (by omega)).symm) (h2.2 _ (by omega)) (ai_congr (fun j _ => (gcp_at (by omega) (by omega)).symm) h1) (ai_congr (fun j _ => (gcp_ne (by omega)).symm) (ai_kept h.2.2.1 (h2.2 _ (by omega)))) (ai_congr (fun j _ => (gcp_ne (by omega)).symm) (ai_kept h.2.2.2.1 (h2.2 _ (by omega)))) (ai_kept h.2.2.2.2 (h2.2 _ (by omega)))
theorem Gp.c2 {E : Ev} {a : Nat} {gv ov fs : Nat → Int32} {H H' : Heap} (h : Gp E a gv fs H) (h1 : ai E (a + 2) 6 (fun l => ov (11 + 4 * l)) H') (h2 : but (a + 2) H H') : Gp E a (gcp 1 ov gv) fs H' :=
  Gp.mk h (fun w hw => (gcp_ne (by omega)).symm) (h2.2 _ (by omega)) (ai_congr (fun j _ => (gcp_ne (by omega)).symm) (ai_kept h.2.1 (h2.2 _ (by omega)))) (ai_congr (fun j _ => (gcp_at (by omega) (by omega)).symm) h1) (ai_congr (fun j _ => (gcp_ne (by omega)).symm) (ai_kept h.2.2.2.1 (h2.2 _ (by omega)))) (ai_kept h.2.2.2.2 (h2.2 _ (by omega)))
theorem Gp.c3 {E : Ev} {a : Nat} {gv ov fs : Nat → Int32} {H H' : Heap} (h : Gp E a gv fs H) (h1 : ai E (a + 3) 6 (fun l => ov (12 + 4 * l)) H') (h2 : but (a + 3) H H') : Gp E a (gcp 2 ov gv) fs H' :=
  Gp.mk h (fun w hw => (gcp_ne (by omega)).symm) (h2.2 _ (by omega)) (ai_congr (fun j _ => (gcp_ne (by omega)).symm) (ai_kept h.2.1 (h2.2 _ (by omega)))) (ai_congr (fun j _ => (gcp_ne (by omega)).symm) (ai_kept h.2.2.1 (h2.2 _ (by omega)))) (ai_congr (fun j _ => (gcp_at (by omega) (by omega)).symm) h1) (ai_kept h.2.2.2.2 (h2.2 _ (by omega)))
theorem Gp.c4 {E : Ev} {a : Nat} {gv fs fs' : Nat → Int32} {H H' : Heap} (h : Gp E a gv fs H) (h1 : ai E (a + 4) 6 fs' H') (h2 : but (a + 4) H H') : Gp E a gv fs' H' :=
  Gp.mk h (fun w hw => rfl) (h2.2 _ (by omega)) (ai_kept h.2.1 (h2.2 _ (by omega))) (ai_kept h.2.2.1 (h2.2 _ (by omega))) (ai_kept h.2.2.2.1 (h2.2 _ (by omega))) h1
def gHold (gv : Nat → Int32) (i : Nat) (call g : Int32) : Nat → Int32 := upd (upd (upd (upd gv (10 + 4 * i) 1) (11 + 4 * i) call) (12 + 4 * i) g) 5 (nI i)
def gLet (gv : Nat → Int32) (i : Nat) (b : Int32) : Nat → Int32 := upd (upd (upd gv (10 + 4 * i) b) (11 + 4 * i) (-1)) (12 + 4 * i) (-1)
set_option maxRecDepth 100000 in
set_option maxHeartbeats 4000000 in
theorem c_G_hold (l : Launch) (E : Ev) (a : Nat) (gv fs : Nat → Int32) (i : Nat) (call g : Int32) (hi : i < 6) : Ct l E yX3_hold cX3_hold 4 none (rm 1) [.ref a, .int (nI i), .int call, .int g] (Gp E a gv fs) (rV none (Gp E a (gHold gv i call g) fs)) (rg a 5) := by
  refine ct_start (by decide) [some (.ref a), some (.int (nI i)), some (.int call), some (.int g)] rfl (Nat.le_of_ble_eq_true rfl) ?_
  intro x hF hN hA hR
  have hin : vp_in (nI i) 6 := vp_in_nI hi (by omega)
  refine g_aload_n hF dX3_hold_0 1 rfl rfl ?_
  refine g_get hF fl_X3_9 dX3_hold_1 4 rfl (by intro H h; first | exact h.1 | exact h.2.1 | exact h.2.2.1 | exact h.2.2.2.1 | exact h.2.2.2.2) rfl ?_
  refine g_iload_n hF dX3_hold_4 5 rfl rfl ?_
  refine g_iconst hF (1) dX3_hold_5 6 rfl rfl ?_
  refine g_iast hF dX3_hold_6 7 rfl (by intro H h; first | exact h.1 | exact h.2.1 | exact h.2.2.1 | exact h.2.2.2.1 | exact h.2.2.2.2) (hin) (hA _ ⟨by omega, by omega⟩) (Pr' := Gp E a (upd gv (10 + 4 * i) 1) fs) (fun H H' h h1 h2 => by exact Gp.w1 hi h h1 h2) ?_
  refine g_aload_n hF dX3_hold_7 8 rfl rfl ?_
  refine g_get hF fl_X3_15 dX3_hold_8 11 rfl (by intro H h; first | exact h.1 | exact h.2.1 | exact h.2.2.1 | exact h.2.2.2.1 | exact h.2.2.2.2) rfl ?_
  refine g_iload_n hF dX3_hold_11 12 rfl rfl ?_
  refine g_iload_n hF dX3_hold_12 13 rfl rfl ?_
  refine g_iast hF dX3_hold_13 14 rfl (by intro H h; first | exact h.1 | exact h.2.1 | exact h.2.2.1 | exact h.2.2.2.1 | exact h.2.2.2.2) (hin) (hA _ ⟨by omega, by omega⟩) (Pr' := Gp E a (upd (upd gv (10 + 4 * i) 1) (11 + 4 * i) call) fs) (fun H H' h h1 h2 => by exact Gp.w2 hi h h1 h2) ?_
  refine g_aload_n hF dX3_hold_14 15 rfl rfl ?_
  refine g_get hF fl_X3_18 dX3_hold_15 18 rfl (by intro H h; first | exact h.1 | exact h.2.1 | exact h.2.2.1 | exact h.2.2.2.1 | exact h.2.2.2.2) rfl ?_
  refine g_iload_n hF dX3_hold_18 19 rfl rfl ?_
  refine g_iload_n hF dX3_hold_19 20 rfl rfl ?_
  refine g_iast hF dX3_hold_20 21 rfl (by intro H h; first | exact h.1 | exact h.2.1 | exact h.2.2.1 | exact h.2.2.2.1 | exact h.2.2.2.2) (hin) (hA _ ⟨by omega, by omega⟩) (Pr' := Gp E a (upd (upd (upd gv (10 + 4 * i) 1) (11 + 4 * i) call) (12 + 4 * i) g) fs) (fun H H' h h1 h2 => by exact Gp.w3 hi h h1 h2) ?_
  refine g_aload_n hF dX3_hold_21 22 rfl rfl ?_
  refine g_iload_n hF dX3_hold_22 23 rfl rfl ?_
  refine g_iconst hF (1) dX3_hold_23 24 rfl rfl ?_
  refine g_iadd hF dX3_hold_24 25 rfl ?_
  refine g_put hF pl_X3_55 dX3_hold_25 28 rfl (by intro H h; first | exact h.1 | exact h.2.1 | exact h.2.2.1 | exact h.2.2.2.1 | exact h.2.2.2.2) (Nat.le_of_ble_eq_true rfl) rfl rfl (hA _ ⟨by omega, by omega⟩) (Pr' := Gp E a (gHold gv i call g) fs) (fun H H' h h1 h2 => by exact Gp.wo (by omega) rfl h h1 h2) ?_
  exact g_vret hF dX3_hold_28 (Nat.le_of_ble_eq_true rfl) (Nat.le_of_ble_eq_true rfl) (fun H h => hR _ _ ⟨rfl, h⟩)
set_option maxRecDepth 100000 in
set_option maxHeartbeats 4000000 in
theorem c_G_letGo (l : Launch) (E : Ev) (a : Nat) (gv fs : Nat → Int32) (i : Nat) (b t : Int32) (hi : i < 6) : Ct l E yX3_letGo cX3_letGo 4 none (rm 1) [.ref a, .int (nI i), .int b, .int t] (Gp E a gv fs) (rV none (Gp E a (gLet gv i b) (upd fs i t))) (rg a 5) := by
  refine ct_start (by decide) [some (.ref a), some (.int (nI i)), some (.int b), some (.int t)] rfl (Nat.le_of_ble_eq_true rfl) ?_
  intro x hF hN hA hR
  have hin : vp_in (nI i) 6 := vp_in_nI hi (by omega)
  refine g_aload_n hF dX3_letGo_0 1 rfl rfl ?_
  refine g_get hF fl_X3_9 dX3_letGo_1 4 rfl (by intro H h; first | exact h.1 | exact h.2.1 | exact h.2.2.1 | exact h.2.2.2.1 | exact h.2.2.2.2) rfl ?_
  refine g_iload_n hF dX3_letGo_4 5 rfl rfl ?_
  refine g_iload_n hF dX3_letGo_5 6 rfl rfl ?_
  refine g_iast hF dX3_letGo_6 7 rfl (by intro H h; first | exact h.1 | exact h.2.1 | exact h.2.2.1 | exact h.2.2.2.1 | exact h.2.2.2.2) (hin) (hA _ ⟨by omega, by omega⟩) (Pr' := Gp E a (upd gv (10 + 4 * i) b) fs) (fun H H' h h1 h2 => by exact Gp.w1 hi h h1 h2) ?_
  refine g_aload_n hF dX3_letGo_7 8 rfl rfl ?_
  refine g_get hF fl_X3_15 dX3_letGo_8 11 rfl (by intro H h; first | exact h.1 | exact h.2.1 | exact h.2.2.1 | exact h.2.2.2.1 | exact h.2.2.2.2) rfl ?_
  refine g_iload_n hF dX3_letGo_11 12 rfl rfl ?_
  refine g_iconst hF (-1) dX3_letGo_12 13 rfl rfl ?_
  refine g_iast hF dX3_letGo_13 14 rfl (by intro H h; first | exact h.1 | exact h.2.1 | exact h.2.2.1 | exact h.2.2.2.1 | exact h.2.2.2.2) (hin) (hA _ ⟨by omega, by omega⟩) (Pr' := Gp E a (upd (upd gv (10 + 4 * i) b) (11 + 4 * i) (-1)) fs) (fun H H' h h1 h2 => by exact Gp.w2 hi h h1 h2) ?_
  refine g_aload_n hF dX3_letGo_14 15 rfl rfl ?_
  refine g_get hF fl_X3_18 dX3_letGo_15 18 rfl (by intro H h; first | exact h.1 | exact h.2.1 | exact h.2.2.1 | exact h.2.2.2.1 | exact h.2.2.2.2) rfl ?_
  refine g_iload_n hF dX3_letGo_18 19 rfl rfl ?_
  refine g_iconst hF (-1) dX3_letGo_19 20 rfl rfl ?_
  refine g_iast hF dX3_letGo_20 21 rfl (by intro H h; first | exact h.1 | exact h.2.1 | exact h.2.2.1 | exact h.2.2.2.1 | exact h.2.2.2.2) (hin) (hA _ ⟨by omega, by omega⟩) (Pr' := Gp E a (gLet gv i b) fs) (fun H H' h h1 h2 => by exact Gp.w3 hi h h1 h2) ?_
  refine g_aload_n hF dX3_letGo_21 22 rfl rfl ?_
  refine g_get hF fl_X3_21 dX3_letGo_22 25 rfl (by intro H h; first | exact h.1 | exact h.2.1 | exact h.2.2.1 | exact h.2.2.2.1 | exact h.2.2.2.2) rfl ?_
  refine g_iload_n hF dX3_letGo_25 26 rfl rfl ?_
  refine g_iload_n hF dX3_letGo_26 27 rfl rfl ?_
  refine g_iast hF dX3_letGo_27 28 rfl (by intro H h; first | exact h.1 | exact h.2.1 | exact h.2.2.1 | exact h.2.2.2.1 | exact h.2.2.2.2) (hin) (hA _ ⟨by omega, by omega⟩) (Pr' := Gp E a (gLet gv i b) (upd fs i t)) (fun H H' h h1 h2 => by exact Gp.w4 hi h h1 h2) ?_
  exact g_vret hF dX3_letGo_28 (Nat.le_of_ble_eq_true rfl) (Nat.le_of_ble_eq_true rfl) (fun H h => hR _ _ ⟨rfl, h⟩)
/-- all lines free, as at the beginning -/
def gFree (gv : Nat → Int32) : Nat → Int32 := fun w => if w = 5 then -1 else if w < 10 then gv w else if (w - 10) % 4 = 0 then 0 else -1
theorem gFree_ok (gv : Nat → Int32) {w : Nat} (hw : w < 10 ∨ (w - 10) % 4 < 3) : gset 2 (-1) (gset 1 (-1) (gset 0 0 (upd gv 5 (-1)))) w = gFree gv w := by
  unfold gset gFree upd
  by_cases h5 : w = 5
  · subst h5; simp
  · by_cases h10 : w < 10
    · have : ¬ 10 ≤ w := by omega
      simp [h5, h10, this]
    · have h11 : 10 ≤ w := by omega
      rcases (show (w - 10) % 4 = 0 ∨ (w - 10) % 4 = 1 ∨ (w - 10) % 4 = 2 by omega) with h | h | h <;> simp [h5, h10, h11, h]
theorem gFree_hi {gv gv' : Nat → Int32} {w : Nat} (hw : 10 ≤ w) : gFree gv w = gFree gv' w := by
  have h5 : ¬ w = 5 := by omega
  have h6 : ¬ w < 10 := by omega
  simp only [gFree, h5, h6, if_false]
set_option maxRecDepth 100000 in
set_option maxHeartbeats 4000000 in
theorem c_G_freeAllLines (l : Launch) (E : Ev) (a : Nat) (gv fs : Nat → Int32) : Ct l E yX3_freeAllLines cX3_freeAllLines 1 none (rm 2) [.ref a] (Gp E a gv fs) (rV none (Gp E a (gFree gv) (fun _ => 0))) (rg a 5) := by
  refine ct_start (by decide) [some (.ref a)] rfl (Nat.le_of_ble_eq_true rfl) ?_
  intro x hF hN hA hR
  refine g_aload_n hF dX3_freeAllLines_0 1 rfl rfl ?_
  refine g_iconst hF (0) dX3_freeAllLines_1 2 rfl rfl ?_
  refine g_put hF pl_X3_55 dX3_freeAllLines_2 5 rfl (by intro H h; first | exact h.1 | exact h.2.1 | exact h.2.2.1 | exact h.2.2.2.1 | exact h.2.2.2.2) (Nat.le_of_ble_eq_true rfl) rfl rfl (hA _ ⟨by omega, by omega⟩) (Pr' := Gp E a (upd gv 5 (-1)) fs) (fun H H' h h1 h2 => by exact Gp.ring0 h h1 h2) ?_
  refine g_aload_n hF dX3_freeAllLines_5 6 rfl rfl ?_
  refine g_get hF fl_X3_9 dX3_freeAllLines_6 9 rfl (by intro H h; first | exact h.1 | exact h.2.1 | exact h.2.2.1 | exact h.2.2.2.1 | exact h.2.2.2.2) rfl ?_
  refine g_iconst hF (0) dX3_freeAllLines_9 10 rfl rfl ?_
  refine g_callS hF cs_X3_58 (c_fill l E (a + 1) 6 _ 0 (by decide)) dX3_freeAllLines_10 13 rfl (st := []) rfl rfl ⟨Nat.le_of_ble_eq_true rfl, Nat.le_of_ble_eq_true rfl⟩ ⟨Nat.le_of_ble_eq_true rfl, Nat.le_of_ble_eq_true rfl⟩ rfl (Nat.le_of_ble_eq_true rfl) (Pr' := Gp E a (gset 0 0 (upd gv 5 (-1))) fs) (fun H h => h.2.1) (fun q hq => hA q (by subst hq; exact ⟨by omega, by omega⟩)) (fun H H' h h1 h2 => by exact Gp.f1 h h1 h2) (st1 := []) rfl (k1 := 0) (n1 := 0) rfl rfl ?_
  refine g_aload_n hF dX3_freeAllLines_13 14 rfl rfl ?_
  refine g_get hF fl_X3_15 dX3_freeAllLines_14 17 rfl (by intro H h; first | exact h.1 | exact h.2.1 | exact h.2.2.1 | exact h.2.2.2.1 | exact h.2.2.2.2) rfl ?_
  refine g_iconst hF (-1) dX3_freeAllLines_17 18 rfl rfl ?_
  refine g_callS hF cs_X3_58 (c_fill l E (a + 2) 6 _ (-1) (by decide)) dX3_freeAllLines_18 21 rfl (st := []) rfl rfl ⟨Nat.le_of_ble_eq_true rfl, Nat.le_of_ble_eq_true rfl⟩ ⟨Nat.le_of_ble_eq_true rfl, Nat.le_of_ble_eq_true rfl⟩ rfl (Nat.le_of_ble_eq_true rfl) (Pr' := Gp E a (gset 1 (-1) (gset 0 0 (upd gv 5 (-1)))) fs) (fun H h => h.2.2.1) (fun q hq => hA q (by subst hq; exact ⟨by omega, by omega⟩)) (fun H H' h h1 h2 => by exact Gp.f2 h h1 h2) (st1 := []) rfl (k1 := 0) (n1 := 0) rfl rfl ?_
  refine g_aload_n hF dX3_freeAllLines_21 22 rfl rfl ?_
  refine g_get hF fl_X3_18 dX3_freeAllLines_22 25 rfl (by intro H h; first | exact h.1 | exact h.2.1 | exact h.2.2.1 | exact h.2.2.2.1 | exact h.2.2.2.2) rfl ?_
  refine g_iconst hF (-1) dX3_freeAllLines_25 26 rfl rfl ?_
  refine g_callS hF cs_X3_58 (c_fill l E (a + 3) 6 _ (-1) (by decide)) dX3_freeAllLines_26 29 rfl (st := []) rfl rfl ⟨Nat.le_of_ble_eq_true rfl, Nat.le_of_ble_eq_true rfl⟩ ⟨Nat.le_of_ble_eq_true rfl, Nat.le_of_ble_eq_true rfl⟩ rfl (Nat.le_of_ble_eq_true rfl) (Pr' := Gp E a (gset 2 (-1) (gset 1 (-1) (gset 0 0 (upd gv 5 (-1))))) fs) (fun H h => h.2.2.2.1) (fun q hq => hA q (by subst hq; exact ⟨by omega, by omega⟩)) (fun H H' h h1 h2 => by exact Gp.f3 h h1 h2) (st1 := []) rfl (k1 := 0) (n1 := 0) rfl rfl ?_
  refine g_aload_n hF dX3_freeAllLines_29 30 rfl rfl ?_
  refine g_get hF fl_X3_21 dX3_freeAllLines_30 33 rfl (by intro H h; first | exact h.1 | exact h.2.1 | exact h.2.2.1 | exact h.2.2.2.1 | exact h.2.2.2.2) rfl ?_
  refine g_iconst hF (0) dX3_freeAllLines_33 34 rfl rfl ?_
  refine g_callS hF cs_X3_58 (c_fill l E (a + 4) 6 _ 0 (by decide)) dX3_freeAllLines_34 37 rfl (st := []) rfl rfl ⟨Nat.le_of_ble_eq_true rfl, Nat.le_of_ble_eq_true rfl⟩ ⟨Nat.le_of_ble_eq_true rfl, Nat.le_of_ble_eq_true rfl⟩ rfl (Nat.le_of_ble_eq_true rfl) (Pr' := Gp E a (gset 2 (-1) (gset 1 (-1) (gset 0 0 (upd gv 5 (-1))))) (fun _ => 0)) (fun H h => h.2.2.2.2) (fun q hq => hA q (by subst hq; exact ⟨by omega, by omega⟩)) (fun H H' h h1 h2 => by exact Gp.f4 h h1 h2) (st1 := []) rfl (k1 := 0) (n1 := 0) rfl rfl ?_
  exact g_vret hF dX3_freeAllLines_37 (Nat.le_of_ble_eq_true rfl) (Nat.le_of_ble_eq_true rfl) (fun H h => hR _ _ ⟨rfl, Gp.to h (fun w hw => gFree_ok gv (Or.inl hw)) (fun l hl => ⟨gFree_ok gv (by omega), gFree_ok gv (by omega), gFree_ok gv (by omega)⟩)⟩)
/-- a group as at first -/
def g0 : Nat → Int32 := gFree (fun w => if w = 0 then 3 else if w = 1 then 2 else if w = 3 then -1 else 0)
set_option maxRecDepth 100000 in
set_option maxHeartbeats 4000000 in
theorem c_G_begin (l : Launch) (E : Ev) (a : Nat) (gv fs : Nat → Int32) : Ct l E yX3_begin cX3_begin 1 none (rm 3) [.ref a] (Gp E a gv fs) (rV none (Gp E a g0 (fun _ => 0))) (rg a 5) := by
  refine ct_start (by decide) [some (.ref a)] rfl (Nat.le_of_ble_eq_true rfl) ?_
  intro x hF hN hA hR
  refine g_aload_n hF dX3_begin_0 1 rfl rfl ?_
  refine g_iconst hF (3) dX3_begin_1 2 rfl rfl ?_
  refine g_put hF pl_X3_24 dX3_begin_2 5 rfl (by intro H h; first | exact h.1 | exact h.2.1 | exact h.2.2.1 | exact h.2.2.2.1 | exact h.2.2.2.2) (Nat.le_of_ble_eq_true rfl) rfl rfl (hA _ ⟨by omega, by omega⟩) (Pr' := Gp E a (upd gv 0 3) fs) (fun H H' h h1 h2 => by exact Gp.wo (by omega) rfl h h1 h2) ?_
  refine g_aload_n hF dX3_begin_5 6 rfl rfl ?_
  refine g_iconst hF (2) dX3_begin_6 7 rfl rfl ?_
  refine g_put hF pl_X3_28 dX3_begin_7 10 rfl (by intro H h; first | exact h.1 | exact h.2.1 | exact h.2.2.1 | exact h.2.2.2.1 | exact h.2.2.2.2) (Nat.le_of_ble_eq_true rfl) rfl rfl (hA _ ⟨by omega, by omega⟩) (Pr' := Gp E a (upd (upd gv 0 3) 1 2) fs) (fun H H' h h1 h2 => by exact Gp.wo (by omega) rfl h h1 h2) ?_
  refine g_aload_n hF dX3_begin_10 11 rfl rfl ?_
  refine g_iconst hF (0) dX3_begin_11 12 rfl rfl ?_
  refine g_put hF pl_X3_31 dX3_begin_12 15 rfl (by intro H h; first | exact h.1 | exact h.2.1 | exact h.2.2.1 | exact h.2.2.2.1 | exact h.2.2.2.2) (Nat.le_of_ble_eq_true rfl) rfl rfl (hA _ ⟨by omega, by omega⟩) (Pr' := Gp E a (upd (upd (upd gv 0 3) 1 2) 2 0) fs) (fun H H' h h1 h2 => by exact Gp.wo (by omega) rfl h h1 h2) ?_
  refine g_aload_n hF dX3_begin_15 16 rfl rfl ?_
  refine g_iconst hF (-1) dX3_begin_16 17 rfl rfl ?_
  refine g_put hF pl_X3_34 dX3_begin_17 20 rfl (by intro H h; first | exact h.1 | exact h.2.1 | exact h.2.2.1 | exact h.2.2.2.1 | exact h.2.2.2.2) (Nat.le_of_ble_eq_true rfl) rfl rfl (hA _ ⟨by omega, by omega⟩) (Pr' := Gp E a (upd (upd (upd (upd gv 0 3) 1 2) 2 0) 3 (-1)) fs) (fun H H' h h1 h2 => by exact Gp.wo (by omega) rfl h h1 h2) ?_
  refine g_aload_n hF dX3_begin_20 21 rfl rfl ?_
  refine g_iconst hF (0) dX3_begin_21 22 rfl rfl ?_
  refine g_put hF pl_X3_37 dX3_begin_22 25 rfl (by intro H h; first | exact h.1 | exact h.2.1 | exact h.2.2.1 | exact h.2.2.2.1 | exact h.2.2.2.2) (Nat.le_of_ble_eq_true rfl) rfl rfl (hA _ ⟨by omega, by omega⟩) (Pr' := Gp E a (upd (upd (upd (upd (upd gv 0 3) 1 2) 2 0) 3 (-1)) 4 0) fs) (fun H H' h h1 h2 => by exact Gp.wo (by omega) rfl h h1 h2) ?_
  refine g_aload_n hF dX3_begin_25 26 rfl rfl ?_
  refine g_iconst hF (0) dX3_begin_26 27 rfl rfl ?_
  refine g_put hF pl_X3_40 dX3_begin_27 30 rfl (by intro H h; first | exact h.1 | exact h.2.1 | exact h.2.2.1 | exact h.2.2.2.1 | exact h.2.2.2.2) (Nat.le_of_ble_eq_true rfl) rfl rfl (hA _ ⟨by omega, by omega⟩) (Pr' := Gp E a (upd (upd (upd (upd (upd (upd gv 0 3) 1 2) 2 0) 3 (-1)) 4 0) 6 0) fs) (fun H H' h h1 h2 => by exact Gp.wo (by omega) rfl h h1 h2) ?_
  refine g_aload_n hF dX3_begin_30 31 rfl rfl ?_
  refine g_iconst hF (0) dX3_begin_31 32 rfl rfl ?_
  refine g_put hF pl_X3_43 dX3_begin_32 35 rfl (by intro H h; first | exact h.1 | exact h.2.1 | exact h.2.2.1 | exact h.2.2.2.1 | exact h.2.2.2.2) (Nat.le_of_ble_eq_true rfl) rfl rfl (hA _ ⟨by omega, by omega⟩) (Pr' := Gp E a (upd (upd (upd (upd (upd (upd (upd gv 0 3) 1 2) 2 0) 3 (-1)) 4 0) 6 0) 7 0) fs) (fun H H' h h1 h2 => by exact Gp.wo (by omega) rfl h h1 h2) ?_
  refine g_aload_n hF dX3_begin_35 36 rfl rfl ?_
  refine g_iconst hF (0) dX3_begin_36 37 rfl rfl ?_
  refine g_put hF pl_X3_46 dX3_begin_37 40 rfl (by intro H h; first | exact h.1 | exact h.2.1 | exact h.2.2.1 | exact h.2.2.2.1 | exact h.2.2.2.2) (Nat.le_of_ble_eq_true rfl) rfl rfl (hA _ ⟨by omega, by omega⟩) (Pr' := Gp E a (upd (upd (upd (upd (upd (upd (upd (upd gv 0 3) 1 2) 2 0) 3 (-1)) 4 0) 6 0) 7 0) 8 0) fs) (fun H H' h h1 h2 => by exact Gp.wo (by omega) rfl h h1 h2) ?_
  refine g_aload_n hF dX3_begin_40 41 rfl rfl ?_
  refine g_iconst hF (0) dX3_begin_41 42 rfl rfl ?_
  refine g_put hF pl_X3_49 dX3_begin_42 45 rfl (by intro H h; first | exact h.1 | exact h.2.1 | exact h.2.2.1 | exact h.2.2.2.1 | exact h.2.2.2.2) (Nat.le_of_ble_eq_true rfl) rfl rfl (hA _ ⟨by omega, by omega⟩) (Pr' := Gp E a (upd (upd (upd (upd (upd (upd (upd (upd (upd gv 0 3) 1 2) 2 0) 3 (-1)) 4 0) 6 0) 7 0) 8 0) 9 0) fs) (fun H H' h h1 h2 => by exact Gp.wo (by omega) rfl h h1 h2) ?_
  refine g_aload_n hF dX3_begin_45 46 rfl rfl ?_
  refine g_callV hF cv_X3_52 (c_G_freeAllLines l E a _ fs) dX3_begin_46 49 rfl (st := []) rfl rfl ⟨Nat.le_of_ble_eq_true rfl, Nat.le_of_ble_eq_true rfl⟩ ⟨Nat.le_of_ble_eq_true rfl, Nat.le_of_ble_eq_true rfl⟩ rfl (Nat.le_of_ble_eq_true rfl) 3 rfl (by intro H h; first | exact h.1 | exact h.2.1 | exact h.2.2.1 | exact h.2.2.2.1 | exact h.2.2.2.2) (Pr' := _) (fun _ h => h) (hA) (fun _ _ _ h _ => by exact h) (st1 := []) rfl (k1 := 0) (n1 := 0) rfl rfl ?_
  exact g_vret hF dX3_begin_49 (Nat.le_of_ble_eq_true rfl) (Nat.le_of_ble_eq_true rfl) (fun H h => hR _ _ ⟨rfl, Gp.to h (fun w hw => by rcases (show w = 0 ∨ w = 1 ∨ w = 2 ∨ w = 3 ∨ w = 4 ∨ w = 5 ∨ w = 6 ∨ w = 7 ∨ w = 8 ∨ w = 9 by omega) with rfl | rfl | rfl | rfl | rfl | rfl | rfl | rfl | rfl | rfl <;> rfl) (fun l hl => ⟨gFree_hi (by omega), gFree_hi (by omega), gFree_hi (by omega)⟩)⟩)
set_option maxRecDepth 100000 in
set_option maxHeartbeats 4000000 in
theorem c_G_copyFrom (l : Launch) (E : Ev) (a b : Nat) (gv fs ov os : Nat → Int32) (hd : a + 5 ≤ b ∨ b + 5 ≤ a) : Ct l E yX3_copyFrom cX3_copyFrom 2 none (rm 2) [.ref a, .ref b] (fun H => Gp E a gv fs H ∧ Gp E b ov os H) (rV none (fun H => Gp E a ov os H ∧ Gp E b ov os H)) (rg a 5) := by
  refine ct_start (by decide) [some (.ref a), some (.ref b)] rfl (Nat.le_of_ble_eq_true rfl) ?_
  intro x hF hN hA hR
  have kb : ∀ {q : Nat} {H H' : Heap}, rg a 5 q → but q H H' → Gp E b ov os H → Gp E b ov os H' := fun {q H H'} hq h2 h => h.kept (fun z hz => h2.2 z (by have := hz.1; have := hz.2; have := hq.1; have := hq.2; omega))
  refine g_aload_n hF dX3_copyFrom_0 1 rfl rfl ?_
  refine g_aload_n hF dX3_copyFrom_1 2 rfl rfl ?_
  refine g_get hF fl_X3_24 dX3_copyFrom_2 5 rfl (by intro H h; first | exact h.1.1 | exact h.2.1) rfl ?_
  refine g_put hF pl_X3_24 dX3_copyFrom_5 8 rfl (by intro H h; first | exact h.1.1 | exact h.2.1) (Nat.le_of_ble_eq_true rfl) rfl rfl (hA _ ⟨by omega, by omega⟩) (Pr' := fun H => Gp E a (upd gv 0 (ov 0)) fs H ∧ Gp E b ov os H) (fun H H' h h1 h2 => by exact ⟨Gp.wo (by omega) rfl h.1 h1 h2, kb ⟨by omega, by omega⟩ h2 h.2⟩) ?_
  refine g_aload_n hF dX3_copyFrom_8 9 rfl rfl ?_
  refine g_aload_n hF dX3_copyFrom_9 10 rfl rfl ?_
  refine g_get hF fl_X3_28 dX3_copyFrom_10 13 rfl (by intro H h; first | exact h.1.1 | exact h.2.1) rfl ?_
  refine g_put hF pl_X3_28 dX3_copyFrom_13 16 rfl (by intro H h; first | exact h.1.1 | exact h.2.1) (Nat.le_of_ble_eq_true rfl) rfl rfl (hA _ ⟨by omega, by omega⟩) (Pr' := fun H => Gp E a (upd (upd gv 0 (ov 0)) 1 (ov 1)) fs H ∧ Gp E b ov os H) (fun H H' h h1 h2 => by exact ⟨Gp.wo (by omega) rfl h.1 h1 h2, kb ⟨by omega, by omega⟩ h2 h.2⟩) ?_
  refine g_aload_n hF dX3_copyFrom_16 17 rfl rfl ?_
  refine g_aload_n hF dX3_copyFrom_17 18 rfl rfl ?_
  refine g_get hF fl_X3_31 dX3_copyFrom_18 21 rfl (by intro H h; first | exact h.1.1 | exact h.2.1) rfl ?_
  refine g_put hF pl_X3_31 dX3_copyFrom_21 24 rfl (by intro H h; first | exact h.1.1 | exact h.2.1) (Nat.le_of_ble_eq_true rfl) rfl rfl (hA _ ⟨by omega, by omega⟩) (Pr' := fun H => Gp E a (upd (upd (upd gv 0 (ov 0)) 1 (ov 1)) 2 (ov 2)) fs H ∧ Gp E b ov os H) (fun H H' h h1 h2 => by exact ⟨Gp.wo (by omega) rfl h.1 h1 h2, kb ⟨by omega, by omega⟩ h2 h.2⟩) ?_
  refine g_aload_n hF dX3_copyFrom_24 25 rfl rfl ?_
  refine g_aload_n hF dX3_copyFrom_25 26 rfl rfl ?_
  refine g_get hF fl_X3_34 dX3_copyFrom_26 29 rfl (by intro H h; first | exact h.1.1 | exact h.2.1) rfl ?_
  refine g_put hF pl_X3_34 dX3_copyFrom_29 32 rfl (by intro H h; first | exact h.1.1 | exact h.2.1) (Nat.le_of_ble_eq_true rfl) rfl rfl (hA _ ⟨by omega, by omega⟩) (Pr' := fun H => Gp E a (upd (upd (upd (upd gv 0 (ov 0)) 1 (ov 1)) 2 (ov 2)) 3 (ov 3)) fs H ∧ Gp E b ov os H) (fun H H' h h1 h2 => by exact ⟨Gp.wo (by omega) rfl h.1 h1 h2, kb ⟨by omega, by omega⟩ h2 h.2⟩) ?_
  refine g_aload_n hF dX3_copyFrom_32 33 rfl rfl ?_
  refine g_aload_n hF dX3_copyFrom_33 34 rfl rfl ?_
  refine g_get hF fl_X3_37 dX3_copyFrom_34 37 rfl (by intro H h; first | exact h.1.1 | exact h.2.1) rfl ?_
  refine g_put hF pl_X3_37 dX3_copyFrom_37 40 rfl (by intro H h; first | exact h.1.1 | exact h.2.1) (Nat.le_of_ble_eq_true rfl) rfl rfl (hA _ ⟨by omega, by omega⟩) (Pr' := fun H => Gp E a (upd (upd (upd (upd (upd gv 0 (ov 0)) 1 (ov 1)) 2 (ov 2)) 3 (ov 3)) 4 (ov 4)) fs H ∧ Gp E b ov os H) (fun H H' h h1 h2 => by exact ⟨Gp.wo (by omega) rfl h.1 h1 h2, kb ⟨by omega, by omega⟩ h2 h.2⟩) ?_
  refine g_aload_n hF dX3_copyFrom_40 41 rfl rfl ?_
  refine g_aload_n hF dX3_copyFrom_41 42 rfl rfl ?_
  refine g_get hF fl_X3_40 dX3_copyFrom_42 45 rfl (by intro H h; first | exact h.1.1 | exact h.2.1) rfl ?_
  refine g_put hF pl_X3_40 dX3_copyFrom_45 48 rfl (by intro H h; first | exact h.1.1 | exact h.2.1) (Nat.le_of_ble_eq_true rfl) rfl rfl (hA _ ⟨by omega, by omega⟩) (Pr' := fun H => Gp E a (upd (upd (upd (upd (upd (upd gv 0 (ov 0)) 1 (ov 1)) 2 (ov 2)) 3 (ov 3)) 4 (ov 4)) 6 (ov 6)) fs H ∧ Gp E b ov os H) (fun H H' h h1 h2 => by exact ⟨Gp.wo (by omega) rfl h.1 h1 h2, kb ⟨by omega, by omega⟩ h2 h.2⟩) ?_
  refine g_aload_n hF dX3_copyFrom_48 49 rfl rfl ?_
  refine g_aload_n hF dX3_copyFrom_49 50 rfl rfl ?_
  refine g_get hF fl_X3_43 dX3_copyFrom_50 53 rfl (by intro H h; first | exact h.1.1 | exact h.2.1) rfl ?_
  refine g_put hF pl_X3_43 dX3_copyFrom_53 56 rfl (by intro H h; first | exact h.1.1 | exact h.2.1) (Nat.le_of_ble_eq_true rfl) rfl rfl (hA _ ⟨by omega, by omega⟩) (Pr' := fun H => Gp E a (upd (upd (upd (upd (upd (upd (upd gv 0 (ov 0)) 1 (ov 1)) 2 (ov 2)) 3 (ov 3)) 4 (ov 4)) 6 (ov 6)) 7 (ov 7)) fs H ∧ Gp E b ov os H) (fun H H' h h1 h2 => by exact ⟨Gp.wo (by omega) rfl h.1 h1 h2, kb ⟨by omega, by omega⟩ h2 h.2⟩) ?_
  refine g_aload_n hF dX3_copyFrom_56 57 rfl rfl ?_
  refine g_aload_n hF dX3_copyFrom_57 58 rfl rfl ?_
  refine g_get hF fl_X3_46 dX3_copyFrom_58 61 rfl (by intro H h; first | exact h.1.1 | exact h.2.1) rfl ?_
  refine g_put hF pl_X3_46 dX3_copyFrom_61 64 rfl (by intro H h; first | exact h.1.1 | exact h.2.1) (Nat.le_of_ble_eq_true rfl) rfl rfl (hA _ ⟨by omega, by omega⟩) (Pr' := fun H => Gp E a (upd (upd (upd (upd (upd (upd (upd (upd gv 0 (ov 0)) 1 (ov 1)) 2 (ov 2)) 3 (ov 3)) 4 (ov 4)) 6 (ov 6)) 7 (ov 7)) 8 (ov 8)) fs H ∧ Gp E b ov os H) (fun H H' h h1 h2 => by exact ⟨Gp.wo (by omega) rfl h.1 h1 h2, kb ⟨by omega, by omega⟩ h2 h.2⟩) ?_
  refine g_aload_n hF dX3_copyFrom_64 65 rfl rfl ?_
  refine g_aload_n hF dX3_copyFrom_65 66 rfl rfl ?_
  refine g_get hF fl_X3_49 dX3_copyFrom_66 69 rfl (by intro H h; first | exact h.1.1 | exact h.2.1) rfl ?_
  refine g_put hF pl_X3_49 dX3_copyFrom_69 72 rfl (by intro H h; first | exact h.1.1 | exact h.2.1) (Nat.le_of_ble_eq_true rfl) rfl rfl (hA _ ⟨by omega, by omega⟩) (Pr' := fun H => Gp E a (upd (upd (upd (upd (upd (upd (upd (upd (upd gv 0 (ov 0)) 1 (ov 1)) 2 (ov 2)) 3 (ov 3)) 4 (ov 4)) 6 (ov 6)) 7 (ov 7)) 8 (ov 8)) 9 (ov 9)) fs H ∧ Gp E b ov os H) (fun H H' h h1 h2 => by exact ⟨Gp.wo (by omega) rfl h.1 h1 h2, kb ⟨by omega, by omega⟩ h2 h.2⟩) ?_
  refine g_aload_n hF dX3_copyFrom_72 73 rfl rfl ?_
  refine g_aload_n hF dX3_copyFrom_73 74 rfl rfl ?_
  refine g_get hF fl_X3_55 dX3_copyFrom_74 77 rfl (by intro H h; first | exact h.1.1 | exact h.2.1) rfl ?_
  refine g_put hF pl_X3_55 dX3_copyFrom_77 80 rfl (by intro H h; first | exact h.1.1 | exact h.2.1) (Nat.le_of_ble_eq_true rfl) rfl rfl (hA _ ⟨by omega, by omega⟩) (Pr' := fun H => Gp E a (upd (upd (upd (upd (upd (upd (upd (upd (upd (upd gv 0 (ov 0)) 1 (ov 1)) 2 (ov 2)) 3 (ov 3)) 4 (ov 4)) 6 (ov 6)) 7 (ov 7)) 8 (ov 8)) 9 (ov 9)) 5 (ov 5)) fs H ∧ Gp E b ov os H) (fun H H' h h1 h2 => by exact ⟨Gp.wo (by omega) rfl h.1 h1 h2, kb ⟨by omega, by omega⟩ h2 h.2⟩) ?_
  refine g_aload_n hF dX3_copyFrom_80 81 rfl rfl ?_
  refine g_get hF fl_X3_9 dX3_copyFrom_81 84 rfl (by intro H h; first | exact h.1.1 | exact h.2.1) rfl ?_
  refine g_iconst hF (0) dX3_copyFrom_84 85 rfl rfl ?_
  refine g_aload_n hF dX3_copyFrom_85 86 rfl rfl ?_
  refine g_get hF fl_X3_9 dX3_copyFrom_86 89 rfl (by intro H h; first | exact h.1.1 | exact h.2.1) rfl ?_
  refine g_iconst hF (0) dX3_copyFrom_89 90 rfl rfl ?_
  refine g_bipush hF (6) dX3_copyFrom_90 92 rfl rfl ?_
  refine g_copy6 hF dX3_copyFrom_92 95 rfl (fun H h => h.2.2.1) (fun H h => h.1.2.1) (hA _ ⟨by omega, by omega⟩) (Nat.le_of_ble_eq_true rfl) (Nat.le_of_ble_eq_true rfl) rfl (Pr' := fun H => Gp E a (gcp 0 ov (upd (upd (upd (upd (upd (upd (upd (upd (upd (upd gv 0 (ov 0)) 1 (ov 1)) 2 (ov 2)) 3 (ov 3)) 4 (ov 4)) 6 (ov 6)) 7 (ov 7)) 8 (ov 8)) 9 (ov 9)) 5 (ov 5))) fs H ∧ Gp E b ov os H) (fun H H' h h1 h2 => by exact ⟨Gp.c1 h.1 h1 h2, kb ⟨by omega, by omega⟩ h2 h.2⟩) ?_
  refine g_aload_n hF dX3_copyFrom_95 96 rfl rfl ?_
  refine g_get hF fl_X3_15 dX3_copyFrom_96 99 rfl (by intro H h; first | exact h.1.1 | exact h.2.1) rfl ?_
  refine g_iconst hF (0) dX3_copyFrom_99 100 rfl rfl ?_
  refine g_aload_n hF dX3_copyFrom_100 101 rfl rfl ?_
  refine g_get hF fl_X3_15 dX3_copyFrom_101 104 rfl (by intro H h; first | exact h.1.1 | exact h.2.1) rfl ?_
  refine g_iconst hF (0) dX3_copyFrom_104 105 rfl rfl ?_
  refine g_bipush hF (6) dX3_copyFrom_105 107 rfl rfl ?_
  refine g_copy6 hF dX3_copyFrom_107 110 rfl (fun H h => h.2.2.2.1) (fun H h => h.1.2.2.1) (hA _ ⟨by omega, by omega⟩) (Nat.le_of_ble_eq_true rfl) (Nat.le_of_ble_eq_true rfl) rfl (Pr' := fun H => Gp E a (gcp 1 ov (gcp 0 ov (upd (upd (upd (upd (upd (upd (upd (upd (upd (upd gv 0 (ov 0)) 1 (ov 1)) 2 (ov 2)) 3 (ov 3)) 4 (ov 4)) 6 (ov 6)) 7 (ov 7)) 8 (ov 8)) 9 (ov 9)) 5 (ov 5)))) fs H ∧ Gp E b ov os H) (fun H H' h h1 h2 => by exact ⟨Gp.c2 h.1 h1 h2, kb ⟨by omega, by omega⟩ h2 h.2⟩) ?_
  refine g_aload_n hF dX3_copyFrom_110 111 rfl rfl ?_
  refine g_get hF fl_X3_18 dX3_copyFrom_111 114 rfl (by intro H h; first | exact h.1.1 | exact h.2.1) rfl ?_
  refine g_iconst hF (0) dX3_copyFrom_114 115 rfl rfl ?_
  refine g_aload_n hF dX3_copyFrom_115 116 rfl rfl ?_
  refine g_get hF fl_X3_18 dX3_copyFrom_116 119 rfl (by intro H h; first | exact h.1.1 | exact h.2.1) rfl ?_
  refine g_iconst hF (0) dX3_copyFrom_119 120 rfl rfl ?_
  refine g_bipush hF (6) dX3_copyFrom_120 122 rfl rfl ?_
  refine g_copy6 hF dX3_copyFrom_122 125 rfl (fun H h => h.2.2.2.2.1) (fun H h => h.1.2.2.2.1) (hA _ ⟨by omega, by omega⟩) (Nat.le_of_ble_eq_true rfl) (Nat.le_of_ble_eq_true rfl) rfl (Pr' := fun H => Gp E a (gcp 2 ov (gcp 1 ov (gcp 0 ov (upd (upd (upd (upd (upd (upd (upd (upd (upd (upd gv 0 (ov 0)) 1 (ov 1)) 2 (ov 2)) 3 (ov 3)) 4 (ov 4)) 6 (ov 6)) 7 (ov 7)) 8 (ov 8)) 9 (ov 9)) 5 (ov 5))))) fs H ∧ Gp E b ov os H) (fun H H' h h1 h2 => by exact ⟨Gp.c3 h.1 h1 h2, kb ⟨by omega, by omega⟩ h2 h.2⟩) ?_
  refine g_aload_n hF dX3_copyFrom_125 126 rfl rfl ?_
  refine g_get hF fl_X3_21 dX3_copyFrom_126 129 rfl (by intro H h; first | exact h.1.1 | exact h.2.1) rfl ?_
  refine g_iconst hF (0) dX3_copyFrom_129 130 rfl rfl ?_
  refine g_aload_n hF dX3_copyFrom_130 131 rfl rfl ?_
  refine g_get hF fl_X3_21 dX3_copyFrom_131 134 rfl (by intro H h; first | exact h.1.1 | exact h.2.1) rfl ?_
  refine g_iconst hF (0) dX3_copyFrom_134 135 rfl rfl ?_
  refine g_bipush hF (6) dX3_copyFrom_135 137 rfl rfl ?_
  refine g_copy6 hF dX3_copyFrom_137 140 rfl (fun H h => h.2.2.2.2.2) (fun H h => h.1.2.2.2.2) (hA _ ⟨by omega, by omega⟩) (Nat.le_of_ble_eq_true rfl) (Nat.le_of_ble_eq_true rfl) rfl (Pr' := fun H => Gp E a (gcp 2 ov (gcp 1 ov (gcp 0 ov (upd (upd (upd (upd (upd (upd (upd (upd (upd (upd gv 0 (ov 0)) 1 (ov 1)) 2 (ov 2)) 3 (ov 3)) 4 (ov 4)) 6 (ov 6)) 7 (ov 7)) 8 (ov 8)) 9 (ov 9)) 5 (ov 5))))) os H ∧ Gp E b ov os H) (fun H H' h h1 h2 => by exact ⟨Gp.c4 h.1 h1 h2, kb ⟨by omega, by omega⟩ h2 h.2⟩) ?_
  exact g_vret hF dX3_copyFrom_140 (Nat.le_of_ble_eq_true rfl) (Nat.le_of_ble_eq_true rfl) (fun H h => hR _ _ ⟨rfl, ⟨Gp.to h.1 (fun w hw => by rcases (show w = 0 ∨ w = 1 ∨ w = 2 ∨ w = 3 ∨ w = 4 ∨ w = 5 ∨ w = 6 ∨ w = 7 ∨ w = 8 ∨ w = 9 by omega) with rfl | rfl | rfl | rfl | rfl | rfl | rfl | rfl | rfl | rfl <;> rfl) (fun l hl => ⟨(gcp_ne (by omega)).trans ((gcp_ne (by omega)).trans (gcp_at (by omega) (by omega))), (gcp_ne (by omega)).trans (gcp_at (by omega) (by omega)), gcp_at (by omega) (by omega)⟩), h.2⟩⟩)
end
section
/-! TrunkReserve$Net. A net's value: how many groups, the time, the calls, the groups' rows. -/
abbrev NV : Type := Int32 × Int32 × Int32 × (Nat → Nat → Int32)
def Np (E : Ev) (a : Nat) (v : NV) (fss : Nat → Nat → Int32) (H : Heap) : Prop := ob E 6 a [.int v.1, .int v.2.1, .int v.2.2.1, .ref (a + 1)] H ∧ aq E E.2.2.2.2.1 (a + 1) 4 (fun j => some (a + 2 + 5 * j)) H ∧ ∀ g, g < 4 → Gp E (a + 2 + 5 * g) (v.2.2.2 g) (fss g) H
theorem aq_kept {E : Ev} {c : ClassId} {a n : Nat} {f : Nat → Option Nat} {H H' : Heap} (h : aq E c a n f H) (hq : H'[a]? = H[a]?) : aq E c a n f H' := va_at.kept h hq
theorem Np.kept {E : Ev} {a : Nat} {v : NV} {fss : Nat → Nat → Int32} {H H' : Heap} (h : Np E a v fss H) (hq : ∀ q, rg a 22 q → H'[q]? = H[q]?) : Np E a v fss H' :=
  ⟨ob_kept h.1 (hq _ ⟨by omega, by omega⟩), aq_kept h.2.1 (hq _ ⟨by omega, by omega⟩), fun g hg => (h.2.2 g hg).kept (fun q h => hq q ⟨by have := h.1; omega, by have := h.2; omega⟩)⟩
theorem Np.to {E : Ev} {a : Nat} {v v' : NV} {fss fss' : Nat → Nat → Int32} {H : Heap} (h : Np E a v fss H) (h1 : v.1 = v'.1) (h2 : v.2.1 = v'.2.1) (h3 : v.2.2.1 = v'.2.2.1) (h4 : ∀ g, g < 4 → v.2.2.2 g = v'.2.2.2 g ∧ fss g = fss' g) : Np E a v' fss' H :=
  ⟨h1 ▸ h2 ▸ h3 ▸ h.1, h.2.1, fun g hg => (h4 g hg).1 ▸ (h4 g hg).2 ▸ h.2.2 g hg⟩
/-- the net's own cell is written -/
theorem Np.wo {E : Ev} {a : Nat} {x0 y0 z0 : Int32} {gs : Nat → Nat → Int32} {fss : Nat → Nat → Int32} {H H' : Heap} (x y z : Int32) (h : Np E a (x0, y0, z0, gs) fss H) (h1 : ob E 6 a [.int x, .int y, .int z, .ref (a + 1)] H') (h2 : but a H H') : Np E a (x, y, z, gs) fss H' :=
  ⟨h1, aq_kept h.2.1 (h2.2 _ (by omega)), fun g hg => (h.2.2 g hg).kept (fun q hq => h2.2 q (by have := hq.1; omega))⟩
/-- one of its groups has changed -/
theorem Np.grp {E : Ev} {a g : Nat} {v : NV} {fss : Nat → Nat → Int32} {gv fs : Nat → Int32} {H H' : Heap} (hg : g < 4) (h : Np E a v fss H) (h1 : Gp E (a + 2 + 5 * g) gv fs H') (h2 : out (rg (a + 2 + 5 * g) 5) H H') : Np E a (v.1, v.2.1, v.2.2.1, va_up v.2.2.2 g gv) (va_up fss g fs) H' := by
  refine ⟨ob_kept h.1 (out_at h2 h.1 (fun z => by have := z.1; dsimp only at this; omega)), aq_kept h.2.1 (out_at h2 h.2.1 (fun z => by have := z.1; dsimp only at this; omega)), fun j hj => ?_⟩
  by_cases e : j = g
  · subst e
    rw [show ((v.1, v.2.1, v.2.2.1, va_up v.2.2.2 j gv) : NV).2.2.2 j = gv from va_up_self _ _ _, va_up_self]
    exact h1
  · rw [show ((v.1, v.2.1, v.2.2.1, va_up v.2.2.2 g gv) : NV).2.2.2 j = v.2.2.2 j from va_up_ne _ _ e, va_up_ne _ _ e]
    exact (h.2.2 j hj).kept (fun q hq => h2.2 q ((h.2.2 j hj).lt q hq) (fun z => by have := z.1; have := z.2; have := hq.1; have := hq.2; omega))
theorem Np.grpb {E : Ev} {a g q : Nat} {v : NV} {fss : Nat → Nat → Int32} {gv fs : Nat → Int32} {H H' : Heap} (hg : g < 4) (hq : rg (a + 2 + 5 * g) 5 q) (h : Np E a v fss H) (h1 : Gp E (a + 2 + 5 * g) gv fs H') (h2 : but q H H') : Np E a (v.1, v.2.1, v.2.2.1, va_up v.2.2.2 g gv) (va_up fss g fs) H' :=
  Np.grp hg h h1 ⟨by rw [h2.1]; exact Nat.le_refl _, fun b _ hb => h2.2 b (fun e => hb (by rw [e]; exact hq))⟩
theorem va_up_same {α : Type} (f : Nat → α) (k j : Nat) : va_up f k (f k) j = f j := by
  by_cases h : j = k
  · subst h; exact va_up_self _ _ _
  · exact va_up_ne _ _ h
theorem np_le {E : Ev} {a : Nat} {v : NV} {fss : Nat → Nat → Int32} {H : Heap} (h : Np E a v fss H) : a + 22 ≤ H.size := (h.2.2 3 (by omega)).lt (a + 21) ⟨by omega, by omega⟩
theorem n_aa {a j : Nat} (hj : j < 4) : (fun j => some (a + 2 + 5 * j)) (nI j).toNatClampNeg = some (a + 2 + 5 * j) := by
  show some (a + 2 + 5 * (nI j).toNatClampNeg) = _
  rw [nI_clamp (by omega)]
set_option maxRecDepth 100000 in
set_option maxHeartbeats 4000000 in
theorem c_N_groupAt (l : Launch) (E : Ev) (a : Nat) (v : NV) (fss : Nat → Nat → Int32) (G g : Nat) (hG : v.1 = nI G) (hG4 : G ≤ 4) (hg : g < G) : Ct l E yX6_groupAt cX6_groupAt 2 (some (.object "TrunkReserve$Group")) (rm 1) [.ref a, .int (nI g)] (Np E a v fss) (rV (some (.ref (a + 2 + 5 * g))) (Np E a v fss)) (fun _ => False) := by
  refine ct_start (by decide) [some (.ref a), some (.int (nI g))] rfl (Nat.le_of_ble_eq_true rfl) ?_
  intro x hF hN hA hR
  refine g_iload_n hF dX6_groupAt_0 1 rfl rfl ?_
  refine g_if_lt hF dX6_groupAt_1 4 rfl 21 (by decide) (fun c => absurd c (nI_pos (by omega))) (fun _ => ?_)
  refine g_iload_n hF dX6_groupAt_4 5 rfl rfl ?_
  refine g_aload_n hF dX6_groupAt_5 6 rfl rfl ?_
  refine g_get hF fl_X6_22 dX6_groupAt_6 9 rfl (by intro H h; first | exact h.1 | exact h.2.1) rfl ?_
  refine g_icmp_ge hF dX6_groupAt_9 12 rfl 21 (by decide) (fun c => absurd c (hG ▸ fun z => absurd (i_le z (by omega) (by omega)) (by omega))) (fun _ => ?_)
  refine g_aload_n hF dX6_groupAt_12 13 rfl rfl ?_
  refine g_get hF fl_X6_11 dX6_groupAt_13 16 rfl (by intro H h; first | exact h.1 | exact h.2.1) rfl ?_
  refine g_iload_n hF dX6_groupAt_16 17 rfl rfl ?_
  refine g_aald hF 3 dX6_groupAt_17 18 rfl rfl (by intro H h; first | exact h.1 | exact h.2.1) (vp_in_nI (show g < 4 by omega) (by omega)) (n_aa (j := g) (by omega)) ?_
  refine g_goto hF dX6_groupAt_18 22 (by decide) ?_
  exact g_aret hF (Or.inr ⟨_, rfl⟩) dX6_groupAt_22 (Nat.le_of_ble_eq_true rfl) (Nat.le_of_ble_eq_true rfl) (fun H h => hR _ _ ⟨rfl, h⟩)
set_option maxRecDepth 100000 in
set_option maxHeartbeats 4000000 in
theorem c_N_groupAtN (l : Launch) (E : Ev) (a : Nat) (v : NV) (fss : Nat → Nat → Int32) (z : Int32) (hz : z < 0 ∨ v.1 ≤ z) : Ct l E yX6_groupAt cX6_groupAt 2 (some (.object "TrunkReserve$Group")) (rm 1) [.ref a, .int z] (Np E a v fss) (rV (some .null) (Np E a v fss)) (fun _ => False) := by
  refine ct_start (by decide) [some (.ref a), some (.int z)] rfl (Nat.le_of_ble_eq_true rfl) ?_
  intro x hF hN hA hR
  refine g_iload_n hF dX6_groupAt_0 1 rfl rfl ?_
  refine g_if_lt hF dX6_groupAt_1 4 rfl 21 (by decide) (fun c1 => ?_) (fun c1 => ?_)
  · refine g_null hF dX6_groupAt_21 22 rfl ?_
    exact g_aret hF (Or.inl rfl) dX6_groupAt_22 (Nat.le_of_ble_eq_true rfl) (Nat.le_of_ble_eq_true rfl) (fun H h => hR _ _ ⟨rfl, h⟩)
  · refine g_iload_n hF dX6_groupAt_4 5 rfl rfl ?_
    refine g_aload_n hF dX6_groupAt_5 6 rfl rfl ?_
    refine g_get hF fl_X6_22 dX6_groupAt_6 9 rfl (by intro H h; first | exact h.1 | exact h.2.1) rfl ?_
    refine g_icmp_ge hF dX6_groupAt_9 12 rfl 21 (by decide) (fun c9 => ?_) (fun c9 => ?_)
    · refine g_null hF dX6_groupAt_21 22 rfl ?_
      exact g_aret hF (Or.inl rfl) dX6_groupAt_22 (Nat.le_of_ble_eq_true rfl) (Nat.le_of_ble_eq_true rfl) (fun H h => hR _ _ ⟨rfl, h⟩)
    · exact absurd hz (fun h => h.elim c1 c9)
set_option maxRecDepth 100000 in
set_option maxHeartbeats 4000000 in
theorem c_N_gwl (l : Launch) (E : Ev) (a : Nat) (v : NV) (fss : Nat → Nat → Int32) (G g N i : Nat) (hG : v.1 = nI G) (hG4 : G ≤ 4) (hg : g < G) (hN0 : v.2.2.2 g 0 = nI N) (hN6 : N ≤ 6) (hi : i < N) : Ct l E yX6_groupWithLine cX6_groupWithLine 4 (some (.object "TrunkReserve$Group")) (rm 2) [.ref a, .int (nI g), .int (nI i)] (Np E a v fss) (rV (some (.ref (a + 2 + 5 * g))) (Np E a v fss)) (fun _ => False) := by
  refine ct_start (by decide) [some (.ref a), some (.int (nI g)), some (.int (nI i)), none] rfl (Nat.le_of_ble_eq_true rfl) ?_
  intro x hF hN hA hR
  have hg4 : g < 4 := by omega
  have e1 : (if 0 ≤ nI i ∧ nI i < v.2.2.2 g 0 then (1 : Int32) else 0) = 1 := if_pos ⟨nI_pos' (by omega), by rw [hN0]; exact (nI_ltI (by omega) (by omega)).mpr hi⟩
  refine g_aload_n hF dX6_groupWithLine_0 1 rfl rfl ?_
  refine g_iload_n hF dX6_groupWithLine_1 2 rfl rfl ?_
  refine g_callV hF cv_X6_38 (c_N_groupAt l E a v fss G g hG hG4 hg) dX6_groupWithLine_2 5 rfl (st := []) rfl rfl ⟨Nat.le_of_ble_eq_true rfl, Nat.le_of_ble_eq_true rfl⟩ ⟨Nat.le_of_ble_eq_true rfl, Nat.le_of_ble_eq_true rfl⟩ rfl (Nat.le_of_ble_eq_true rfl) 6 rfl (by intro H h; first | exact h.1 | exact h.2.1 | exact (h.2.2 g hg4).1) (Pr' := _) (fun _ h => h) (hA) (fun _ _ _ h _ => by exact h) (st1 := [_]) rfl (k1 := 0) (n1 := 0) rfl rfl ?_
  refine g_astore_n hF dX6_groupWithLine_5 6 rfl (lo' := [_, _, _, _]) (Nat.le_of_ble_eq_true rfl) rfl ?_
  refine g_aload_n hF dX6_groupWithLine_6 7 rfl rfl ?_
  refine g_ifnull hF dX6_groupWithLine_7 10 rfl ?_
  refine g_aload_n hF dX6_groupWithLine_10 11 rfl rfl ?_
  refine g_iload_n hF dX6_groupWithLine_11 12 rfl rfl ?_
  refine g_callV hF cv_X6_42 (c_G_hasLine l E (a + 2 + 5 * g) (v.2.2.2 g) (fss g) (nI i)) dX6_groupWithLine_12 15 rfl (st := []) rfl rfl ⟨Nat.le_of_ble_eq_true rfl, Nat.le_of_ble_eq_true rfl⟩ ⟨Nat.le_of_ble_eq_true rfl, Nat.le_of_ble_eq_true rfl⟩ rfl (Nat.le_of_ble_eq_true rfl) 3 rfl (by intro H h; first | exact h.1 | exact h.2.1 | exact (h.2.2 g hg4).1) (Pr' := Np E a v fss) (fun H h => h.2.2 g hg4) (fun q z => z.elim) (fun H H' h h1 h2 => by exact Np.to (Np.grp hg4 h h1 ⟨h2.1, fun b hb _ => h2.2 b hb (fun z => z)⟩) rfl rfl rfl (fun j _ => ⟨va_up_same v.2.2.2 g j, va_up_same fss g j⟩)) (st1 := [_]) rfl (k1 := 0) (n1 := 0) rfl rfl ?_
  rw [e1]
  refine g_if_eq hF dX6_groupWithLine_15 18 rfl 22 (by decide) (fun c => absurd c ((by decide))) (fun _ => ?_)
  refine g_aload_n hF dX6_groupWithLine_18 19 rfl rfl ?_
  refine g_goto hF dX6_groupWithLine_19 23 (by decide) ?_
  exact g_aret hF (Or.inr ⟨_, rfl⟩) dX6_groupWithLine_23 (Nat.le_of_ble_eq_true rfl) (Nat.le_of_ble_eq_true rfl) (fun H h => hR _ _ ⟨rfl, h⟩)
set_option maxRecDepth 100000 in
set_option maxHeartbeats 4000000 in
theorem c_N_gwlN (l : Launch) (E : Ev) (a : Nat) (v : NV) (fss : Nat → Nat → Int32) (G : Nat) (z w : Int32) (hG : v.1 = nI G) (hG4 : G ≤ 4) (hz : (z < 0 ∨ v.1 ≤ z) ∨ ∃ g, g < G ∧ z = nI g ∧ (w < 0 ∨ v.2.2.2 g 0 ≤ w)) : Ct l E yX6_groupWithLine cX6_groupWithLine 4 (some (.object "TrunkReserve$Group")) (rm 2) [.ref a, .int z, .int w] (Np E a v fss) (rV (some .null) (Np E a v fss)) (fun _ => False) := by
  refine ct_start (by decide) [some (.ref a), some (.int z), some (.int w), none] rfl (Nat.le_of_ble_eq_true rfl) ?_
  intro x hF hN hA hR
  rcases hz with hz | ⟨g, hg, rfl, hw⟩
  · refine g_aload_n hF dX6_groupWithLine_0 1 rfl rfl ?_
    refine g_iload_n hF dX6_groupWithLine_1 2 rfl rfl ?_
    refine g_callV hF cv_X6_38 (c_N_groupAtN l E a v fss z hz) dX6_groupWithLine_2 5 rfl (st := []) rfl rfl ⟨Nat.le_of_ble_eq_true rfl, Nat.le_of_ble_eq_true rfl⟩ ⟨Nat.le_of_ble_eq_true rfl, Nat.le_of_ble_eq_true rfl⟩ rfl (Nat.le_of_ble_eq_true rfl) 6 rfl (by intro H h; first | exact h.1 | exact h.2.1 | exact (h.2.2 g hg4).1) (Pr' := _) (fun _ h => h) (hA) (fun _ _ _ h _ => by exact h) (st1 := [_]) rfl (k1 := 0) (n1 := 0) rfl rfl ?_
    refine g_astore_nN hF dX6_groupWithLine_5 6 rfl (lo' := [_, _, _, _]) (Nat.le_of_ble_eq_true rfl) rfl ?_
    refine g_aload_nN hF dX6_groupWithLine_6 7 rfl rfl ?_
    refine g_ifnullN hF dX6_groupWithLine_7 22 (by decide) ?_
    refine g_null hF dX6_groupWithLine_22 23 rfl ?_
    exact g_aret hF (Or.inl rfl) dX6_groupWithLine_23 (Nat.le_of_ble_eq_true rfl) (Nat.le_of_ble_eq_true rfl) (fun H h => hR _ _ ⟨rfl, h⟩)
  · have hg4 : g < 4 := by omega
    have e1 : (if 0 ≤ w ∧ w < v.2.2.2 g 0 then (1 : Int32) else 0) = 0 := if_neg (fun h => hw.elim (fun q => absurd h.1 (Int32.not_le.mpr q)) (fun q => absurd h.2 (Int32.not_lt.mpr q)))
    refine g_aload_n hF dX6_groupWithLine_0 1 rfl rfl ?_
    refine g_iload_n hF dX6_groupWithLine_1 2 rfl rfl ?_
    refine g_callV hF cv_X6_38 (c_N_groupAt l E a v fss G g hG hG4 hg) dX6_groupWithLine_2 5 rfl (st := []) rfl rfl ⟨Nat.le_of_ble_eq_true rfl, Nat.le_of_ble_eq_true rfl⟩ ⟨Nat.le_of_ble_eq_true rfl, Nat.le_of_ble_eq_true rfl⟩ rfl (Nat.le_of_ble_eq_true rfl) 6 rfl (by intro H h; first | exact h.1 | exact h.2.1 | exact (h.2.2 g hg4).1) (Pr' := _) (fun _ h => h) (hA) (fun _ _ _ h _ => by exact h) (st1 := [_]) rfl (k1 := 0) (n1 := 0) rfl rfl ?_
    refine g_astore_n hF dX6_groupWithLine_5 6 rfl (lo' := [_, _, _, _]) (Nat.le_of_ble_eq_true rfl) rfl ?_
    refine g_aload_n hF dX6_groupWithLine_6 7 rfl rfl ?_
    refine g_ifnull hF dX6_groupWithLine_7 10 rfl ?_
    refine g_aload_n hF dX6_groupWithLine_10 11 rfl rfl ?_
    refine g_iload_n hF dX6_groupWithLine_11 12 rfl rfl ?_
    refine g_callV hF cv_X6_42 (c_G_hasLine l E (a + 2 + 5 * g) (v.2.2.2 g) (fss g) w) dX6_groupWithLine_12 15 rfl (st := []) rfl rfl ⟨Nat.le_of_ble_eq_true rfl, Nat.le_of_ble_eq_true rfl⟩ ⟨Nat.le_of_ble_eq_true rfl, Nat.le_of_ble_eq_true rfl⟩ rfl (Nat.le_of_ble_eq_true rfl) 3 rfl (by intro H h; first | exact h.1 | exact h.2.1 | exact (h.2.2 g hg4).1) (Pr' := Np E a v fss) (fun H h => h.2.2 g hg4) (fun q z => z.elim) (fun H H' h h1 h2 => by exact Np.to (Np.grp hg4 h h1 ⟨h2.1, fun b hb _ => h2.2 b hb (fun z => z)⟩) rfl rfl rfl (fun j _ => ⟨va_up_same v.2.2.2 g j, va_up_same fss g j⟩)) (st1 := [_]) rfl (k1 := 0) (n1 := 0) rfl rfl ?_
    rw [e1]
    refine g_if_eq hF dX6_groupWithLine_15 18 rfl 22 (by decide) (fun _ => ?_) (fun c => absurd (rfl) c)
    refine g_null hF dX6_groupWithLine_22 23 rfl ?_
    exact g_aret hF (Or.inl rfl) dX6_groupWithLine_23 (Nat.le_of_ble_eq_true rfl) (Nat.le_of_ble_eq_true rfl) (fun H h => hR _ _ ⟨rfl, h⟩)
/-- how many lines of a group are so -/
def cnt (gv : Nat → Int32) (w : Int32) : Int32 := bitC (sSet gv w (gv 0).toNatClampNeg)
def sHeld (gs : Nat → Nat → Int32) : Nat → Int32
  | 0 => 0
  | k + 1 => sHeld gs k + cnt (gs k) 1
def sLost (gs : Nat → Nat → Int32) : Nat → Int32
  | 0 => 0
  | k + 1 => sLost gs k + gs k 9
set_option maxRecDepth 100000 in
set_option maxHeartbeats 4000000 in
theorem c_N_heldLines (l : Launch) (E : Ev) (a : Nat) (v : NV) (fss : Nat → Nat → Int32) (G : Nat) (hG : v.1 = nI G) (hG4 : G ≤ 4) (hn : ∀ g, g < 4 → ∃ N, N ≤ 6 ∧ v.2.2.2 g 0 = nI N) : Ct l E yX6_heldLines cX6_heldLines 3 (some .int) (rm 3) [.ref a] (Np E a v fss) (rV (some (.int (sHeld v.2.2.2 G))) (Np E a v fss)) (fun _ => False) := by
  refine ct_start (by decide) [some (.ref a), none, none] rfl (Nat.le_of_ble_eq_true rfl) ?_
  intro x hF hN hA hR
  have loop : ∀ (n j : Nat) (s i : Int32), G - j < n → j ≤ G → i = nI j → s = sHeld v.2.2.2 j → go l (rm 3) E x 0 0 (Np E a v fss) [some (.ref a), some (.int s), some (.int i)] 4 [] := by
    intro n
    induction n with
    | zero => intro j s i h; omega
    | succ n ih =>
      intro j s i hn0 hj hi hs
      subst hi
      refine g_iload_n hF dX6_heldLines_4 5 rfl rfl ?_
      refine g_aload_n hF dX6_heldLines_5 6 rfl rfl ?_
      refine g_get hF fl_X6_22 dX6_heldLines_6 9 rfl (by intro H h; first | exact h.1 | exact h.2.1 | exact (h.2.2 j hj4).1) rfl ?_
      refine g_icmp_ge hF dX6_heldLines_9 12 rfl 31 (by decide) (fun c9 => ?_) (fun c9 => ?_)
      · refine g_iload_n hF dX6_heldLines_31 32 rfl rfl ?_
        exact g_iret hF dX6_heldLines_32 (Nat.le_of_ble_eq_true rfl) (Nat.le_of_ble_eq_true rfl) (fun H h => hR _ _ ⟨congrArg (fun z => some (Value.int z)) (by have := i_le (hG ▸ c9) (by omega) (by omega); rw [hs, show j = G by omega]), h⟩)
      · have hlt : j < G := i_nle (hG ▸ c9) (by omega) (by omega)
        have hj4 : j < 4 := by omega
        obtain ⟨N, hN6, hN0⟩ := hn j hj4
        refine g_iload_n hF dX6_heldLines_12 13 rfl rfl ?_
        refine g_aload_n hF dX6_heldLines_13 14 rfl rfl ?_
        refine g_get hF fl_X6_11 dX6_heldLines_14 17 rfl (by intro H h; first | exact h.1 | exact h.2.1 | exact (h.2.2 j hj4).1) rfl ?_
        refine g_iload_n hF dX6_heldLines_17 18 rfl rfl ?_
        refine g_aald hF 3 dX6_heldLines_18 19 rfl rfl (by intro H h; first | exact h.1 | exact h.2.1 | exact (h.2.2 j hj4).1) (vp_in_nI hj4 (by omega)) (n_aa hj4) ?_
        refine g_iconst hF (1) dX6_heldLines_19 20 rfl rfl ?_
        refine g_callV hF cv_X6_46 (c_G_count l E (a + 2 + 5 * j) (v.2.2.2 j) (fss j) 1 N hN0 hN6) dX6_heldLines_20 23 rfl (st := [_]) rfl rfl ⟨Nat.le_of_ble_eq_true rfl, Nat.le_of_ble_eq_true rfl⟩ ⟨Nat.le_of_ble_eq_true rfl, Nat.le_of_ble_eq_true rfl⟩ rfl (Nat.le_of_ble_eq_true rfl) 3 rfl (by intro H h; first | exact h.1 | exact h.2.1 | exact (h.2.2 j hj4).1) (Pr' := Np E a v fss) (fun H h => h.2.2 j hj4) (fun q z => z.elim) (fun H H' h h1 h2 => by exact Np.to (Np.grp hj4 h h1 ⟨h2.1, fun b hb _ => h2.2 b hb (fun z => z)⟩) rfl rfl rfl (fun i _ => ⟨va_up_same v.2.2.2 j i, va_up_same fss j i⟩)) (st1 := [_, _]) rfl (k1 := 0) (n1 := 0) rfl rfl ?_
        refine g_iadd hF dX6_heldLines_23 24 rfl ?_
        refine g_istore_n hF dX6_heldLines_24 25 rfl (lo' := [_, _, _]) (Nat.le_of_ble_eq_true rfl) rfl ?_
        refine g_iinc hF dX6_heldLines_25 28 rfl (1) rfl (lo' := [_, _, _]) rfl rfl ?_
        refine g_goto hF dX6_heldLines_28 4 (by decide) ?_
        exact ih (j + 1) _ _ (by omega) (by omega) (nI_succ j).symm (by rw [hs]; show _ = sHeld v.2.2.2 j + cnt (v.2.2.2 j) 1; unfold cnt; rw [hN0, nI_clamp (by omega)])
  refine g_iconst hF (0) dX6_heldLines_0 1 rfl rfl ?_
  refine g_istore_n hF dX6_heldLines_1 2 rfl (lo' := [_, _, _]) (Nat.le_of_ble_eq_true rfl) rfl ?_
  refine g_iconst hF (0) dX6_heldLines_2 3 rfl rfl ?_
  refine g_istore_n hF dX6_heldLines_3 4 rfl (lo' := [_, _, _]) (Nat.le_of_ble_eq_true rfl) rfl ?_
  exact loop (G + 1) 0 0 0 (by omega) (by omega) nI_0.symm rfl
set_option maxRecDepth 100000 in
set_option maxHeartbeats 4000000 in
theorem c_N_lostCalls (l : Launch) (E : Ev) (a : Nat) (v : NV) (fss : Nat → Nat → Int32) (G : Nat) (hG : v.1 = nI G) (hG4 : G ≤ 4) : Ct l E yX6_lostCalls cX6_lostCalls 3 (some .int) (rm 1) [.ref a] (Np E a v fss) (rV (some (.int (sLost v.2.2.2 G))) (Np E a v fss)) (fun _ => False) := by
  refine ct_start (by decide) [some (.ref a), none, none] rfl (Nat.le_of_ble_eq_true rfl) ?_
  intro x hF hN hA hR
  have loop : ∀ (n j : Nat) (s i : Int32), G - j < n → j ≤ G → i = nI j → s = sLost v.2.2.2 j → go l (rm 1) E x 0 0 (Np E a v fss) [some (.ref a), some (.int s), some (.int i)] 4 [] := by
    intro n
    induction n with
    | zero => intro j s i h; omega
    | succ n ih =>
      intro j s i hn0 hj hi hs
      subst hi
      refine g_iload_n hF dX6_lostCalls_4 5 rfl rfl ?_
      refine g_aload_n hF dX6_lostCalls_5 6 rfl rfl ?_
      refine g_get hF fl_X6_22 dX6_lostCalls_6 9 rfl (by intro H h; first | exact h.1 | exact h.2.1 | exact (h.2.2 j hj4).1) rfl ?_
      refine g_icmp_ge hF dX6_lostCalls_9 12 rfl 30 (by decide) (fun c9 => ?_) (fun c9 => ?_)
      · refine g_iload_n hF dX6_lostCalls_30 31 rfl rfl ?_
        exact g_iret hF dX6_lostCalls_31 (Nat.le_of_ble_eq_true rfl) (Nat.le_of_ble_eq_true rfl) (fun H h => hR _ _ ⟨congrArg (fun z => some (Value.int z)) (by have := i_le (hG ▸ c9) (by omega) (by omega); rw [hs, show j = G by omega]), h⟩)
      · have hlt : j < G := i_nle (hG ▸ c9) (by omega) (by omega)
        have hj4 : j < 4 := by omega
        refine g_iload_n hF dX6_lostCalls_12 13 rfl rfl ?_
        refine g_aload_n hF dX6_lostCalls_13 14 rfl rfl ?_
        refine g_get hF fl_X6_11 dX6_lostCalls_14 17 rfl (by intro H h; first | exact h.1 | exact h.2.1 | exact (h.2.2 j hj4).1) rfl ?_
        refine g_iload_n hF dX6_lostCalls_17 18 rfl rfl ?_
        refine g_aald hF 3 dX6_lostCalls_18 19 rfl rfl (by intro H h; first | exact h.1 | exact h.2.1 | exact (h.2.2 j hj4).1) (vp_in_nI hj4 (by omega)) (n_aa hj4) ?_
        refine g_get hF fl_X6_50 dX6_lostCalls_19 22 rfl (by intro H h; first | exact h.1 | exact h.2.1 | exact (h.2.2 j hj4).1) rfl ?_
        refine g_iadd hF dX6_lostCalls_22 23 rfl ?_
        refine g_istore_n hF dX6_lostCalls_23 24 rfl (lo' := [_, _, _]) (Nat.le_of_ble_eq_true rfl) rfl ?_
        refine g_iinc hF dX6_lostCalls_24 27 rfl (1) rfl (lo' := [_, _, _]) rfl rfl ?_
        refine g_goto hF dX6_lostCalls_27 4 (by decide) ?_
        exact ih (j + 1) _ _ (by omega) (by omega) (nI_succ j).symm (by rw [hs]; rfl)
  refine g_iconst hF (0) dX6_lostCalls_0 1 rfl rfl ?_
  refine g_istore_n hF dX6_lostCalls_1 2 rfl (lo' := [_, _, _]) (Nat.le_of_ble_eq_true rfl) rfl ?_
  refine g_iconst hF (0) dX6_lostCalls_2 3 rfl rfl ?_
  refine g_istore_n hF dX6_lostCalls_3 4 rfl (lo' := [_, _, _]) (Nat.le_of_ble_eq_true rfl) rfl ?_
  exact loop (G + 1) 0 0 0 (by omega) (by omega) nI_0.symm rfl
set_option maxRecDepth 100000 in
set_option maxHeartbeats 4000000 in
theorem c_N_begin (l : Launch) (E : Ev) (a : Nat) (v : NV) (fss : Nat → Nat → Int32) (z : Int32) : Ct l E yX6_begin cX6_begin 3 none (rm 4) [.ref a, .int z] (Np E a v fss) (rV none (Np E a (z, 0, 0, fun _ => g0) (fun _ _ => 0))) (rg a 22) := by
  refine ct_start (by decide) [some (.ref a), some (.int z), none] rfl (Nat.le_of_ble_eq_true rfl) ?_
  intro x hF hN hA hR
  have loop : ∀ (n j : Nat) (i : Int32) (gs fss : Nat → Nat → Int32), 4 - j < n → j ≤ 4 → i = nI j → (∀ g, g < j → gs g = g0 ∧ fss g = fun _ => 0) → go l (rm 4) E x 0 0 (Np E a (z, 0, 0, gs) fss) [some (.ref a), some (.int z), some (.int i)] 17 [] := by
    intro n
    induction n with
    | zero => intro j i gs fss h; omega
    | succ n ih =>
      intro j i gs fss hn0 hj hi hs
      subst hi
      refine g_iload_n hF dX6_begin_17 18 rfl rfl ?_
      refine g_iconst hF (4) dX6_begin_18 19 rfl rfl ?_
      refine g_icmp_ge hF dX6_begin_19 22 rfl 37 (by decide) (fun c19 => ?_) (fun c19 => ?_)
      · exact g_vret hF dX6_begin_37 (Nat.le_of_ble_eq_true rfl) (Nat.le_of_ble_eq_true rfl) (fun H h => hR _ _ ⟨rfl, by have := i_le (a := 4) c19 (by omega) (by omega); exact Np.to h rfl rfl rfl (fun g hg => hs g (by omega))⟩)
      · have hj4 : j < 4 := i_nle (a := 4) c19 (by omega) (by omega)
        refine g_aload_n hF dX6_begin_22 23 rfl rfl ?_
        refine g_get hF fl_X6_11 dX6_begin_23 26 rfl (by intro H h; first | exact h.1 | exact h.2.1 | exact (h.2.2 j hj4).1) rfl ?_
        refine g_iload_n hF dX6_begin_26 27 rfl rfl ?_
        refine g_aald hF 3 dX6_begin_27 28 rfl rfl (by intro H h; first | exact h.1 | exact h.2.1 | exact (h.2.2 j hj4).1) (vp_in_nI hj4 (by omega)) (n_aa hj4) ?_
        refine g_callV hF cv_X6_32 (c_G_begin l E (a + 2 + 5 * j) (gs j) (fss j)) dX6_begin_28 31 rfl (st := []) rfl rfl ⟨Nat.le_of_ble_eq_true rfl, Nat.le_of_ble_eq_true rfl⟩ ⟨Nat.le_of_ble_eq_true rfl, Nat.le_of_ble_eq_true rfl⟩ rfl (Nat.le_of_ble_eq_true rfl) 3 rfl (by intro H h; first | exact h.1 | exact h.2.1 | exact (h.2.2 j hj4).1) (Pr' := Np E a (z, 0, 0, va_up gs j g0) (va_up fss j (fun _ => 0))) (fun H h => h.2.2 j hj4) (fun q hq => hA q ⟨by have := hq.1; omega, by have := hq.2; omega⟩) (fun H H' h h1 h2 => by exact Np.grp hj4 h h1 h2) (st1 := []) rfl (k1 := 0) (n1 := 0) rfl rfl ?_
        refine g_iinc hF dX6_begin_31 34 rfl (1) rfl (lo' := [_, _, _]) rfl rfl ?_
        refine g_goto hF dX6_begin_34 17 (by decide) ?_
        exact ih (j + 1) _ _ _ (by omega) (by omega) (nI_succ j).symm (fun g hg => if e : g = j then by subst e; exact ⟨va_up_self _ _ _, va_up_self _ _ _⟩ else by rw [va_up_ne _ _ e, va_up_ne _ _ e]; exact hs g (by omega))
  refine g_aload_n hF dX6_begin_0 1 rfl rfl ?_
  refine g_iload_n hF dX6_begin_1 2 rfl rfl ?_
  refine g_put hF pl_X6_22 dX6_begin_2 5 rfl (by intro H h; first | exact h.1 | exact h.2.1 | exact (h.2.2 j hj4).1) (Nat.le_of_ble_eq_true rfl) rfl rfl (hA _ ⟨by omega, by omega⟩) (Pr' := Np E a (z, v.2.1, v.2.2.1, v.2.2.2) fss) (fun H H' h h1 h2 => by exact Np.wo z v.2.1 v.2.2.1 h h1 h2) ?_
  refine g_aload_n hF dX6_begin_5 6 rfl rfl ?_
  refine g_iconst hF (0) dX6_begin_6 7 rfl rfl ?_
  refine g_put hF pl_X6_26 dX6_begin_7 10 rfl (by intro H h; first | exact h.1 | exact h.2.1 | exact (h.2.2 j hj4).1) (Nat.le_of_ble_eq_true rfl) rfl rfl (hA _ ⟨by omega, by omega⟩) (Pr' := Np E a (z, 0, v.2.2.1, v.2.2.2) fss) (fun H H' h h1 h2 => by exact Np.wo z 0 v.2.2.1 h h1 h2) ?_
  refine g_aload_n hF dX6_begin_10 11 rfl rfl ?_
  refine g_iconst hF (0) dX6_begin_11 12 rfl rfl ?_
  refine g_put hF pl_X6_29 dX6_begin_12 15 rfl (by intro H h; first | exact h.1 | exact h.2.1 | exact (h.2.2 j hj4).1) (Nat.le_of_ble_eq_true rfl) rfl rfl (hA _ ⟨by omega, by omega⟩) (Pr' := Np E a (z, 0, 0, v.2.2.2) fss) (fun H H' h h1 h2 => by exact Np.wo z 0 0 h h1 h2) ?_
  refine g_iconst hF (0) dX6_begin_15 16 rfl rfl ?_
  refine g_istore_n hF dX6_begin_16 17 rfl (lo' := [_, _, _]) (Nat.le_of_ble_eq_true rfl) rfl ?_
  exact loop 5 0 0 _ _ (by omega) (by omega) nI_0.symm (fun g hg => by omega)
set_option maxRecDepth 100000 in
set_option maxHeartbeats 4000000 in
theorem c_N_copyFrom (l : Launch) (E : Ev) (a b : Nat) (v w : NV) (fss oss : Nat → Nat → Int32) (hd : a + 22 ≤ b ∨ b + 22 ≤ a) : Ct l E yX6_copyFrom cX6_copyFrom 3 none (rm 3) [.ref a, .ref b] (fun H => Np E a v fss H ∧ Np E b w oss H) (rV none (fun H => Np E a w oss H ∧ Np E b w oss H)) (rg a 22) := by
  refine ct_start (by decide) [some (.ref a), some (.ref b), none] rfl (Nat.le_of_ble_eq_true rfl) ?_
  intro x hF hN hA hR
  have kb : ∀ {q : Nat} {H H' : Heap}, rg a 22 q → but q H H' → Np E b w oss H → Np E b w oss H' := fun {q H H'} hq h2 h => h.kept (fun z hz => h2.2 z (by have := hz.1; have := hz.2; have := hq.1; have := hq.2; omega))
  have loop : ∀ (n j : Nat) (i : Int32) (gs fss : Nat → Nat → Int32), 4 - j < n → j ≤ 4 → i = nI j → (∀ g, g < j → gs g = w.2.2.2 g ∧ fss g = oss g) → go l (rm 3) E x 0 0 (fun H => Np E a (w.1, w.2.1, w.2.2.1, gs) fss H ∧ Np E b w oss H) [some (.ref a), some (.ref b), some (.int i)] 26 [] := by
    intro n
    induction n with
    | zero => intro j i gs fss h; omega
    | succ n ih =>
      intro j i gs fss hn0 hj hi hs
      subst hi
      refine g_iload_n hF dX6_copyFrom_26 27 rfl rfl ?_
      refine g_iconst hF (4) dX6_copyFrom_27 28 rfl rfl ?_
      refine g_icmp_ge hF dX6_copyFrom_28 31 rfl 52 (by decide) (fun c28 => ?_) (fun c28 => ?_)
      · exact g_vret hF dX6_copyFrom_52 (Nat.le_of_ble_eq_true rfl) (Nat.le_of_ble_eq_true rfl) (fun H h => hR _ _ ⟨rfl, by have := i_le (a := 4) c28 (by omega) (by omega); exact ⟨Np.to h.1 rfl rfl rfl (fun g hg => hs g (by omega)), h.2⟩⟩)
      · have hj4 : j < 4 := i_nle (a := 4) c28 (by omega) (by omega)
        refine g_aload_n hF dX6_copyFrom_31 32 rfl rfl ?_
        refine g_get hF fl_X6_11 dX6_copyFrom_32 35 rfl (by intro H h; first | exact h.1.1 | exact h.2.1 | exact h.1.2.1 | exact h.2.2.1 | exact (h.1.2.2 j hj4).1) rfl ?_
        refine g_iload_n hF dX6_copyFrom_35 36 rfl rfl ?_
        refine g_aald hF 3 dX6_copyFrom_36 37 rfl rfl (by intro H h; first | exact h.1.1 | exact h.2.1 | exact h.1.2.1 | exact h.2.2.1 | exact (h.1.2.2 j hj4).1) (vp_in_nI hj4 (by omega)) (n_aa hj4) ?_
        refine g_aload_n hF dX6_copyFrom_37 38 rfl rfl ?_
        refine g_get hF fl_X6_11 dX6_copyFrom_38 41 rfl (by intro H h; first | exact h.1.1 | exact h.2.1 | exact h.1.2.1 | exact h.2.2.1 | exact (h.1.2.2 j hj4).1) rfl ?_
        refine g_iload_n hF dX6_copyFrom_41 42 rfl rfl ?_
        refine g_aald hF 3 dX6_copyFrom_42 43 rfl rfl (by intro H h; first | exact h.1.1 | exact h.2.1 | exact h.1.2.1 | exact h.2.2.1 | exact (h.1.2.2 j hj4).1) (vp_in_nI hj4 (by omega)) (n_aa hj4) ?_
        refine g_callV hF cv_X6_34 (c_G_copyFrom l E (a + 2 + 5 * j) (b + 2 + 5 * j) (gs j) (fss j) (w.2.2.2 j) (oss j) (by omega)) dX6_copyFrom_43 46 rfl (st := []) rfl rfl ⟨Nat.le_of_ble_eq_true rfl, Nat.le_of_ble_eq_true rfl⟩ ⟨Nat.le_of_ble_eq_true rfl, Nat.le_of_ble_eq_true rfl⟩ rfl (Nat.le_of_ble_eq_true rfl) 3 rfl (by intro H h; first | exact h.1.1 | exact h.2.1 | exact h.1.2.1 | exact h.2.2.1 | exact (h.1.2.2 j hj4).1) (Pr' := fun H => Np E a (w.1, w.2.1, w.2.2.1, va_up gs j (w.2.2.2 j)) (va_up fss j (oss j)) H ∧ Np E b w oss H) (fun H h => ⟨h.1.2.2 j hj4, h.2.2.2 j hj4⟩) (fun q hq => hA q ⟨by have := hq.1; omega, by have := hq.2; omega⟩) (fun H H' h h1 h2 => by exact ⟨Np.grp hj4 h.1 h1.1 h2, h.2.kept (fun q hq => h2.2 q (Nat.lt_of_lt_of_le (Nat.lt_of_lt_of_le hq.2 (by omega)) (np_le h.2)) (fun z => by have := z.1; have := z.2; have := hq.1; have := hq.2; omega))⟩) (st1 := []) rfl (k1 := 0) (n1 := 0) rfl rfl ?_
        refine g_iinc hF dX6_copyFrom_46 49 rfl (1) rfl (lo' := [_, _, _]) rfl rfl ?_
        refine g_goto hF dX6_copyFrom_49 26 (by decide) ?_
        exact ih (j + 1) _ _ _ (by omega) (by omega) (nI_succ j).symm (fun g hg => if e : g = j then by subst e; exact ⟨va_up_self _ _ _, va_up_self _ _ _⟩ else by rw [va_up_ne _ _ e, va_up_ne _ _ e]; exact hs g (by omega))
  refine g_aload_n hF dX6_copyFrom_0 1 rfl rfl ?_
  refine g_aload_n hF dX6_copyFrom_1 2 rfl rfl ?_
  refine g_get hF fl_X6_22 dX6_copyFrom_2 5 rfl (by intro H h; first | exact h.1.1 | exact h.2.1) rfl ?_
  refine g_put hF pl_X6_22 dX6_copyFrom_5 8 rfl (by intro H h; first | exact h.1.1 | exact h.2.1) (Nat.le_of_ble_eq_true rfl) rfl rfl (hA _ ⟨by omega, by omega⟩) (Pr' := fun H => Np E a (w.1, v.2.1, v.2.2.1, v.2.2.2) fss H ∧ Np E b w oss H) (fun H H' h h1 h2 => by exact ⟨Np.wo w.1 v.2.1 v.2.2.1 h.1 h1 h2, kb ⟨by omega, by omega⟩ h2 h.2⟩) ?_
  refine g_aload_n hF dX6_copyFrom_8 9 rfl rfl ?_
  refine g_aload_n hF dX6_copyFrom_9 10 rfl rfl ?_
  refine g_get hF fl_X6_26 dX6_copyFrom_10 13 rfl (by intro H h; first | exact h.1.1 | exact h.2.1) rfl ?_
  refine g_put hF pl_X6_26 dX6_copyFrom_13 16 rfl (by intro H h; first | exact h.1.1 | exact h.2.1) (Nat.le_of_ble_eq_true rfl) rfl rfl (hA _ ⟨by omega, by omega⟩) (Pr' := fun H => Np E a (w.1, w.2.1, v.2.2.1, v.2.2.2) fss H ∧ Np E b w oss H) (fun H H' h h1 h2 => by exact ⟨Np.wo w.1 w.2.1 v.2.2.1 h.1 h1 h2, kb ⟨by omega, by omega⟩ h2 h.2⟩) ?_
  refine g_aload_n hF dX6_copyFrom_16 17 rfl rfl ?_
  refine g_aload_n hF dX6_copyFrom_17 18 rfl rfl ?_
  refine g_get hF fl_X6_29 dX6_copyFrom_18 21 rfl (by intro H h; first | exact h.1.1 | exact h.2.1) rfl ?_
  refine g_put hF pl_X6_29 dX6_copyFrom_21 24 rfl (by intro H h; first | exact h.1.1 | exact h.2.1) (Nat.le_of_ble_eq_true rfl) rfl rfl (hA _ ⟨by omega, by omega⟩) (Pr' := fun H => Np E a (w.1, w.2.1, w.2.2.1, v.2.2.2) fss H ∧ Np E b w oss H) (fun H H' h h1 h2 => by exact ⟨Np.wo w.1 w.2.1 w.2.2.1 h.1 h1 h2, kb ⟨by omega, by omega⟩ h2 h.2⟩) ?_
  refine g_iconst hF (0) dX6_copyFrom_24 25 rfl rfl ?_
  refine g_istore_n hF dX6_copyFrom_25 26 rfl (lo' := [_, _, _]) (Nat.le_of_ble_eq_true rfl) rfl ?_
  exact loop 5 0 0 _ _ (by omega) (by omega) nI_0.symm (fun g hg => by omega)
end
section
/-! What is counted and chosen, in numbers. -/
def okL (G T : Nat) (is wh si : Int32) : Prop := (is = 0 ∧ wh = -1 ∧ (si = -1 ∨ ∃ t, 1 ≤ t ∧ t ≤ T ∧ si = nI t)) ∨ (is = 1 ∧ ∃ w, w < G ∧ wh = nI w) ∨ (is = 2 ∧ wh = -1)
def okG (G T g : Nat) (gv : Nat → Int32) : Prop := (∃ N, 1 ≤ N ∧ N ≤ 6 ∧ gv 0 = nI N ∧ ∃ R, R ≤ N ∧ gv 2 = nI R) ∧ (∃ A, A ≤ 6 ∧ gv 1 = nI A) ∧ (gv 3 = -1 ∨ ∃ o, o < G ∧ o ≠ g ∧ gv 3 = nI o) ∧ (gv 4 = 0 ∨ gv 4 = 1 ∨ gv 4 = 2 ∨ gv 4 = 3) ∧ (∃ s, s ≤ 6 ∧ gv 5 + 1 = nI s) ∧ ∀ i, i < 6 → okL G T (gv (10 + 4 * i)) (gv (12 + 4 * i)) (gv (13 + 4 * i))
def okV (T : Nat) (v : NV) : Prop := T < 2 ^ 30 ∧ ∃ G, 1 ≤ G ∧ G ≤ 4 ∧ v.1 = nI G ∧ (∃ t, t ≤ T ∧ v.2.1 = nI t) ∧ ∀ g, g < 4 → okG G T g (v.2.2.2 g)
def fsOK (gv fs : Nat → Int32) : Prop := ∀ i, i < 6 → gv (10 + 4 * i) = 0 → fs i = if gv (13 + 4 * i) = -1 then 0 else gv (13 + 4 * i)
theorem okL.mono {G T T' : Nat} {is wh si : Int32} (h : okL G T is wh si) (ht : T ≤ T') : okL G T' is wh si := by
  rcases h with ⟨h1, h2, h3⟩ | h | h
  · exact Or.inl ⟨h1, h2, h3.imp id (fun ⟨t, a, b, c⟩ => ⟨t, a, by omega, c⟩)⟩
  · exact Or.inr (Or.inl h)
  · exact Or.inr (Or.inr h)
theorem okG.mono {G T T' g : Nat} {gv : Nat → Int32} (h : okG G T g gv) (ht : T ≤ T') : okG G T' g gv := ⟨h.1, h.2.1, h.2.2.1, h.2.2.2.1, h.2.2.2.2.1, fun i hi => (h.2.2.2.2.2 i hi).mono ht⟩
theorem okV.mono {T T' : Nat} {v : NV} (h : okV T v) (ht : T ≤ T') (hT : T' < 2 ^ 30) : okV T' v := by
  obtain ⟨-, G, h1, h2, h3, ⟨t, h4, h5⟩, h6⟩ := h
  exact ⟨hT, G, h1, h2, h3, ⟨t, by omega, h5⟩, fun g hg => (h6 g hg).mono ht⟩
/-- since when a line is free: the class's number orders as the reference's -/
def cv0 (p : Int32) : Int32 := if p = -1 then 0 else p
theorem cv0_lt {p q : Int32} (hp : p = -1 ∨ ∃ t, 1 ≤ t ∧ t < 2 ^ 31 ∧ p = nI t) (hq : q = -1 ∨ ∃ t, 1 ≤ t ∧ t < 2 ^ 31 ∧ q = nI t) : cv0 p < cv0 q ↔ p < q := by
  have hm : ∀ t, t < 2 ^ 31 → ¬ nI t = -1 := fun t ht e => by
    have := congrArg Int32.toInt e
    rw [nI_toInt ht] at this
    have h2 : (-1 : Int32).toInt = -1 := by decide
    rw [h2] at this
    omega
  have hz : (0 : Int32).toInt = 0 := by decide
  have h1 : (-1 : Int32).toInt = -1 := by decide
  rcases hp with rfl | ⟨a, ha1, ha2, rfl⟩ <;> rcases hq with rfl | ⟨b, hb1, hb2, rfl⟩
  · simp only [cv0, if_true, Int32.lt_iff_toInt_lt, hz, h1]
    omega
  · simp only [cv0, if_true, hm b hb2, if_false, Int32.lt_iff_toInt_lt, hz, h1, nI_toInt hb2]
    omega
  · simp only [cv0, if_true, hm a ha2, if_false, Int32.lt_iff_toInt_lt, hz, h1, nI_toInt ha2]
    omega
  · simp only [cv0, hm a ha2, hm b hb2, if_false]
theorem fLg_eq {sv k1 k2 : Nat → Int32} : ∀ {n : Nat}, (∀ i j, i < n → j < n → sv i = 0 → sv j = 0 → (k1 i < k1 j ↔ k2 i < k2 j)) → n < 2 ^ 31 → fLg sv k1 n = fLg sv k2 n
  | 0, _, _ => rfl
  | n + 1, h, hn => by
    have ih := fLg_eq (sv := sv) (k1 := k1) (k2 := k2) (n := n) (fun i j hi hj => h i j (by omega) (by omega)) (by omega)
    unfold fLg
    rw [← ih]
    by_cases hs : sv n = 0
    · rcases fLg_rng sv k1 n with hb | ⟨t, h1, h2, h3⟩
      · simp only [hs, hb, true_or, and_true]
      · rw [h2, nI_clamp (by omega)]
        have := h n t (by omega) (by omega) hs h3
        by_cases hc : k1 n < k1 t
        · rw [if_pos ⟨hs, Or.inr hc⟩, if_pos ⟨hs, Or.inr (this.mp hc)⟩]
        · by_cases hm : nI t = -1
          · rw [if_pos ⟨hs, Or.inl hm⟩, if_pos ⟨hs, Or.inl hm⟩]
          · rw [if_neg (fun z => z.2.elim hm hc), if_neg (fun z => z.2.elim hm (fun y => hc (this.mpr y)))]
    · rw [if_neg (fun z => hs z.1), if_neg (fun z => hs z.1)]
theorem sCh_fs {G T g : Nat} {gv fs : Nat → Int32} {N s : Nat} (ho : okG G T g gv) (hT : T < 2 ^ 30) (hf : fsOK gv fs) (hN : N ≤ 6) : sCh gv fs N s = sCh gv (fun i => gv (13 + 4 * i)) N s := by
  unfold sCh
  rw [fLg_eq (k1 := fs) (k2 := fun i => gv (13 + 4 * i)) (fun i j hi hj h1 h2 => ?_) (by omega)]
  have key : ∀ i, i < 6 → gv (10 + 4 * i) = 0 → gv (13 + 4 * i) = -1 ∨ ∃ t, 1 ≤ t ∧ t < 2 ^ 31 ∧ gv (13 + 4 * i) = nI t := fun i hi h0 => by
    rcases ho.2.2.2.2.2 i hi with ⟨-, -, h⟩ | ⟨h, -⟩ | ⟨h, -⟩
    · exact h.imp id (fun ⟨t, a, b, c⟩ => ⟨t, a, by omega, c⟩)
    · rw [h0] at h; exact absurd h (by decide)
    · rw [h0] at h; exact absurd h (by decide)
  rw [hf i (by omega) h1, hf j (by omega) h2]
  exact cv0_lt (key i (by omega) h1) (key j (by omega) h2)
/-! the sets -/
def mk6 (gv : Nat → Int32) (w : Int32) : Nat → Nat
  | 0 => 0
  | k + 1 => if gv (10 + 4 * k) = w then mk6 gv w k + 2 ^ k else mk6 gv w k
def cntN (gv : Nat → Int32) (w : Int32) : Nat → Nat
  | 0 => 0
  | k + 1 => if gv (10 + 4 * k) = w then cntN gv w k + 1 else cntN gv w k
theorem mk6_lt (gv : Nat → Int32) (w : Int32) : ∀ k, mk6 gv w k < 2 ^ k
  | 0 => Nat.one_pos
  | k + 1 => by
    have := mk6_lt gv w k
    unfold mk6
    rw [Nat.pow_succ]
    split <;> omega
theorem or6 : ∀ k, k < 6 → ∀ m, m < 2 ^ k → nI m ||| (1 <<< (nI k &&& 31)) = nI (m + 2 ^ k) := by decide +kernel
theorem sSet_mk (gv : Nat → Int32) (w : Int32) : ∀ k, k ≤ 6 → sSet gv w k = nI (mk6 gv w k)
  | 0, _ => rfl
  | k + 1, h => by
    unfold sSet mk6
    rw [sSet_mk gv w k (by omega)]
    split
    · exact or6 k (by omega) _ (mk6_lt gv w k)
    · rfl
def pop6 (m : Nat) : Nat := m % 2 + m / 2 % 2 + m / 4 % 2 + m / 8 % 2 + m / 16 % 2 + m / 32 % 2
theorem pop6_add : ∀ k, k < 6 → ∀ m, m < 2 ^ k → pop6 (m + 2 ^ k) = pop6 m + 1 := by decide +kernel
theorem pop6_mk (gv : Nat → Int32) (w : Int32) : ∀ k, k ≤ 6 → pop6 (mk6 gv w k) = cntN gv w k
  | 0, _ => (show pop6 0 = 0 by decide)
  | k + 1, h => by
    unfold mk6 cntN
    split
    · rw [pop6_add k (by omega) _ (mk6_lt gv w k), pop6_mk gv w k (by omega)]
    · exact pop6_mk gv w k (by omega)
theorem bitC_pop : ∀ m, m < 64 → bitC (nI m) = nI (pop6 m) := by decide +kernel
theorem bitC_set (gv : Nat → Int32) (w : Int32) (k : Nat) (hk : k ≤ 6) : bitC (sSet gv w k) = nI (cntN gv w k) := by
  rw [sSet_mk gv w k hk, bitC_pop _ (Nat.lt_of_lt_of_le (mk6_lt gv w k) (Nat.pow_le_pow_right (by omega) hk)), pop6_mk gv w k hk]
theorem cnt_N {gv : Nat → Int32} {w : Int32} {N : Nat} (h0 : gv 0 = nI N) (h6 : N ≤ 6) : cnt gv w = nI (cntN gv w N) := by
  unfold cnt
  rw [h0, nI_clamp (by omega), bitC_set _ _ _ h6]
theorem cntN_le (gv : Nat → Int32) (w : Int32) : ∀ k, cntN gv w k ≤ k
  | 0 => Nat.le_refl 0
  | k + 1 => by
    have := cntN_le gv w k
    unfold cntN
    split <;> omega
theorem cntN_0 {gv : Nat → Int32} {w : Int32} : ∀ {k : Nat}, (∀ i, i < k → gv (10 + 4 * i) ≠ w) → cntN gv w k = 0 ∧ mk6 gv w k = 0
  | 0, _ => ⟨rfl, rfl⟩
  | k + 1, h => by
    have ih := cntN_0 (gv := gv) (w := w) (k := k) (fun i hi => h i (by omega))
    unfold cntN mk6
    rw [if_neg (h k (by omega)), if_neg (h k (by omega))]
    exact ih
theorem mk6_pos {gv : Nat → Int32} {w : Int32} : ∀ {k i : Nat}, i < k → gv (10 + 4 * i) = w → 0 < mk6 gv w k
  | k + 1, i, hi, h => by
    unfold mk6
    by_cases e : i = k
    · subst e
      rw [if_pos h]
      have := Nat.two_pow_pos i
      omega
    · have := mk6_pos (gv := gv) (w := w) (k := k) (i := i) (by omega) h
      split
      · exact Nat.lt_of_lt_of_le this (Nat.le_add_right _ _)
      · exact this
/-! what is chosen -/
theorem fLast_rng (gv : Nat → Int32) : ∀ n, (fLast gv n = -1 ∧ ∀ i, i < n → gv (10 + 4 * i) ≠ 0) ∨ ∃ t, t < n ∧ fLast gv n = nI t ∧ gv (10 + 4 * t) = 0
  | 0 => Or.inl ⟨rfl, fun i hi => by omega⟩
  | n + 1 => by
    unfold fLast
    by_cases h : gv (10 + 4 * n) = 0
    · rw [if_pos h]
      exact Or.inr ⟨n, by omega, rfl, h⟩
    · rw [if_neg h]
      rcases fLast_rng gv n with ⟨h1, h2⟩ | ⟨t, h1, h2, h3⟩
      · exact Or.inl ⟨h1, fun i hi => if e : i = n then e ▸ h else h2 i (by omega)⟩
      · exact Or.inr ⟨t, by omega, h2, h3⟩
theorem fLg_rng2 (sv key : Nat → Int32) : ∀ n, (fLg sv key n = -1 ∧ ∀ i, i < n → sv i ≠ 0) ∨ ∃ t, t < n ∧ fLg sv key n = nI t ∧ sv t = 0
  | 0 => Or.inl ⟨rfl, fun i hi => by omega⟩
  | n + 1 => by
    unfold fLg
    rcases fLg_rng2 sv key n with ⟨h1, h2⟩ | ⟨t, h1, h2, h3⟩
    · by_cases h : sv n = 0
      · rw [if_pos ⟨h, Or.inl h1⟩]
        exact Or.inr ⟨n, by omega, rfl, h⟩
      · rw [if_neg (fun z => h z.1)]
        exact Or.inl ⟨h1, fun i hi => if e : i = n then e ▸ h else h2 i (by omega)⟩
    · split
      · rename_i hc
        exact Or.inr ⟨n, by omega, rfl, hc.1⟩
      · exact Or.inr ⟨t, by omega, h2, h3⟩
theorem fFrom_rng (gv : Nat → Int32) (N s : Nat) (hN : 0 < N) : ∀ d i, (fFrom gv N s d i = -1 ∧ ∀ j, i ≤ j → j < i + d → gv (10 + 4 * ((s + j) % N)) ≠ 0) ∨ ∃ t, t < N ∧ fFrom gv N s d i = nI t ∧ gv (10 + 4 * t) = 0
  | 0, i => Or.inl ⟨rfl, fun j h1 h2 => by omega⟩
  | d + 1, i => by
    unfold fFrom
    by_cases h : gv (10 + 4 * ((s + i) % N)) = 0
    · rw [if_pos h]
      exact Or.inr ⟨_, Nat.mod_lt _ hN, rfl, h⟩
    · rw [if_neg h]
      rcases fFrom_rng gv N s hN d (i + 1) with ⟨h1, h2⟩ | h1
      · exact Or.inl ⟨h1, fun j g1 g2 => if e : j = i then e ▸ h else h2 j (by omega) (by omega)⟩
      · exact Or.inr h1
theorem ring_all {N s : Nat} (hN : 0 < N) (t : Nat) (ht : t < N) : ∃ j, j < N ∧ (s + j) % N = t := by
  refine ⟨(t + (N - s % N)) % N, Nat.mod_lt _ hN, ?_⟩
  have h1 : s % N < N := Nat.mod_lt _ hN
  rw [Nat.add_mod, Nat.mod_mod, ← Nat.add_mod]
  have : s + (t + (N - s % N)) = N * (s / N + 1) + t := by
    have := Nat.div_add_mod s N
    rw [Nat.mul_add]
    omega
  rw [this, Nat.mul_add_mod, Nat.mod_eq_of_lt ht]
theorem sCh_rng (gv key : Nat → Int32) (N s : Nat) (hN : 0 < N) : (sCh gv key N s = -1 ∧ ∀ i, i < N → gv (10 + 4 * i) ≠ 0) ∨ ∃ t, t < N ∧ sCh gv key N s = nI t ∧ gv (10 + 4 * t) = 0 := by
  have ff : ∀ s, (fFrom gv N s N 0 = -1 ∧ ∀ i, i < N → gv (10 + 4 * i) ≠ 0) ∨ ∃ t, t < N ∧ fFrom gv N s N 0 = nI t ∧ gv (10 + 4 * t) = 0 := fun s => by
    rcases fFrom_rng gv N s hN N 0 with ⟨h1, h2⟩ | h
    · exact Or.inl ⟨h1, fun i hi => by
        obtain ⟨j, hj, he⟩ := ring_all (s := s) hN i hi
        rw [← he]
        exact h2 j (by omega) (by omega)⟩
    · exact Or.inr h
  unfold sCh
  split
  · exact fLast_rng gv N
  · split
    · exact fLg_rng2 _ key N
    · split
      · exact ff s
      · exact ff 0
theorem nI_nm1 {t : Nat} (ht : t < 2 ^ 31) : ¬ nI t = -1 := fun e => by
  have := congrArg Int32.toInt e
  rw [nI_toInt ht] at this
  have h2 : (-1 : Int32).toInt = -1 := by decide
  rw [h2] at this
  omega
/-- the line that is chosen -/
def chg (gv : Nat → Int32) : Int32 := sCh gv (fun i => gv (13 + 4 * i)) (gv 0).toNatClampNeg (gv 5 + 1).toNatClampNeg
theorem chg_N {gv : Nat → Int32} {N s : Nat} (h0 : gv 0 = nI N) (h6 : N ≤ 6) (hs : gv 5 + 1 = nI s) (hs6 : s ≤ 6) : chg gv = sCh gv (fun i => gv (13 + 4 * i)) N s := by
  unfold chg
  rw [h0, hs, nI_clamp (by omega), nI_clamp (by omega)]
/-- where a call goes: ten times the group and the line, or -1 -/
def sNext (gs : Nat → Nat → Int32) (g : Nat) : Int32 := if ¬ chg (gs g) = -1 then 10 * nI g + chg (gs g) else if gs g 3 = -1 then -1 else if gs (gs g 3).toNatClampNeg 2 < cnt (gs (gs g 3).toNatClampNeg) 0 then 10 * gs g 3 + chg (gs (gs g 3).toNatClampNeg) else -1
theorem ten {g t : Nat} : 10 * nI g + nI t = nI (10 * g + t) := by
  rw [show (10 : Int32) = nI 10 by decide, pk_mul, nI_add]
theorem sNext_cases {G T : Nat} {gs : Nat → Nat → Int32} (hG : G ≤ 4) (ho : ∀ g, g < 4 → okG G T g (gs g)) {g : Nat} (hg : g < G) : sNext gs g = -1 ∨ ∃ h t, h < G ∧ t < (gs h 0).toNatClampNeg ∧ (gs h 0).toNatClampNeg ≤ 6 ∧ sNext gs g = nI (10 * h + t) ∧ gs h (10 + 4 * t) = 0 := by
  have key : ∀ h, h < 4 → ∃ N, 1 ≤ N ∧ N ≤ 6 ∧ gs h 0 = nI N ∧ (∃ R, R ≤ N ∧ gs h 2 = nI R) ∧ ∃ s, s ≤ 6 ∧ gs h 5 + 1 = nI s := fun h hh => by
    obtain ⟨⟨N, a, b, c, d⟩, -, -, -, ⟨s, hs⟩, -⟩ := ho h hh
    exact ⟨N, a, b, c, d, s, hs⟩
  unfold sNext
  obtain ⟨N, n1, n6, n0, -, s, s6, hs⟩ := key g (by omega)
  rw [chg_N n0 n6 hs s6]
  rcases sCh_rng (gs g) (fun i => gs g (13 + 4 * i)) N s (by omega) with ⟨h1, h2⟩ | ⟨t, h1, h2, h3⟩
  · rw [if_neg (fun z => z h1)]
    rcases (ho g (by omega)).2.2.1 with h3 | ⟨o, o1, o2, o3⟩
    · rw [if_pos h3]; exact Or.inl rfl
    · rw [o3, if_neg (nI_nm1 (by omega)), nI_clamp (by omega)]
      obtain ⟨M, m1, m6, m0, ⟨R, r1, r2⟩, s', s6', hs'⟩ := key o (by omega)
      split
      · rename_i hc
        rw [chg_N m0 m6 hs' s6']
        rcases sCh_rng (gs o) (fun i => gs o (13 + 4 * i)) M s' (by omega) with ⟨q1, q2⟩ | ⟨t, q1, q2, q3⟩
        · rw [cnt_N m0 m6, (cntN_0 q2).1, r2] at hc
          exact absurd (i_lt hc (by omega) (by omega)) (by omega)
        · rw [q2, ten]
          exact Or.inr ⟨o, t, o1, by rw [m0, nI_clamp (by omega)]; exact q1, by rw [m0, nI_clamp (by omega)]; exact m6, rfl, q3⟩
      · exact Or.inl rfl
  · rw [h2, if_pos (nI_nm1 (by omega)), ten]
    exact Or.inr ⟨g, t, hg, by rw [n0, nI_clamp (by omega)]; exact h1, by rw [n0, nI_clamp (by omega)]; exact n6, rfl, h3⟩
end
section
/-! Net: where a call goes; calls, ends, breaks, mendings -/
theorem Gp.ghost {E : Ev} {a i : Nat} {gv fs : Nat → Int32} {z : Int32} {H : Heap} (h : Gp E a gv fs H) : Gp E a (upd gv (13 + 4 * i) z) fs H :=
  Gp.to h (fun w hw => (pk_un (by omega)).symm) (fun j hj => ⟨(pk_un (by omega)).symm, (pk_un (by omega)).symm, (pk_un (by omega)).symm⟩)
theorem Np.rd {E : Ev} {a g : Nat} {v : NV} {fss : Nat → Nat → Int32} {H H' : Heap} (hg : g < 4) (h : Np E a v fss H) (h1 : Gp E (a + 2 + 5 * g) (v.2.2.2 g) (fss g) H') (h2 : out (fun _ => False) H H') : Np E a v fss H' :=
  Np.to (Np.grp hg h h1 ⟨h2.1, fun b hb _ => h2.2 b hb (fun z => z)⟩) rfl rfl rfl (fun j _ => ⟨va_up_same v.2.2.2 g j, va_up_same fss g j⟩)
set_option maxRecDepth 100000 in
set_option maxHeartbeats 4000000 in
theorem c_N_nextPlace (l : Launch) (E : Ev) (a : Nat) (v : NV) (fss : Nat → Nat → Int32) (G T g : Nat) (hG : v.1 = nI G) (hG4 : G ≤ 4) (hT : T < 2 ^ 30) (ho : ∀ g, g < 4 → okG G T g (v.2.2.2 g)) (hf : ∀ g, g < 4 → fsOK (v.2.2.2 g) (fss g)) (hg : g < G) : Ct l E yX6_nextPlace cX6_nextPlace 5 (some .int) (rm 3) [.ref a, .int (nI g)] (Np E a v fss) (rV (some (.int (sNext v.2.2.2 g))) (Np E a v fss)) (fun _ => False) := by
  refine ct_start (by decide) [some (.ref a), some (.int (nI g)), none, none, none] rfl (Nat.le_of_ble_eq_true rfl) ?_
  intro x hF hN hA hR
  have hg4 : g < 4 := by omega
  obtain ⟨⟨N, n1, n6, n0, -⟩, -, hov, hch, ⟨s, s6, hs⟩, -⟩ := ho g hg4
  have hc1 : sCh (v.2.2.2 g) (fss g) N s = chg (v.2.2.2 g) := by rw [chg_N n0 n6 hs s6]; exact sCh_fs (ho g hg4) hT (hf g hg4) n6
  rcases hov with ho3 | ⟨o, o1, o2, o3⟩
  · have hv : sNext v.2.2.2 g = if ¬ chg (v.2.2.2 g) = -1 then 10 * nI g + chg (v.2.2.2 g) else -1 := by unfold sNext; rw [ho3, if_pos rfl]
    refine g_aload_n hF dX6_nextPlace_0 1 rfl rfl ?_
    refine g_iload_n hF dX6_nextPlace_1 2 rfl rfl ?_
    refine g_callV hF cv_X6_38 (c_N_groupAt l E a v fss G g hG hG4 hg) dX6_nextPlace_2 5 rfl (st := []) rfl rfl ⟨Nat.le_of_ble_eq_true rfl, Nat.le_of_ble_eq_true rfl⟩ ⟨Nat.le_of_ble_eq_true rfl, Nat.le_of_ble_eq_true rfl⟩ rfl (Nat.le_of_ble_eq_true rfl) 6 rfl (by intro H h; first | exact h.1 | exact h.2.1 | exact (h.2.2 g hg4).1) (Pr' := _) (fun _ h => h) (hA) (fun _ _ _ h _ => by exact h) (st1 := [_]) rfl (k1 := 0) (n1 := 0) rfl rfl ?_
    refine g_astore_n hF dX6_nextPlace_5 6 rfl (lo' := [_, _, _, _, _]) (Nat.le_of_ble_eq_true rfl) rfl ?_
    refine g_aload_n hF dX6_nextPlace_6 7 rfl rfl ?_
    refine g_ifnonnull hF dX6_nextPlace_7 12 (by decide) ?_
    refine g_aload_n hF dX6_nextPlace_12 13 rfl rfl ?_
    refine g_callV hF cv_X6_53 (c_G_chosenLine l E (a + 2 + 5 * g) (v.2.2.2 g) (fss g) N s n0 n1 n6 hs s6 hch) dX6_nextPlace_13 16 rfl (st := []) rfl rfl ⟨Nat.le_of_ble_eq_true rfl, Nat.le_of_ble_eq_true rfl⟩ ⟨Nat.le_of_ble_eq_true rfl, Nat.le_of_ble_eq_true rfl⟩ rfl (Nat.le_of_ble_eq_true rfl) 3 rfl (by intro H h; first | exact h.1 | exact h.2.1 | exact (h.2.2 g hg4).1) (Pr' := Np E a v fss) (fun H h => h.2.2 g hg4) (fun q z => z.elim) (fun H H' h h1 h2 => by exact Np.rd hg4 h h1 h2) (st1 := [_]) rfl (k1 := 0) (n1 := 0) rfl rfl ?_
    rw [hc1]
    refine g_istore_n hF dX6_nextPlace_16 17 rfl (lo' := [_, _, _, _, _]) (Nat.le_of_ble_eq_true rfl) rfl ?_
    refine g_iload_n hF dX6_nextPlace_17 18 rfl rfl ?_
    refine g_iconst hF (-1) dX6_nextPlace_18 19 rfl rfl ?_
    refine g_icmp_eq hF dX6_nextPlace_19 22 rfl 29 (by decide) (fun c19 => ?_) (fun c19 => ?_)
    · refine g_aload_n hF dX6_nextPlace_29 30 rfl rfl ?_
      refine g_aload_n hF dX6_nextPlace_30 31 rfl rfl ?_
      refine g_get hF fl_X6_57 dX6_nextPlace_31 34 rfl (by intro H h; first | exact h.1 | exact h.2.1 | exact (h.2.2 g hg4).1) rfl ?_
      rw [ho3]
      refine g_callV hF cv_X6_38 (c_N_groupAtN l E a v fss (-1) (Or.inl (by decide))) dX6_nextPlace_34 37 rfl (st := []) rfl rfl ⟨Nat.le_of_ble_eq_true rfl, Nat.le_of_ble_eq_true rfl⟩ ⟨Nat.le_of_ble_eq_true rfl, Nat.le_of_ble_eq_true rfl⟩ rfl (Nat.le_of_ble_eq_true rfl) 6 rfl (by intro H h; first | exact h.1 | exact h.2.1 | exact (h.2.2 g hg4).1) (Pr' := _) (fun _ h => h) (hA) (fun _ _ _ h _ => by exact h) (st1 := [_]) rfl (k1 := 0) (n1 := 0) rfl rfl ?_
      refine g_astoreN hF dX6_nextPlace_37 39 rfl (lo' := [_, _, _, _, _]) (Nat.le_of_ble_eq_true rfl) rfl ?_
      refine g_aloadN hF dX6_nextPlace_39 41 rfl rfl ?_
      refine g_ifnullN hF dX6_nextPlace_41 58 (by decide) ?_
      refine g_iconst hF (-1) dX6_nextPlace_58 59 rfl rfl ?_
      exact g_iret hF dX6_nextPlace_59 (Nat.le_of_ble_eq_true rfl) (Nat.le_of_ble_eq_true rfl) (fun H h => hR _ _ ⟨congrArg (fun z => some (Value.int z)) (by rw [hv]; exact (if_neg (fun z => z c19)).symm), h⟩)
    · refine g_bipush hF (10) dX6_nextPlace_22 24 rfl rfl ?_
      refine g_iload_n hF dX6_nextPlace_24 25 rfl rfl ?_
      refine g_imul hF dX6_nextPlace_25 26 rfl ?_
      refine g_iload_n hF dX6_nextPlace_26 27 rfl rfl ?_
      refine g_iadd hF dX6_nextPlace_27 28 rfl ?_
      exact g_iret hF dX6_nextPlace_28 (Nat.le_of_ble_eq_true rfl) (Nat.le_of_ble_eq_true rfl) (fun H h => hR _ _ ⟨congrArg (fun z => some (Value.int z)) (by rw [hv]; exact (if_pos c19).symm), h⟩)
  · have ho4 : o < 4 := by omega
    obtain ⟨⟨M, m1, m6, m0, -⟩, -, -, hcho, ⟨s', s6', hs'⟩, -⟩ := ho o ho4
    have hc2 : sCh (v.2.2.2 o) (fss o) M s' = chg (v.2.2.2 o) := by rw [chg_N m0 m6 hs' s6']; exact sCh_fs (ho o ho4) hT (hf o ho4) m6
    have hv : sNext v.2.2.2 g = if ¬ chg (v.2.2.2 g) = -1 then 10 * nI g + chg (v.2.2.2 g) else if v.2.2.2 o 2 < cnt (v.2.2.2 o) 0 then 10 * nI o + chg (v.2.2.2 o) else -1 := by
      unfold sNext
      rw [o3, if_neg (nI_nm1 (t := o) (by omega)), nI_clamp (by omega)]
    have hcn : bitC (sSet (v.2.2.2 o) 0 M) = cnt (v.2.2.2 o) 0 := by unfold cnt; rw [m0, nI_clamp (by omega)]
    refine g_aload_n hF dX6_nextPlace_0 1 rfl rfl ?_
    refine g_iload_n hF dX6_nextPlace_1 2 rfl rfl ?_
    refine g_callV hF cv_X6_38 (c_N_groupAt l E a v fss G g hG hG4 hg) dX6_nextPlace_2 5 rfl (st := []) rfl rfl ⟨Nat.le_of_ble_eq_true rfl, Nat.le_of_ble_eq_true rfl⟩ ⟨Nat.le_of_ble_eq_true rfl, Nat.le_of_ble_eq_true rfl⟩ rfl (Nat.le_of_ble_eq_true rfl) 6 rfl (by intro H h; first | exact h.1 | exact h.2.1 | exact (h.2.2 g hg4).1 | exact (h.2.2 o ho4).1) (Pr' := _) (fun _ h => h) (hA) (fun _ _ _ h _ => by exact h) (st1 := [_]) rfl (k1 := 0) (n1 := 0) rfl rfl ?_
    refine g_astore_n hF dX6_nextPlace_5 6 rfl (lo' := [_, _, _, _, _]) (Nat.le_of_ble_eq_true rfl) rfl ?_
    refine g_aload_n hF dX6_nextPlace_6 7 rfl rfl ?_
    refine g_ifnonnull hF dX6_nextPlace_7 12 (by decide) ?_
    refine g_aload_n hF dX6_nextPlace_12 13 rfl rfl ?_
    refine g_callV hF cv_X6_53 (c_G_chosenLine l E (a + 2 + 5 * g) (v.2.2.2 g) (fss g) N s n0 n1 n6 hs s6 hch) dX6_nextPlace_13 16 rfl (st := []) rfl rfl ⟨Nat.le_of_ble_eq_true rfl, Nat.le_of_ble_eq_true rfl⟩ ⟨Nat.le_of_ble_eq_true rfl, Nat.le_of_ble_eq_true rfl⟩ rfl (Nat.le_of_ble_eq_true rfl) 3 rfl (by intro H h; first | exact h.1 | exact h.2.1 | exact (h.2.2 g hg4).1 | exact (h.2.2 o ho4).1) (Pr' := Np E a v fss) (fun H h => h.2.2 g hg4) (fun q z => z.elim) (fun H H' h h1 h2 => by exact Np.rd hg4 h h1 h2) (st1 := [_]) rfl (k1 := 0) (n1 := 0) rfl rfl ?_
    rw [hc1]
    refine g_istore_n hF dX6_nextPlace_16 17 rfl (lo' := [_, _, _, _, _]) (Nat.le_of_ble_eq_true rfl) rfl ?_
    refine g_iload_n hF dX6_nextPlace_17 18 rfl rfl ?_
    refine g_iconst hF (-1) dX6_nextPlace_18 19 rfl rfl ?_
    refine g_icmp_eq hF dX6_nextPlace_19 22 rfl 29 (by decide) (fun c19 => ?_) (fun c19 => ?_)
    · refine g_aload_n hF dX6_nextPlace_29 30 rfl rfl ?_
      refine g_aload_n hF dX6_nextPlace_30 31 rfl rfl ?_
      refine g_get hF fl_X6_57 dX6_nextPlace_31 34 rfl (by intro H h; first | exact h.1 | exact h.2.1 | exact (h.2.2 g hg4).1 | exact (h.2.2 o ho4).1) rfl ?_
      rw [o3]
      refine g_callV hF cv_X6_38 (c_N_groupAt l E a v fss G o hG hG4 o1) dX6_nextPlace_34 37 rfl (st := []) rfl rfl ⟨Nat.le_of_ble_eq_true rfl, Nat.le_of_ble_eq_true rfl⟩ ⟨Nat.le_of_ble_eq_true rfl, Nat.le_of_ble_eq_true rfl⟩ rfl (Nat.le_of_ble_eq_true rfl) 6 rfl (by intro H h; first | exact h.1 | exact h.2.1 | exact (h.2.2 g hg4).1 | exact (h.2.2 o ho4).1) (Pr' := _) (fun _ h => h) (hA) (fun _ _ _ h _ => by exact h) (st1 := [_]) rfl (k1 := 0) (n1 := 0) rfl rfl ?_
      refine g_astore hF dX6_nextPlace_37 39 rfl (lo' := [_, _, _, _, _]) (Nat.le_of_ble_eq_true rfl) rfl ?_
      refine g_aload hF dX6_nextPlace_39 41 rfl rfl ?_
      refine g_ifnull hF dX6_nextPlace_41 44 rfl ?_
      refine g_aload hF dX6_nextPlace_44 46 rfl rfl ?_
      refine g_iconst hF (0) dX6_nextPlace_46 47 rfl rfl ?_
      refine g_callV hF cv_X6_46 (c_G_count l E (a + 2 + 5 * o) (v.2.2.2 o) (fss o) 0 M m0 m6) dX6_nextPlace_47 50 rfl (st := []) rfl rfl ⟨Nat.le_of_ble_eq_true rfl, Nat.le_of_ble_eq_true rfl⟩ ⟨Nat.le_of_ble_eq_true rfl, Nat.le_of_ble_eq_true rfl⟩ rfl (Nat.le_of_ble_eq_true rfl) 3 rfl (by intro H h; first | exact h.1 | exact h.2.1 | exact (h.2.2 g hg4).1 | exact (h.2.2 o ho4).1) (Pr' := Np E a v fss) (fun H h => h.2.2 o ho4) (fun q z => z.elim) (fun H H' h h1 h2 => by exact Np.rd ho4 h h1 h2) (st1 := [_]) rfl (k1 := 0) (n1 := 0) rfl rfl ?_
      rw [hcn]
      refine g_aload hF dX6_nextPlace_50 52 rfl rfl ?_
      refine g_get hF fl_X6_60 dX6_nextPlace_52 55 rfl (by intro H h; first | exact h.1 | exact h.2.1 | exact (h.2.2 g hg4).1 | exact (h.2.2 o ho4).1) rfl ?_
      refine g_icmp_gt hF dX6_nextPlace_55 58 rfl 60 (by decide) (fun c55 => ?_) (fun c55 => ?_)
      · refine g_bipush hF (10) dX6_nextPlace_60 62 rfl rfl ?_
        refine g_aload_n hF dX6_nextPlace_62 63 rfl rfl ?_
        refine g_get hF fl_X6_57 dX6_nextPlace_63 66 rfl (by intro H h; first | exact h.1 | exact h.2.1 | exact (h.2.2 g hg4).1 | exact (h.2.2 o ho4).1) rfl ?_
        rw [o3]
        refine g_imul hF dX6_nextPlace_66 67 rfl ?_
        refine g_aload hF dX6_nextPlace_67 69 rfl rfl ?_
        refine g_callV hF cv_X6_53 (c_G_chosenLine l E (a + 2 + 5 * o) (v.2.2.2 o) (fss o) M s' m0 m1 m6 hs' s6' hcho) dX6_nextPlace_69 72 rfl (st := [_]) rfl rfl ⟨Nat.le_of_ble_eq_true rfl, Nat.le_of_ble_eq_true rfl⟩ ⟨Nat.le_of_ble_eq_true rfl, Nat.le_of_ble_eq_true rfl⟩ rfl (Nat.le_of_ble_eq_true rfl) 3 rfl (by intro H h; first | exact h.1 | exact h.2.1 | exact (h.2.2 g hg4).1 | exact (h.2.2 o ho4).1) (Pr' := Np E a v fss) (fun H h => h.2.2 o ho4) (fun q z => z.elim) (fun H H' h h1 h2 => by exact Np.rd ho4 h h1 h2) (st1 := [_, _]) rfl (k1 := 0) (n1 := 0) rfl rfl ?_
        rw [hc2]
        refine g_iadd hF dX6_nextPlace_72 73 rfl ?_
        exact g_iret hF dX6_nextPlace_73 (Nat.le_of_ble_eq_true rfl) (Nat.le_of_ble_eq_true rfl) (fun H h => hR _ _ ⟨congrArg (fun z => some (Value.int z)) (by rw [hv, if_neg (fun z => z c19)]; exact (if_pos c55).symm), h⟩)
      · refine g_iconst hF (-1) dX6_nextPlace_58 59 rfl rfl ?_
        exact g_iret hF dX6_nextPlace_59 (Nat.le_of_ble_eq_true rfl) (Nat.le_of_ble_eq_true rfl) (fun H h => hR _ _ ⟨congrArg (fun z => some (Value.int z)) (by rw [hv, if_neg (fun z => z c19)]; exact (if_neg c55).symm), h⟩)
    · refine g_bipush hF (10) dX6_nextPlace_22 24 rfl rfl ?_
      refine g_iload_n hF dX6_nextPlace_24 25 rfl rfl ?_
      refine g_imul hF dX6_nextPlace_25 26 rfl ?_
      refine g_iload_n hF dX6_nextPlace_26 27 rfl rfl ?_
      refine g_iadd hF dX6_nextPlace_27 28 rfl ?_
      exact g_iret hF dX6_nextPlace_28 (Nat.le_of_ble_eq_true rfl) (Nat.le_of_ble_eq_true rfl) (fun H h => hR _ _ ⟨congrArg (fun z => some (Value.int z)) (by rw [hv]; exact (if_pos c19).symm), h⟩)
/-- a call has come for g -/
def sPlace (v : NV) (g : Nat) : NV :=
  if sNext v.2.2.2 g = -1 then (v.1, v.2.1 + 1, v.2.2.1 + 1, va_up v.2.2.2 g (upd (upd (v.2.2.2 g) 6 (v.2.2.2 g 6 + 1)) 9 (v.2.2.2 g 9 + 1)))
  else (v.1, v.2.1 + 1, v.2.2.1 + 1, (fun (h t : Nat) =>
    (fun gs1 : Nat → Nat → Int32 => (fun gs2 : Nat → Nat → Int32 => if h = g then va_up gs2 g (upd (gs2 g) 7 (gs2 g 7 + 1)) else va_up gs2 g (upd (gs2 g) 8 (gs2 g 8 + 1)))
      (va_up gs1 h (upd (gHold (gs1 h) t v.2.2.1 (nI g)) (13 + 4 * t) 0))) (va_up v.2.2.2 g (upd (v.2.2.2 g) 6 (v.2.2.2 g 6 + 1))))
    (sNext v.2.2.2 g / 10).toNatClampNeg (sNext v.2.2.2 g - sNext v.2.2.2 g / 10 * 10).toNatClampNeg)
theorem up_idem {α : Type} (f : Nat → α) (k : Nat) (z w : α) : va_up (va_up f k z) k w = va_up f k w := bx_uu f k z w
theorem Np.up {E : Ev} {a g : Nat} {x y z : Int32} {gs fss : Nat → Nat → Int32} {gv fs : Nat → Int32} {H H' : Heap} (hg : g < 4) (hfs : fs = fss g) (h : Np E a (x, y, z, gs) fss H) (h1 : Gp E (a + 2 + 5 * g) gv fs H') (h2 : out (rg (a + 2 + 5 * g) 5) H H') : Np E a (x, y, z, va_up gs g gv) fss H' := by
  subst hfs
  exact Np.to (Np.grp hg h h1 h2) rfl rfl rfl (fun j _ => ⟨rfl, va_up_same fss g j⟩)
theorem out_but {q : Nat} {A : Nat → Prop} {H H' : Heap} (hq : A q) (h : but q H H') : out A H H' := ⟨by rw [h.1]; exact Nat.le_refl _, fun b _ hb => h.2 b (fun e => hb (by rw [e]; exact hq))⟩
set_option maxRecDepth 100000 in
set_option maxHeartbeats 8000000 in
theorem c_N_placeCall (l : Launch) (E : Ev) (a : Nat) (v : NV) (fss : Nat → Nat → Int32) (G T g : Nat) (hG : v.1 = nI G) (hG4 : G ≤ 4) (hT : T < 2 ^ 30) (ho : ∀ g, g < 4 → okG G T g (v.2.2.2 g)) (hf : ∀ g, g < 4 → fsOK (v.2.2.2 g) (fss g)) (hg : g < G) : Ct l E yX6_placeCall cX6_placeCall 8 (some .int) (rm 4) [.ref a, .int (nI g)] (Np E a v fss) (rV (some (.int (sNext v.2.2.2 g))) (Np E a (sPlace v g) fss)) (rg a 22) := by
  refine ct_start (by decide) [some (.ref a), some (.int (nI g)), none, none, none, none, none, none] rfl (Nat.le_of_ble_eq_true rfl) ?_
  intro x hF hN hA hR
  have hg4 : g < 4 := by omega
  obtain ⟨v1, v2, v3, gs⟩ := v
  dsimp only at hG ho hf ⊢
  rcases sNext_cases hG4 ho hg with hp | ⟨h, t, hh, ht, hM6, hp, hfree⟩
  · have hv : sPlace (v1, v2, v3, gs) g = (v1, v2 + 1, v3 + 1, va_up gs g (upd (upd (gs g) 6 (gs g 6 + 1)) 9 (gs g 9 + 1))) := if_pos hp
    rw [hv, hp] at hR
    refine g_aload_n hF dX6_placeCall_0 1 rfl rfl ?_
    refine g_iload_n hF dX6_placeCall_1 2 rfl rfl ?_
    refine g_callV hF cv_X6_38 (c_N_groupAt l E a (v1, v2, v3, gs) fss G g hG hG4 hg) dX6_placeCall_2 5 rfl (st := []) rfl rfl ⟨Nat.le_of_ble_eq_true rfl, Nat.le_of_ble_eq_true rfl⟩ ⟨Nat.le_of_ble_eq_true rfl, Nat.le_of_ble_eq_true rfl⟩ rfl (Nat.le_of_ble_eq_true rfl) 6 rfl (by intro H h; first | exact h.1 | exact h.2.1 | exact (h.2.2 g hg4).1) (Pr' := _) (fun _ h => h) (fun q z => z.elim) (fun _ _ _ h _ => by exact h) (st1 := [_]) rfl (k1 := 0) (n1 := 0) rfl rfl ?_
    refine g_astore_n hF dX6_placeCall_5 6 rfl (lo' := [_, _, _, _, _, _, _, _]) (Nat.le_of_ble_eq_true rfl) rfl ?_
    refine g_aload_n hF dX6_placeCall_6 7 rfl rfl ?_
    refine g_ifnonnull hF dX6_placeCall_7 12 (by decide) ?_
    refine g_aload_n hF dX6_placeCall_12 13 rfl rfl ?_
    refine g_iload_n hF dX6_placeCall_13 14 rfl rfl ?_
    refine g_callV hF cv_X6_63 (c_N_nextPlace l E a (v1, v2, v3, gs) fss G T g hG hG4 hT ho hf hg) dX6_placeCall_14 17 rfl (st := []) rfl rfl ⟨Nat.le_of_ble_eq_true rfl, Nat.le_of_ble_eq_true rfl⟩ ⟨Nat.le_of_ble_eq_true rfl, Nat.le_of_ble_eq_true rfl⟩ rfl (Nat.le_of_ble_eq_true rfl) 6 rfl (by intro H h; first | exact h.1 | exact h.2.1 | exact (h.2.2 g hg4).1) (Pr' := _) (fun _ h => h) (fun q z => z.elim) (fun _ _ _ h _ => by exact h) (st1 := [_]) rfl (k1 := 0) (n1 := 0) rfl rfl ?_
    dsimp only
    rw [hp]
    refine g_istore_n hF dX6_placeCall_17 18 rfl (lo' := [_, _, _, _, _, _, _, _]) (Nat.le_of_ble_eq_true rfl) rfl ?_
    refine g_aload_n hF dX6_placeCall_18 19 rfl rfl ?_
    refine g_get hF fl_X6_29 dX6_placeCall_19 22 rfl (by intro H h; first | exact h.1 | exact h.2.1 | exact (h.2.2 g hg4).1) rfl ?_
    refine g_istore hF dX6_placeCall_22 24 rfl (lo' := [_, _, _, _, _, _, _, _]) (Nat.le_of_ble_eq_true rfl) rfl ?_
    refine g_aload_n hF dX6_placeCall_24 25 rfl rfl ?_
    refine g_dup hF dX6_placeCall_25 26 rfl rfl ?_
    refine g_get hF fl_X6_29 dX6_placeCall_26 29 rfl (by intro H h; first | exact h.1 | exact h.2.1 | exact (h.2.2 g hg4).1) rfl ?_
    refine g_iconst hF (1) dX6_placeCall_29 30 rfl rfl ?_
    refine g_iadd hF dX6_placeCall_30 31 rfl ?_
    refine g_put hF pl_X6_29 dX6_placeCall_31 34 rfl (by intro H h; first | exact h.1 | exact h.2.1 | exact (h.2.2 g hg4).1) (Nat.le_of_ble_eq_true rfl) rfl rfl (hA _ ⟨by omega, by omega⟩) (Pr' := Np E a (v1, v2, v3 + 1, gs) fss) (fun H H' h h1 h2 => by exact Np.wo v1 v2 (v3 + 1) h h1 h2) ?_
    refine g_aload_n hF dX6_placeCall_34 35 rfl rfl ?_
    refine g_dup hF dX6_placeCall_35 36 rfl rfl ?_
    refine g_get hF fl_X6_26 dX6_placeCall_36 39 rfl (by intro H h; first | exact h.1 | exact h.2.1 | exact (h.2.2 g hg4).1) rfl ?_
    refine g_iconst hF (1) dX6_placeCall_39 40 rfl rfl ?_
    refine g_iadd hF dX6_placeCall_40 41 rfl ?_
    refine g_put hF pl_X6_26 dX6_placeCall_41 44 rfl (by intro H h; first | exact h.1 | exact h.2.1 | exact (h.2.2 g hg4).1) (Nat.le_of_ble_eq_true rfl) rfl rfl (hA _ ⟨by omega, by omega⟩) (Pr' := Np E a (v1, v2 + 1, v3 + 1, gs) fss) (fun H H' h h1 h2 => by exact Np.wo v1 (v2 + 1) (v3 + 1) h h1 h2) ?_
    refine g_aload_n hF dX6_placeCall_44 45 rfl rfl ?_
    refine g_dup hF dX6_placeCall_45 46 rfl rfl ?_
    refine g_get hF fl_X6_66 dX6_placeCall_46 49 rfl (by intro H h; first | exact h.1 | exact h.2.1 | exact (h.2.2 g hg4).1) rfl ?_
    refine g_iconst hF (1) dX6_placeCall_49 50 rfl rfl ?_
    refine g_iadd hF dX6_placeCall_50 51 rfl ?_
    refine g_put hF pl_X6_66 dX6_placeCall_51 54 rfl (by intro H h; first | exact h.1 | exact h.2.1 | exact (h.2.2 g hg4).1) (Nat.le_of_ble_eq_true rfl) rfl rfl (hA _ ⟨by omega, by omega⟩) (Pr' := Np E a (v1, v2 + 1, v3 + 1, va_up gs g (upd (gs g) 6 (gs g 6 + 1))) fss) (fun H H' h h1 h2 => by exact Np.up hg4 rfl h (Gp.wo (by omega) rfl (h.2.2 g hg4) h1 h2) (out_but ⟨by omega, by omega⟩ h2)) ?_
    refine g_iload_n hF dX6_placeCall_54 55 rfl rfl ?_
    refine g_bipush hF (10) dX6_placeCall_55 57 rfl rfl ?_
    refine g_idiv hF dX6_placeCall_57 58 rfl (by decide) ?_
    refine g_istore hF dX6_placeCall_58 60 rfl (lo' := [_, _, _, _, _, _, _, _]) (Nat.le_of_ble_eq_true rfl) rfl ?_
    refine g_iload_n hF dX6_placeCall_60 61 rfl rfl ?_
    refine g_bipush hF (10) dX6_placeCall_61 63 rfl rfl ?_
    refine g_irem hF dX6_placeCall_63 64 rfl (by decide) ?_
    refine g_istore hF dX6_placeCall_64 66 rfl (lo' := [_, _, _, _, _, _, _, _]) (Nat.le_of_ble_eq_true rfl) rfl ?_
    refine g_iload_n hF dX6_placeCall_66 67 rfl rfl ?_
    refine g_iconst hF (-1) dX6_placeCall_67 68 rfl rfl ?_
    refine g_icmp_ne hF dX6_placeCall_68 71 rfl 75 (by decide) (fun c => absurd (rfl) c) (fun _ => ?_)
    refine g_null hF dX6_placeCall_71 72 rfl ?_
    refine g_goto hF dX6_placeCall_72 83 (by decide) ?_
    refine g_astoreN hF dX6_placeCall_83 85 rfl (lo' := [_, _, _, _, _, _, _, _]) (Nat.le_of_ble_eq_true rfl) rfl ?_
    refine g_aloadN hF dX6_placeCall_85 87 rfl rfl ?_
    refine g_ifnonnullN hF dX6_placeCall_87 90 rfl ?_
    have e0 : va_up gs g (upd (gs g) 6 (gs g 6 + 1)) g = upd (gs g) 6 (gs g 6 + 1) := va_up_self _ _ _
    refine g_aload_n hF dX6_placeCall_90 91 rfl rfl ?_
    refine g_dup hF dX6_placeCall_91 92 rfl rfl ?_
    refine g_get hF fl_X6_50 dX6_placeCall_92 95 rfl (by intro H h; first | exact h.1 | exact h.2.1 | exact (h.2.2 g hg4).1) rfl ?_
    refine g_iconst hF (1) dX6_placeCall_95 96 rfl rfl ?_
    refine g_iadd hF dX6_placeCall_96 97 rfl ?_
    refine g_put hF pl_X6_50 dX6_placeCall_97 100 rfl (by intro H h; first | exact h.1 | exact h.2.1 | exact (h.2.2 g hg4).1) (Nat.le_of_ble_eq_true rfl) rfl rfl (hA _ ⟨by omega, by omega⟩) (Pr' := Np E a (v1, v2 + 1, v3 + 1, va_up gs g (upd (upd (gs g) 6 (gs g 6 + 1)) 9 (gs g 9 + 1))) fss) (fun H H' h h1 h2 => by have h3 := h.2.2 g hg4; dsimp only at h3 h1; rw [e0] at h3 h1; have := Np.up hg4 rfl h (Gp.wo (w := 9) (z := gs g 9 + 1) (by omega) rfl h3 h1 h2) (out_but ⟨by omega, by omega⟩ h2); rw [up_idem] at this; exact this) ?_
    skip
    refine g_iconst hF (-1) dX6_placeCall_100 101 rfl rfl ?_
    exact g_iret hF dX6_placeCall_101 (Nat.le_of_ble_eq_true rfl) (Nat.le_of_ble_eq_true rfl) (fun H h => hR _ _ ⟨congrArg (fun z => some (Value.int z)) (rfl), h⟩)
  · have hh4 : h < 4 := by omega
    have ed : nI (10 * h + t) / 10 = nI h := by
      rw [show (10 : Int32) = nI 10 by decide, pk_div (by omega) (by omega) (by omega)]
      congr 1
      omega
    have er : nI (10 * h + t) - nI (10 * h + t) / 10 * 10 = nI t := by
      rw [show (10 : Int32) = nI 10 by decide, pk_rem (by omega) (by omega) (by omega)]
      congr 1
      omega
    obtain ⟨gs1, e1⟩ : ∃ q, q = va_up gs g (upd (gs g) 6 (gs g 6 + 1)) := ⟨_, rfl⟩
    obtain ⟨gs2, e2⟩ : ∃ q, q = va_up gs1 h (upd (gHold (gs1 h) t v3 (nI g)) (13 + 4 * t) 0) := ⟨_, rfl⟩
    have hM : gs1 h 0 = nI (gs h 0).toNatClampNeg := by
      obtain ⟨⟨M, m1, m6, m0, -⟩, -⟩ := ho h hh4
      rw [m0, nI_clamp (by omega), ← m0, e1]
      by_cases q : h = g
      · subst q; rw [va_up_self]; exact pk_un (by omega)
      · rw [va_up_ne _ _ q]
    have hv : sPlace (v1, v2, v3, gs) g = (v1, v2 + 1, v3 + 1, if h = g then va_up gs2 g (upd (gs2 g) 7 (gs2 g 7 + 1)) else va_up gs2 g (upd (gs2 g) 8 (gs2 g 8 + 1))) := by
      unfold sPlace
      dsimp only
      rw [hp, if_neg (nI_nm1 (by omega)), er, ed, nI_clamp (by omega), nI_clamp (by omega), ← e1, ← e2]
    rw [hv, hp] at hR
    refine g_aload_n hF dX6_placeCall_0 1 rfl rfl ?_
    refine g_iload_n hF dX6_placeCall_1 2 rfl rfl ?_
    refine g_callV hF cv_X6_38 (c_N_groupAt l E a (v1, v2, v3, gs) fss G g hG hG4 hg) dX6_placeCall_2 5 rfl (st := []) rfl rfl ⟨Nat.le_of_ble_eq_true rfl, Nat.le_of_ble_eq_true rfl⟩ ⟨Nat.le_of_ble_eq_true rfl, Nat.le_of_ble_eq_true rfl⟩ rfl (Nat.le_of_ble_eq_true rfl) 6 rfl (by intro H z; first | exact z.1 | exact z.2.1 | exact (z.2.2 g hg4).1 | exact (z.2.2 h hh4).1) (Pr' := _) (fun _ h => h) (fun q z => z.elim) (fun _ _ _ h _ => by exact h) (st1 := [_]) rfl (k1 := 0) (n1 := 0) rfl rfl ?_
    refine g_astore_n hF dX6_placeCall_5 6 rfl (lo' := [_, _, _, _, _, _, _, _]) (Nat.le_of_ble_eq_true rfl) rfl ?_
    refine g_aload_n hF dX6_placeCall_6 7 rfl rfl ?_
    refine g_ifnonnull hF dX6_placeCall_7 12 (by decide) ?_
    refine g_aload_n hF dX6_placeCall_12 13 rfl rfl ?_
    refine g_iload_n hF dX6_placeCall_13 14 rfl rfl ?_
    refine g_callV hF cv_X6_63 (c_N_nextPlace l E a (v1, v2, v3, gs) fss G T g hG hG4 hT ho hf hg) dX6_placeCall_14 17 rfl (st := []) rfl rfl ⟨Nat.le_of_ble_eq_true rfl, Nat.le_of_ble_eq_true rfl⟩ ⟨Nat.le_of_ble_eq_true rfl, Nat.le_of_ble_eq_true rfl⟩ rfl (Nat.le_of_ble_eq_true rfl) 6 rfl (by intro H z; first | exact z.1 | exact z.2.1 | exact (z.2.2 g hg4).1 | exact (z.2.2 h hh4).1) (Pr' := _) (fun _ h => h) (fun q z => z.elim) (fun _ _ _ h _ => by exact h) (st1 := [_]) rfl (k1 := 0) (n1 := 0) rfl rfl ?_
    dsimp only
    rw [hp]
    refine g_istore_n hF dX6_placeCall_17 18 rfl (lo' := [_, _, _, _, _, _, _, _]) (Nat.le_of_ble_eq_true rfl) rfl ?_
    refine g_aload_n hF dX6_placeCall_18 19 rfl rfl ?_
    refine g_get hF fl_X6_29 dX6_placeCall_19 22 rfl (by intro H z; first | exact z.1 | exact z.2.1 | exact (z.2.2 g hg4).1 | exact (z.2.2 h hh4).1) rfl ?_
    refine g_istore hF dX6_placeCall_22 24 rfl (lo' := [_, _, _, _, _, _, _, _]) (Nat.le_of_ble_eq_true rfl) rfl ?_
    refine g_aload_n hF dX6_placeCall_24 25 rfl rfl ?_
    refine g_dup hF dX6_placeCall_25 26 rfl rfl ?_
    refine g_get hF fl_X6_29 dX6_placeCall_26 29 rfl (by intro H z; first | exact z.1 | exact z.2.1 | exact (z.2.2 g hg4).1 | exact (z.2.2 h hh4).1) rfl ?_
    refine g_iconst hF (1) dX6_placeCall_29 30 rfl rfl ?_
    refine g_iadd hF dX6_placeCall_30 31 rfl ?_
    refine g_put hF pl_X6_29 dX6_placeCall_31 34 rfl (by intro H z; first | exact z.1 | exact z.2.1 | exact (z.2.2 g hg4).1 | exact (z.2.2 h hh4).1) (Nat.le_of_ble_eq_true rfl) rfl rfl (hA _ ⟨by omega, by omega⟩) (Pr' := Np E a (v1, v2, v3 + 1, gs) fss) (fun H H' h h1 h2 => by exact Np.wo v1 v2 (v3 + 1) h h1 h2) ?_
    refine g_aload_n hF dX6_placeCall_34 35 rfl rfl ?_
    refine g_dup hF dX6_placeCall_35 36 rfl rfl ?_
    refine g_get hF fl_X6_26 dX6_placeCall_36 39 rfl (by intro H z; first | exact z.1 | exact z.2.1 | exact (z.2.2 g hg4).1 | exact (z.2.2 h hh4).1) rfl ?_
    refine g_iconst hF (1) dX6_placeCall_39 40 rfl rfl ?_
    refine g_iadd hF dX6_placeCall_40 41 rfl ?_
    refine g_put hF pl_X6_26 dX6_placeCall_41 44 rfl (by intro H z; first | exact z.1 | exact z.2.1 | exact (z.2.2 g hg4).1 | exact (z.2.2 h hh4).1) (Nat.le_of_ble_eq_true rfl) rfl rfl (hA _ ⟨by omega, by omega⟩) (Pr' := Np E a (v1, v2 + 1, v3 + 1, gs) fss) (fun H H' h h1 h2 => by exact Np.wo v1 (v2 + 1) (v3 + 1) h h1 h2) ?_
    refine g_aload_n hF dX6_placeCall_44 45 rfl rfl ?_
    refine g_dup hF dX6_placeCall_45 46 rfl rfl ?_
    refine g_get hF fl_X6_66 dX6_placeCall_46 49 rfl (by intro H z; first | exact z.1 | exact z.2.1 | exact (z.2.2 g hg4).1 | exact (z.2.2 h hh4).1) rfl ?_
    refine g_iconst hF (1) dX6_placeCall_49 50 rfl rfl ?_
    refine g_iadd hF dX6_placeCall_50 51 rfl ?_
    refine g_put hF pl_X6_66 dX6_placeCall_51 54 rfl (by intro H z; first | exact z.1 | exact z.2.1 | exact (z.2.2 g hg4).1 | exact (z.2.2 h hh4).1) (Nat.le_of_ble_eq_true rfl) rfl rfl (hA _ ⟨by omega, by omega⟩) (Pr' := Np E a (v1, v2 + 1, v3 + 1, gs1) fss) (fun H H' h h1 h2 => by rw [e1]; exact Np.up hg4 rfl h (Gp.wo (by omega) rfl (h.2.2 g hg4) h1 h2) (out_but ⟨by omega, by omega⟩ h2)) ?_
    refine g_iload_n hF dX6_placeCall_54 55 rfl rfl ?_
    refine g_bipush hF (10) dX6_placeCall_55 57 rfl rfl ?_
    refine g_idiv hF dX6_placeCall_57 58 rfl (by decide) ?_
    rw [ed]
    refine g_istore hF dX6_placeCall_58 60 rfl (lo' := [_, _, _, _, _, _, _, _]) (Nat.le_of_ble_eq_true rfl) rfl ?_
    refine g_iload_n hF dX6_placeCall_60 61 rfl rfl ?_
    refine g_bipush hF (10) dX6_placeCall_61 63 rfl rfl ?_
    refine g_irem hF dX6_placeCall_63 64 rfl (by decide) ?_
    rw [er]
    refine g_istore hF dX6_placeCall_64 66 rfl (lo' := [_, _, _, _, _, _, _, _]) (Nat.le_of_ble_eq_true rfl) rfl ?_
    refine g_iload_n hF dX6_placeCall_66 67 rfl rfl ?_
    refine g_iconst hF (-1) dX6_placeCall_67 68 rfl rfl ?_
    refine g_icmp_ne hF dX6_placeCall_68 71 rfl 75 (by decide) (fun _ => ?_) (fun c => absurd c (nI_nm1 (by omega)))
    refine g_aload_n hF dX6_placeCall_75 76 rfl rfl ?_
    refine g_iload hF dX6_placeCall_76 78 rfl rfl ?_
    refine g_iload hF dX6_placeCall_78 80 rfl rfl ?_
    refine g_callV hF cv_X6_69 (c_N_gwl l E a (v1, v2 + 1, v3 + 1, gs1) fss G h _ t hG hG4 hh hM hM6 ht) dX6_placeCall_80 83 rfl (st := []) rfl rfl ⟨Nat.le_of_ble_eq_true rfl, Nat.le_of_ble_eq_true rfl⟩ ⟨Nat.le_of_ble_eq_true rfl, Nat.le_of_ble_eq_true rfl⟩ rfl (Nat.le_of_ble_eq_true rfl) 6 rfl (by intro H z; first | exact z.1 | exact z.2.1 | exact (z.2.2 g hg4).1 | exact (z.2.2 h hh4).1) (Pr' := _) (fun _ h => h) (fun q z => z.elim) (fun _ _ _ h _ => by exact h) (st1 := [_]) rfl (k1 := 0) (n1 := 0) rfl rfl ?_
    refine g_astore hF dX6_placeCall_83 85 rfl (lo' := [_, _, _, _, _, _, _, _]) (Nat.le_of_ble_eq_true rfl) rfl ?_
    refine g_aload hF dX6_placeCall_85 87 rfl rfl ?_
    refine g_ifnonnull hF dX6_placeCall_87 102 (by decide) ?_
    refine g_aload hF dX6_placeCall_102 104 rfl rfl ?_
    refine g_iload hF dX6_placeCall_104 106 rfl rfl ?_
    refine g_iload hF dX6_placeCall_106 108 rfl rfl ?_
    refine g_iload_n hF dX6_placeCall_108 109 rfl rfl ?_
    refine g_callV hF cv_X6_73 (c_G_hold l E (a + 2 + 5 * h) (gs1 h) (fss h) t v3 (nI g) (by omega)) dX6_placeCall_109 112 rfl (st := []) rfl rfl ⟨Nat.le_of_ble_eq_true rfl, Nat.le_of_ble_eq_true rfl⟩ ⟨Nat.le_of_ble_eq_true rfl, Nat.le_of_ble_eq_true rfl⟩ rfl (Nat.le_of_ble_eq_true rfl) 3 rfl (by intro H z; first | exact z.1 | exact z.2.1 | exact (z.2.2 g hg4).1 | exact (z.2.2 h hh4).1) (Pr' := Np E a (v1, v2 + 1, v3 + 1, gs2) fss) (fun H z => z.2.2 h hh4) (fun q hq => hA q ⟨by have := hq.1; omega, by have := hq.2; omega⟩) (fun H H' z h1 h2 => by rw [e2]; exact Np.up hh4 rfl z (Gp.ghost h1) h2) (st1 := []) rfl (k1 := 0) (n1 := 0) rfl rfl ?_
    refine g_iload hF dX6_placeCall_112 114 rfl rfl ?_
    refine g_iload_n hF dX6_placeCall_114 115 rfl rfl ?_
    refine g_icmp_ne hF dX6_placeCall_115 118 rfl 131 (by decide) (fun c115 => ?_) (fun c115 => ?_)
    · refine g_aload_n hF dX6_placeCall_131 132 rfl rfl ?_
      refine g_dup hF dX6_placeCall_132 133 rfl rfl ?_
      refine g_get hF fl_X6_80 dX6_placeCall_133 136 rfl (by intro H z; first | exact z.1 | exact z.2.1 | exact (z.2.2 g hg4).1 | exact (z.2.2 h hh4).1) rfl ?_
      refine g_iconst hF (1) dX6_placeCall_136 137 rfl rfl ?_
      refine g_iadd hF dX6_placeCall_137 138 rfl ?_
      refine g_put hF pl_X6_80 dX6_placeCall_138 141 rfl (by intro H z; first | exact z.1 | exact z.2.1 | exact (z.2.2 g hg4).1 | exact (z.2.2 h hh4).1) (Nat.le_of_ble_eq_true rfl) rfl rfl (hA _ ⟨by omega, by omega⟩) (Pr' := Np E a (v1, v2 + 1, v3 + 1, va_up gs2 g (upd (gs2 g) 8 (gs2 g 8 + 1))) fss) (fun H H' z h1 h2 => by exact Np.up hg4 rfl z (Gp.wo (by omega) rfl (z.2.2 g hg4) h1 h2) (out_but ⟨by omega, by omega⟩ h2)) ?_
      refine g_iload_n hF dX6_placeCall_141 142 rfl rfl ?_
      exact g_iret hF dX6_placeCall_142 (Nat.le_of_ble_eq_true rfl) (Nat.le_of_ble_eq_true rfl) (fun H h => hR _ _ ⟨congrArg (fun z => some (Value.int z)) (rfl), by rw [if_neg (fun z => c115 (by rw [z]))]; assumption⟩)
    · refine g_aload_n hF dX6_placeCall_118 119 rfl rfl ?_
      refine g_dup hF dX6_placeCall_119 120 rfl rfl ?_
      refine g_get hF fl_X6_77 dX6_placeCall_120 123 rfl (by intro H z; first | exact z.1 | exact z.2.1 | exact (z.2.2 g hg4).1 | exact (z.2.2 h hh4).1) rfl ?_
      refine g_iconst hF (1) dX6_placeCall_123 124 rfl rfl ?_
      refine g_iadd hF dX6_placeCall_124 125 rfl ?_
      refine g_put hF pl_X6_77 dX6_placeCall_125 128 rfl (by intro H z; first | exact z.1 | exact z.2.1 | exact (z.2.2 g hg4).1 | exact (z.2.2 h hh4).1) (Nat.le_of_ble_eq_true rfl) rfl rfl (hA _ ⟨by omega, by omega⟩) (Pr' := Np E a (v1, v2 + 1, v3 + 1, va_up gs2 g (upd (gs2 g) 7 (gs2 g 7 + 1))) fss) (fun H H' z h1 h2 => by exact Np.up hg4 rfl z (Gp.wo (by omega) rfl (z.2.2 g hg4) h1 h2) (out_but ⟨by omega, by omega⟩ h2)) ?_
      refine g_goto hF dX6_placeCall_128 141 (by decide) ?_
      refine g_iload_n hF dX6_placeCall_141 142 rfl rfl ?_
      exact g_iret hF dX6_placeCall_142 (Nat.le_of_ble_eq_true rfl) (Nat.le_of_ble_eq_true rfl) (fun H h => hR _ _ ⟨congrArg (fun z => some (Value.int z)) (rfl), by rw [if_pos ((nI_eq (by omega) (by omega)).mp c115)]; assumption⟩)
def sEnd (v : NV) (g i : Nat) : NV := (v.1, v.2.1 + 1, v.2.2.1, va_up v.2.2.2 g (upd (gLet (v.2.2.2 g) i 0) (13 + 4 * i) (v.2.1 + 1)))
def sBrk (v : NV) (g i : Nat) : NV := (v.1, v.2.1 + 1, v.2.2.1, (fun gs1 : Nat → Nat → Int32 => va_up gs1 g (upd (gLet (gs1 g) i 2) (13 + 4 * i) 0)) (if v.2.2.2 g (12 + 4 * i) = -1 then v.2.2.2 else va_up v.2.2.2 (v.2.2.2 g (12 + 4 * i)).toNatClampNeg (upd (v.2.2.2 (v.2.2.2 g (12 + 4 * i)).toNatClampNeg) 9 (v.2.2.2 (v.2.2.2 g (12 + 4 * i)).toNatClampNeg 9 + 1))))
set_option maxRecDepth 100000 in
set_option maxHeartbeats 8000000 in
theorem c_N_endCall (l : Launch) (E : Ev) (a : Nat) (v : NV) (fss : Nat → Nat → Int32) (g i : Nat) (hg : g < 4) (hi : i < 6) : Ct l E yX6_endCall cX6_endCall 4 (some .int) (rm 2) [.ref a, .ref (a + 2 + 5 * g), .int (nI i)] (Np E a v fss) (rV (some (.int (v.2.2.2 g (11 + 4 * i)))) (Np E a (sEnd v g i) (va_up fss g (upd (fss g) i (v.2.1 + 1))))) (rg a 22) := by
  refine ct_start (by decide) [some (.ref a), some (.ref (a + 2 + 5 * g)), some (.int (nI i)), none] rfl (Nat.le_of_ble_eq_true rfl) ?_
  intro x hF hN hA hR
  obtain ⟨v1, v2, v3, gs⟩ := v
  have hcl : (nI i).toNatClampNeg = i := nI_clamp (by omega)
  refine g_aload_n hF dX6_endCall_0 1 rfl rfl ?_
  refine g_get hF fl_X6_83 dX6_endCall_1 4 rfl (by intro H h; first | exact h.1 | exact h.2.1 | exact (h.2.2 g hg).1 | exact (h.2.2 g hg).2.1 | exact (h.2.2 g hg).2.2.1 | exact (h.2.2 g hg).2.2.2.1) rfl ?_
  refine g_iload_n hF dX6_endCall_4 5 rfl rfl ?_
  refine g_iald hF dX6_endCall_5 6 rfl (by intro H h; first | exact h.1 | exact h.2.1 | exact (h.2.2 g hg).1 | exact (h.2.2 g hg).2.1 | exact (h.2.2 g hg).2.2.1 | exact (h.2.2 g hg).2.2.2.1) (vp_in_nI hi (by omega)) ?_
  rw [hcl]
  refine g_istore_n hF dX6_endCall_6 7 rfl (lo' := [_, _, _, _]) (Nat.le_of_ble_eq_true rfl) rfl ?_
  refine g_aload_n hF dX6_endCall_7 8 rfl rfl ?_
  refine g_dup hF dX6_endCall_8 9 rfl rfl ?_
  refine g_get hF fl_X6_26 dX6_endCall_9 12 rfl (by intro H h; first | exact h.1 | exact h.2.1 | exact (h.2.2 g hg).1 | exact (h.2.2 g hg).2.1 | exact (h.2.2 g hg).2.2.1 | exact (h.2.2 g hg).2.2.2.1) rfl ?_
  refine g_iconst hF (1) dX6_endCall_12 13 rfl rfl ?_
  refine g_iadd hF dX6_endCall_13 14 rfl ?_
  refine g_put hF pl_X6_26 dX6_endCall_14 17 rfl (by intro H h; first | exact h.1 | exact h.2.1 | exact (h.2.2 g hg).1 | exact (h.2.2 g hg).2.1 | exact (h.2.2 g hg).2.2.1 | exact (h.2.2 g hg).2.2.2.1) (Nat.le_of_ble_eq_true rfl) rfl rfl (hA _ ⟨by omega, by omega⟩) (Pr' := Np E a (v1, v2 + 1, v3, gs) fss) (fun H H' h h1 h2 => by exact Np.wo v1 (v2 + 1) v3 h h1 h2) ?_
  refine g_aload_n hF dX6_endCall_17 18 rfl rfl ?_
  refine g_iload_n hF dX6_endCall_18 19 rfl rfl ?_
  refine g_iconst hF (0) dX6_endCall_19 20 rfl rfl ?_
  refine g_aload_n hF dX6_endCall_20 21 rfl rfl ?_
  refine g_get hF fl_X6_26 dX6_endCall_21 24 rfl (by intro H h; first | exact h.1 | exact h.2.1 | exact (h.2.2 g hg).1 | exact (h.2.2 g hg).2.1 | exact (h.2.2 g hg).2.2.1 | exact (h.2.2 g hg).2.2.2.1) rfl ?_
  refine g_callV hF cv_X6_87 (c_G_letGo l E (a + 2 + 5 * g) (gs g) (fss g) i 0 (v2 + 1) hi) dX6_endCall_24 27 rfl (st := []) rfl rfl ⟨Nat.le_of_ble_eq_true rfl, Nat.le_of_ble_eq_true rfl⟩ ⟨Nat.le_of_ble_eq_true rfl, Nat.le_of_ble_eq_true rfl⟩ rfl (Nat.le_of_ble_eq_true rfl) 3 rfl (by intro H h; first | exact h.1 | exact h.2.1 | exact (h.2.2 g hg).1 | exact (h.2.2 g hg).2.1 | exact (h.2.2 g hg).2.2.1 | exact (h.2.2 g hg).2.2.2.1) (Pr' := Np E a (v1, v2 + 1, v3, va_up gs g (upd (gLet (gs g) i 0) (13 + 4 * i) (v2 + 1))) (va_up fss g (upd (fss g) i (v2 + 1)))) (fun H h => h.2.2 g hg) (fun q hq => hA q ⟨by have := hq.1; omega, by have := hq.2; omega⟩) (fun H H' h h1 h2 => by exact Np.grp hg h (Gp.ghost h1) h2) (st1 := []) rfl (k1 := 0) (n1 := 0) rfl rfl ?_
  refine g_iload_n hF dX6_endCall_27 28 rfl rfl ?_
  exact g_iret hF dX6_endCall_28 (Nat.le_of_ble_eq_true rfl) (Nat.le_of_ble_eq_true rfl) (fun H h => hR _ _ ⟨congrArg (fun z => some (Value.int z)) (rfl), h⟩)
set_option maxRecDepth 100000 in
set_option maxHeartbeats 8000000 in
theorem c_N_mendLine (l : Launch) (E : Ev) (a : Nat) (v : NV) (fss : Nat → Nat → Int32) (g i : Nat) (hg : g < 4) (hi : i < 6) : Ct l E yX6_mendLine cX6_mendLine 3 none (rm 2) [.ref a, .ref (a + 2 + 5 * g), .int (nI i)] (Np E a v fss) (rV none (Np E a (sEnd v g i) (va_up fss g (upd (fss g) i (v.2.1 + 1))))) (rg a 22) := by
  refine ct_start (by decide) [some (.ref a), some (.ref (a + 2 + 5 * g)), some (.int (nI i))] rfl (Nat.le_of_ble_eq_true rfl) ?_
  intro x hF hN hA hR
  obtain ⟨v1, v2, v3, gs⟩ := v
  refine g_aload_n hF dX6_mendLine_0 1 rfl rfl ?_
  refine g_dup hF dX6_mendLine_1 2 rfl rfl ?_
  refine g_get hF fl_X6_26 dX6_mendLine_2 5 rfl (by intro H h; first | exact h.1 | exact h.2.1 | exact (h.2.2 g hg).1 | exact (h.2.2 g hg).2.1 | exact (h.2.2 g hg).2.2.1 | exact (h.2.2 g hg).2.2.2.1) rfl ?_
  refine g_iconst hF (1) dX6_mendLine_5 6 rfl rfl ?_
  refine g_iadd hF dX6_mendLine_6 7 rfl ?_
  refine g_put hF pl_X6_26 dX6_mendLine_7 10 rfl (by intro H h; first | exact h.1 | exact h.2.1 | exact (h.2.2 g hg).1 | exact (h.2.2 g hg).2.1 | exact (h.2.2 g hg).2.2.1 | exact (h.2.2 g hg).2.2.2.1) (Nat.le_of_ble_eq_true rfl) rfl rfl (hA _ ⟨by omega, by omega⟩) (Pr' := Np E a (v1, v2 + 1, v3, gs) fss) (fun H H' h h1 h2 => by exact Np.wo v1 (v2 + 1) v3 h h1 h2) ?_
  refine g_aload_n hF dX6_mendLine_10 11 rfl rfl ?_
  refine g_iload_n hF dX6_mendLine_11 12 rfl rfl ?_
  refine g_iconst hF (0) dX6_mendLine_12 13 rfl rfl ?_
  refine g_aload_n hF dX6_mendLine_13 14 rfl rfl ?_
  refine g_get hF fl_X6_26 dX6_mendLine_14 17 rfl (by intro H h; first | exact h.1 | exact h.2.1 | exact (h.2.2 g hg).1 | exact (h.2.2 g hg).2.1 | exact (h.2.2 g hg).2.2.1 | exact (h.2.2 g hg).2.2.2.1) rfl ?_
  refine g_callV hF cv_X6_87 (c_G_letGo l E (a + 2 + 5 * g) (gs g) (fss g) i 0 (v2 + 1) hi) dX6_mendLine_17 20 rfl (st := []) rfl rfl ⟨Nat.le_of_ble_eq_true rfl, Nat.le_of_ble_eq_true rfl⟩ ⟨Nat.le_of_ble_eq_true rfl, Nat.le_of_ble_eq_true rfl⟩ rfl (Nat.le_of_ble_eq_true rfl) 3 rfl (by intro H h; first | exact h.1 | exact h.2.1 | exact (h.2.2 g hg).1 | exact (h.2.2 g hg).2.1 | exact (h.2.2 g hg).2.2.1 | exact (h.2.2 g hg).2.2.2.1) (Pr' := Np E a (v1, v2 + 1, v3, va_up gs g (upd (gLet (gs g) i 0) (13 + 4 * i) (v2 + 1))) (va_up fss g (upd (fss g) i (v2 + 1)))) (fun H h => h.2.2 g hg) (fun q hq => hA q ⟨by have := hq.1; omega, by have := hq.2; omega⟩) (fun H H' h h1 h2 => by exact Np.grp hg h (Gp.ghost h1) h2) (st1 := []) rfl (k1 := 0) (n1 := 0) rfl rfl ?_
  exact g_vret hF dX6_mendLine_20 (Nat.le_of_ble_eq_true rfl) (Nat.le_of_ble_eq_true rfl) (fun H h => hR _ _ ⟨rfl, h⟩)
set_option maxRecDepth 100000 in
set_option maxHeartbeats 8000000 in
theorem c_N_breakLine (l : Launch) (E : Ev) (a : Nat) (v : NV) (fss : Nat → Nat → Int32) (G g i : Nat) (hG : v.1 = nI G) (hG4 : G ≤ 4) (hg : g < 4) (hi : i < 6) (hw : v.2.2.2 g (12 + 4 * i) = -1 ∨ ∃ w, w < G ∧ v.2.2.2 g (12 + 4 * i) = nI w) : Ct l E yX6_breakLine cX6_breakLine 5 (some .int) (rm 2) [.ref a, .ref (a + 2 + 5 * g), .int (nI i)] (Np E a v fss) (rV (some (.int (v.2.2.2 g (11 + 4 * i)))) (Np E a (sBrk v g i) (va_up fss g (upd (fss g) i (v.2.1 + 1))))) (rg a 22) := by
  refine ct_start (by decide) [some (.ref a), some (.ref (a + 2 + 5 * g)), some (.int (nI i)), none, none] rfl (Nat.le_of_ble_eq_true rfl) ?_
  intro x hF hN hA hR
  obtain ⟨v1, v2, v3, gs⟩ := v
  dsimp only at hG hw hR ⊢
  have hcl : (nI i).toNatClampNeg = i := nI_clamp (by omega)
  rcases hw with hw | ⟨w, w1, w2⟩
  · have hv : sBrk (v1, v2, v3, gs) g i = (v1, v2 + 1, v3, va_up gs g (upd (gLet (gs g) i 2) (13 + 4 * i) 0)) := by unfold sBrk; dsimp only; rw [if_pos hw]
    rw [hv] at hR
    refine g_aload_n hF dX6_breakLine_0 1 rfl rfl ?_
    refine g_get hF fl_X6_83 dX6_breakLine_1 4 rfl (by intro H h; first | exact h.1 | exact h.2.1 | exact (h.2.2 g hg).1 | exact (h.2.2 g hg).2.1 | exact (h.2.2 g hg).2.2.1 | exact (h.2.2 g hg).2.2.2.1) rfl ?_
    refine g_iload_n hF dX6_breakLine_4 5 rfl rfl ?_
    refine g_iald hF dX6_breakLine_5 6 rfl (by intro H h; first | exact h.1 | exact h.2.1 | exact (h.2.2 g hg).1 | exact (h.2.2 g hg).2.1 | exact (h.2.2 g hg).2.2.1 | exact (h.2.2 g hg).2.2.2.1) (vp_in_nI hi (by omega)) ?_
    rw [hcl]
    refine g_istore_n hF dX6_breakLine_6 7 rfl (lo' := [_, _, _, _, _]) (Nat.le_of_ble_eq_true rfl) rfl ?_
    refine g_aload_n hF dX6_breakLine_7 8 rfl rfl ?_
    refine g_aload_n hF dX6_breakLine_8 9 rfl rfl ?_
    refine g_get hF fl_X6_90 dX6_breakLine_9 12 rfl (by intro H h; first | exact h.1 | exact h.2.1 | exact (h.2.2 g hg).1 | exact (h.2.2 g hg).2.1 | exact (h.2.2 g hg).2.2.1 | exact (h.2.2 g hg).2.2.2.1) rfl ?_
    refine g_iload_n hF dX6_breakLine_12 13 rfl rfl ?_
    refine g_iald hF dX6_breakLine_13 14 rfl (by intro H h; first | exact h.1 | exact h.2.1 | exact (h.2.2 g hg).1 | exact (h.2.2 g hg).2.1 | exact (h.2.2 g hg).2.2.1 | exact (h.2.2 g hg).2.2.2.1) (vp_in_nI hi (by omega)) ?_
    rw [hcl]
    dsimp only
    rw [hw]
    refine g_callV hF cv_X6_38 (c_N_groupAtN l E a (v1, v2, v3, gs) fss (-1) (Or.inl (by decide))) dX6_breakLine_14 17 rfl (st := []) rfl rfl ⟨Nat.le_of_ble_eq_true rfl, Nat.le_of_ble_eq_true rfl⟩ ⟨Nat.le_of_ble_eq_true rfl, Nat.le_of_ble_eq_true rfl⟩ rfl (Nat.le_of_ble_eq_true rfl) 6 rfl (by intro H h; first | exact h.1 | exact h.2.1 | exact (h.2.2 g hg).1 | exact (h.2.2 g hg).2.1 | exact (h.2.2 g hg).2.2.1 | exact (h.2.2 g hg).2.2.2.1) (Pr' := _) (fun _ h => h) (fun q z => z.elim) (fun _ _ _ h _ => by exact h) (st1 := [_]) rfl (k1 := 0) (n1 := 0) rfl rfl ?_
    refine g_astoreN hF dX6_breakLine_17 19 rfl (lo' := [_, _, _, _, _]) (Nat.le_of_ble_eq_true rfl) rfl ?_
    refine g_aloadN hF dX6_breakLine_19 21 rfl rfl ?_
    refine g_ifnullN hF dX6_breakLine_21 35 (by decide) ?_
    refine g_aload_n hF dX6_breakLine_35 36 rfl rfl ?_
    refine g_dup hF dX6_breakLine_36 37 rfl rfl ?_
    refine g_get hF fl_X6_26 dX6_breakLine_37 40 rfl (by intro H h; first | exact h.1 | exact h.2.1 | exact (h.2.2 g hg).1 | exact (h.2.2 g hg).2.1 | exact (h.2.2 g hg).2.2.1 | exact (h.2.2 g hg).2.2.2.1) rfl ?_
    refine g_iconst hF (1) dX6_breakLine_40 41 rfl rfl ?_
    refine g_iadd hF dX6_breakLine_41 42 rfl ?_
    refine g_put hF pl_X6_26 dX6_breakLine_42 45 rfl (by intro H h; first | exact h.1 | exact h.2.1 | exact (h.2.2 g hg).1 | exact (h.2.2 g hg).2.1 | exact (h.2.2 g hg).2.2.1 | exact (h.2.2 g hg).2.2.2.1) (Nat.le_of_ble_eq_true rfl) rfl rfl (hA _ ⟨by omega, by omega⟩) (Pr' := Np E a (v1, v2 + 1, v3, gs) fss) (fun H H' h h1 h2 => by exact Np.wo v1 (v2 + 1) v3 h h1 h2) ?_
    refine g_aload_n hF dX6_breakLine_45 46 rfl rfl ?_
    refine g_iload_n hF dX6_breakLine_46 47 rfl rfl ?_
    refine g_iconst hF (2) dX6_breakLine_47 48 rfl rfl ?_
    refine g_aload_n hF dX6_breakLine_48 49 rfl rfl ?_
    refine g_get hF fl_X6_26 dX6_breakLine_49 52 rfl (by intro H h; first | exact h.1 | exact h.2.1 | exact (h.2.2 g hg).1 | exact (h.2.2 g hg).2.1 | exact (h.2.2 g hg).2.2.1 | exact (h.2.2 g hg).2.2.2.1) rfl ?_
    refine g_callV hF cv_X6_87 (c_G_letGo l E (a + 2 + 5 * g) (gs g) (fss g) i 2 (v2 + 1) hi) dX6_breakLine_52 55 rfl (st := []) rfl rfl ⟨Nat.le_of_ble_eq_true rfl, Nat.le_of_ble_eq_true rfl⟩ ⟨Nat.le_of_ble_eq_true rfl, Nat.le_of_ble_eq_true rfl⟩ rfl (Nat.le_of_ble_eq_true rfl) 3 rfl (by intro H h; first | exact h.1 | exact h.2.1 | exact (h.2.2 g hg).1 | exact (h.2.2 g hg).2.1 | exact (h.2.2 g hg).2.2.1 | exact (h.2.2 g hg).2.2.2.1) (Pr' := Np E a (v1, v2 + 1, v3, va_up gs g (upd (gLet (gs g) i 2) (13 + 4 * i) 0)) (va_up fss g (upd (fss g) i (v2 + 1)))) (fun H h => h.2.2 g hg) (fun q hq => hA q ⟨by have := hq.1; omega, by have := hq.2; omega⟩) (fun H H' h h1 h2 => by exact Np.grp hg h (Gp.ghost h1) h2) (st1 := []) rfl (k1 := 0) (n1 := 0) rfl rfl ?_
    refine g_iload_n hF dX6_breakLine_55 56 rfl rfl ?_
    exact g_iret hF dX6_breakLine_56 (Nat.le_of_ble_eq_true rfl) (Nat.le_of_ble_eq_true rfl) (fun H h => hR _ _ ⟨congrArg (fun z => some (Value.int z)) (rfl), h⟩)
  · have w4 : w < 4 := by omega
    obtain ⟨gs1, e1⟩ : ∃ q, q = va_up gs w (upd (gs w) 9 (gs w 9 + 1)) := ⟨_, rfl⟩
    have hv : sBrk (v1, v2, v3, gs) g i = (v1, v2 + 1, v3, va_up gs1 g (upd (gLet (gs1 g) i 2) (13 + 4 * i) 0)) := by
      have hne : ¬ gs g (12 + 4 * i) = -1 := by rw [w2]; exact nI_nm1 (by omega)
      have hc2 : (gs g (12 + 4 * i)).toNatClampNeg = w := by rw [w2]; exact nI_clamp (by omega)
      unfold sBrk
      dsimp only
      rw [if_neg hne, hc2, ← e1]
    rw [hv] at hR
    refine g_aload_n hF dX6_breakLine_0 1 rfl rfl ?_
    refine g_get hF fl_X6_83 dX6_breakLine_1 4 rfl (by intro H h; first | exact h.1 | exact h.2.1 | exact (h.2.2 g hg).1 | exact (h.2.2 g hg).2.1 | exact (h.2.2 g hg).2.2.1 | exact (h.2.2 g hg).2.2.2.1 | exact (h.2.2 w w4).1) rfl ?_
    refine g_iload_n hF dX6_breakLine_4 5 rfl rfl ?_
    refine g_iald hF dX6_breakLine_5 6 rfl (by intro H h; first | exact h.1 | exact h.2.1 | exact (h.2.2 g hg).1 | exact (h.2.2 g hg).2.1 | exact (h.2.2 g hg).2.2.1 | exact (h.2.2 g hg).2.2.2.1 | exact (h.2.2 w w4).1) (vp_in_nI hi (by omega)) ?_
    rw [hcl]
    refine g_istore_n hF dX6_breakLine_6 7 rfl (lo' := [_, _, _, _, _]) (Nat.le_of_ble_eq_true rfl) rfl ?_
    refine g_aload_n hF dX6_breakLine_7 8 rfl rfl ?_
    refine g_aload_n hF dX6_breakLine_8 9 rfl rfl ?_
    refine g_get hF fl_X6_90 dX6_breakLine_9 12 rfl (by intro H h; first | exact h.1 | exact h.2.1 | exact (h.2.2 g hg).1 | exact (h.2.2 g hg).2.1 | exact (h.2.2 g hg).2.2.1 | exact (h.2.2 g hg).2.2.2.1 | exact (h.2.2 w w4).1) rfl ?_
    refine g_iload_n hF dX6_breakLine_12 13 rfl rfl ?_
    refine g_iald hF dX6_breakLine_13 14 rfl (by intro H h; first | exact h.1 | exact h.2.1 | exact (h.2.2 g hg).1 | exact (h.2.2 g hg).2.1 | exact (h.2.2 g hg).2.2.1 | exact (h.2.2 g hg).2.2.2.1 | exact (h.2.2 w w4).1) (vp_in_nI hi (by omega)) ?_
    rw [hcl]
    dsimp only
    rw [w2]
    refine g_callV hF cv_X6_38 (c_N_groupAt l E a (v1, v2, v3, gs) fss G w hG hG4 w1) dX6_breakLine_14 17 rfl (st := []) rfl rfl ⟨Nat.le_of_ble_eq_true rfl, Nat.le_of_ble_eq_true rfl⟩ ⟨Nat.le_of_ble_eq_true rfl, Nat.le_of_ble_eq_true rfl⟩ rfl (Nat.le_of_ble_eq_true rfl) 6 rfl (by intro H h; first | exact h.1 | exact h.2.1 | exact (h.2.2 g hg).1 | exact (h.2.2 g hg).2.1 | exact (h.2.2 g hg).2.2.1 | exact (h.2.2 g hg).2.2.2.1 | exact (h.2.2 w w4).1) (Pr' := _) (fun _ h => h) (fun q z => z.elim) (fun _ _ _ h _ => by exact h) (st1 := [_]) rfl (k1 := 0) (n1 := 0) rfl rfl ?_
    refine g_astore hF dX6_breakLine_17 19 rfl (lo' := [_, _, _, _, _]) (Nat.le_of_ble_eq_true rfl) rfl ?_
    refine g_aload hF dX6_breakLine_19 21 rfl rfl ?_
    refine g_ifnull hF dX6_breakLine_21 24 rfl ?_
    refine g_aload hF dX6_breakLine_24 26 rfl rfl ?_
    refine g_dup hF dX6_breakLine_26 27 rfl rfl ?_
    refine g_get hF fl_X6_50 dX6_breakLine_27 30 rfl (by intro H h; first | exact h.1 | exact h.2.1 | exact (h.2.2 g hg).1 | exact (h.2.2 g hg).2.1 | exact (h.2.2 g hg).2.2.1 | exact (h.2.2 g hg).2.2.2.1 | exact (h.2.2 w w4).1) rfl ?_
    refine g_iconst hF (1) dX6_breakLine_30 31 rfl rfl ?_
    refine g_iadd hF dX6_breakLine_31 32 rfl ?_
    refine g_put hF pl_X6_50 dX6_breakLine_32 35 rfl (by intro H h; first | exact h.1 | exact h.2.1 | exact (h.2.2 g hg).1 | exact (h.2.2 g hg).2.1 | exact (h.2.2 g hg).2.2.1 | exact (h.2.2 g hg).2.2.2.1 | exact (h.2.2 w w4).1) (Nat.le_of_ble_eq_true rfl) rfl rfl (hA _ ⟨by omega, by omega⟩) (Pr' := Np E a (v1, v2, v3, gs1) fss) (fun H H' h h1 h2 => by rw [e1]; exact Np.up w4 rfl h (Gp.wo (by omega) rfl (h.2.2 w w4) h1 h2) (out_but ⟨by omega, by omega⟩ h2)) ?_
    refine g_aload_n hF dX6_breakLine_35 36 rfl rfl ?_
    refine g_dup hF dX6_breakLine_36 37 rfl rfl ?_
    refine g_get hF fl_X6_26 dX6_breakLine_37 40 rfl (by intro H h; first | exact h.1 | exact h.2.1 | exact (h.2.2 g hg).1 | exact (h.2.2 g hg).2.1 | exact (h.2.2 g hg).2.2.1 | exact (h.2.2 g hg).2.2.2.1 | exact (h.2.2 w w4).1) rfl ?_
    refine g_iconst hF (1) dX6_breakLine_40 41 rfl rfl ?_
    refine g_iadd hF dX6_breakLine_41 42 rfl ?_
    refine g_put hF pl_X6_26 dX6_breakLine_42 45 rfl (by intro H h; first | exact h.1 | exact h.2.1 | exact (h.2.2 g hg).1 | exact (h.2.2 g hg).2.1 | exact (h.2.2 g hg).2.2.1 | exact (h.2.2 g hg).2.2.2.1 | exact (h.2.2 w w4).1) (Nat.le_of_ble_eq_true rfl) rfl rfl (hA _ ⟨by omega, by omega⟩) (Pr' := Np E a (v1, v2 + 1, v3, gs1) fss) (fun H H' h h1 h2 => by exact Np.wo v1 (v2 + 1) v3 h h1 h2) ?_
    refine g_aload_n hF dX6_breakLine_45 46 rfl rfl ?_
    refine g_iload_n hF dX6_breakLine_46 47 rfl rfl ?_
    refine g_iconst hF (2) dX6_breakLine_47 48 rfl rfl ?_
    refine g_aload_n hF dX6_breakLine_48 49 rfl rfl ?_
    refine g_get hF fl_X6_26 dX6_breakLine_49 52 rfl (by intro H h; first | exact h.1 | exact h.2.1 | exact (h.2.2 g hg).1 | exact (h.2.2 g hg).2.1 | exact (h.2.2 g hg).2.2.1 | exact (h.2.2 g hg).2.2.2.1 | exact (h.2.2 w w4).1) rfl ?_
    refine g_callV hF cv_X6_87 (c_G_letGo l E (a + 2 + 5 * g) (gs1 g) (fss g) i 2 (v2 + 1) hi) dX6_breakLine_52 55 rfl (st := []) rfl rfl ⟨Nat.le_of_ble_eq_true rfl, Nat.le_of_ble_eq_true rfl⟩ ⟨Nat.le_of_ble_eq_true rfl, Nat.le_of_ble_eq_true rfl⟩ rfl (Nat.le_of_ble_eq_true rfl) 3 rfl (by intro H h; first | exact h.1 | exact h.2.1 | exact (h.2.2 g hg).1 | exact (h.2.2 g hg).2.1 | exact (h.2.2 g hg).2.2.1 | exact (h.2.2 g hg).2.2.2.1 | exact (h.2.2 w w4).1) (Pr' := Np E a (v1, v2 + 1, v3, va_up gs1 g (upd (gLet (gs1 g) i 2) (13 + 4 * i) 0)) (va_up fss g (upd (fss g) i (v2 + 1)))) (fun H h => h.2.2 g hg) (fun q hq => hA q ⟨by have := hq.1; omega, by have := hq.2; omega⟩) (fun H H' h h1 h2 => by exact Np.grp hg h (Gp.ghost h1) h2) (st1 := []) rfl (k1 := 0) (n1 := 0) rfl rfl ?_
    refine g_iload_n hF dX6_breakLine_55 56 rfl rfl ?_
    exact g_iret hF dX6_breakLine_56 (Nat.le_of_ble_eq_true rfl) (Nat.le_of_ble_eq_true rfl) (fun H h => hR _ _ ⟨congrArg (fun z => some (Value.int z)) (rfl), h⟩)
end
section
/-! Nets with what the class keeps hidden; Book, Draws, History, Image -/
section CX
variable {l : Launch} {E : Ev} {y : MethodName} {cc : ByteArray} {nL : Nat} {rt : Option FieldType} {R : Room} {av : List Value} {Rt : Option Value → Heap → Prop} {A : Nat → Prop}
theorem Ct.ex {α : Sort _} {P : α → Heap → Prop} (h : ∀ z, Ct l E y cc nL rt R av (P z) Rt A) : Ct l E y cc nL rt R av (fun H => ∃ z, P z H) Rt A := by
  intro p e ha hc hk s m args below hf happ hP ht
  obtain ⟨h1, h2, z, h3⟩ := hP
  exact h z p e ha hc hk s m args below hf happ ⟨h1, h2, h3⟩ ht
theorem Ct.pure {p : Prop} {P : Heap → Prop} (h : p → Ct l E y cc nL rt R av P Rt A) : Ct l E y cc nL rt R av (fun H => p ∧ P H) Rt A := by
  intro p e ha hc hk s m args below hf happ hP ht
  obtain ⟨h1, h2, z, h3⟩ := hP
  exact h z p e ha hc hk s m args below hf happ ⟨h1, h2, h3⟩ ht
theorem Ct.pre {P P2 : Heap → Prop} (h : Ct l E y cc nL rt R av P Rt A) (to : ∀ H, P2 H → P H) : Ct l E y cc nL rt R av P2 Rt A := h.lift to (fun _ z => z) (fun _ _ _ _ z _ => z)
end CX
def fOK (v : NV) (fss : Nat → Nat → Int32) : Prop := ∀ g, g < 4 → fsOK (v.2.2.2 g) (fss g)
def Nq (E : Ev) (a : Nat) (v : NV) (H : Heap) : Prop := ∃ fss, fOK v fss ∧ Np E a v fss H
theorem Nq.kept {E : Ev} {a : Nat} {v : NV} {H H' : Heap} (h : Nq E a v H) (hq : ∀ q, rg a 22 q → H'[q]? = H[q]?) : Nq E a v H' := by
  obtain ⟨fss, h1, h2⟩ := h
  exact ⟨fss, h1, h2.kept hq⟩
theorem Nq.le {E : Ev} {a : Nat} {v : NV} {H : Heap} (h : Nq E a v H) : a + 22 ≤ H.size := by
  obtain ⟨fss, h1, h2⟩ := h
  exact np_le h2
theorem Nq.out {E : Ev} {a : Nat} {v : NV} {A : Nat → Prop} {H H' : Heap} (h : Nq E a v H) (ho : out A H H') (hA : ∀ q, rg a 22 q → ¬ A q) : Nq E a v H' :=
  h.kept (fun q hq => ho.2 q (Nat.lt_of_lt_of_le hq.2 h.le) (hA q hq))
theorem Nq.but {E : Ev} {a q : Nat} {v : NV} {H H' : Heap} (h : Nq E a v H) (ho : but q H H') (hA : ¬ rg a 22 q) : Nq E a v H' :=
  h.kept (fun z hz => ho.2 z (fun e => hA (e ▸ hz)))
theorem c_N_copyQ (l : Launch) (E : Ev) (a b : Nat) (v w : NV) (hd : a + 22 ≤ b ∨ b + 22 ≤ a) : Ct l E yX6_copyFrom cX6_copyFrom 3 none (rm 3) [.ref a, .ref b] (fun H => Nq E a v H ∧ Nq E b w H) (rV none (fun H => Nq E a w H ∧ Nq E b w H)) (rg a 22) := by
  refine Ct.pre (Ct.ex (fun fss => Ct.ex (fun oss => Ct.pure (p := fOK w oss) (fun hf => (c_N_copyFrom l E a b v w fss oss hd).lift (fun _ z => z) (fun _ z => z) (fun _ _ _ _ z _ => ⟨z.1, ⟨oss, hf, z.2.1⟩, ⟨oss, hf, z.2.2⟩⟩))))) ?_
  rintro H ⟨⟨fss, h1, h2⟩, ⟨oss, h3, h4⟩⟩
  exact ⟨fss, oss, h3, h2, h4⟩
/-! Book -/
def Bp (E : Ev) (a : Nat) (bg bl bs : Nat → Int32) (k : Nat) (H : Heap) : Prop := ob E 0 a [.ref (a + 1), .ref (a + 2), .ref (a + 3), .int (nI k)] H ∧ ai E (a + 1) 20 bg H ∧ ai E (a + 2) 20 bl H ∧ ai E (a + 3) 20 bs H
theorem Bp.kept {E : Ev} {a : Nat} {bg bl bs : Nat → Int32} {k : Nat} {H H' : Heap} (h : Bp E a bg bl bs k H) (hq : ∀ q, rg a 4 q → H'[q]? = H[q]?) : Bp E a bg bl bs k H' :=
  ⟨ob_kept h.1 (hq _ ⟨by omega, by omega⟩), ai_kept h.2.1 (hq _ ⟨by omega, by omega⟩), ai_kept h.2.2.1 (hq _ ⟨by omega, by omega⟩), ai_kept h.2.2.2 (hq _ ⟨by omega, by omega⟩)⟩
theorem Bp.le {E : Ev} {a : Nat} {bg bl bs : Nat → Int32} {k : Nat} {H : Heap} (h : Bp E a bg bl bs k H) : a + 4 ≤ H.size := va_at.lt h.2.2.2
set_option maxRecDepth 100000 in
set_option maxHeartbeats 8000000 in
theorem c_B_enter (l : Launch) (E : Ev) (a : Nat) (bg bl bs : Nat → Int32) (k : Nat) (g i s : Int32) (hk : k < 20) : Ct l E yX0_enter cX0_enter 4 none (rm 1) [.ref a, .int g, .int i, .int s] (Bp E a bg bl bs k) (rV none (Bp E a (upd bg k g) (upd bl k i) (upd bs k s) (k + 1))) (rg a 4) := by
  refine ct_start (by decide) [some (.ref a), some (.int g), some (.int i), some (.int s)] rfl (Nat.le_of_ble_eq_true rfl) ?_
  intro x hF hN hA hR
  have hin : vp_in (nI k) 20 := vp_in_nI hk (by omega)
  have hcl : (nI k).toNatClampNeg = k := nI_clamp (by omega)
  refine g_aload_n hF dX0_enter_0 1 rfl rfl ?_
  refine g_get hF fl_X0_21 dX0_enter_1 4 rfl (by intro H h; first | exact h.1 | exact h.2.1 | exact h.2.2.1 | exact h.2.2.2) rfl ?_
  refine g_bipush hF (20) dX0_enter_4 6 rfl rfl ?_
  refine g_icmp_ge hF dX0_enter_6 9 rfl 49 (by decide) (fun c => absurd c (fun z => absurd (i_le (a := 20) z (by omega) (by omega)) (by omega))) (fun _ => ?_)
  refine g_aload_n hF dX0_enter_9 10 rfl rfl ?_
  refine g_get hF fl_X0_9 dX0_enter_10 13 rfl (by intro H h; first | exact h.1 | exact h.2.1 | exact h.2.2.1 | exact h.2.2.2) rfl ?_
  refine g_aload_n hF dX0_enter_13 14 rfl rfl ?_
  refine g_get hF fl_X0_21 dX0_enter_14 17 rfl (by intro H h; first | exact h.1 | exact h.2.1 | exact h.2.2.1 | exact h.2.2.2) rfl ?_
  refine g_iload_n hF dX0_enter_17 18 rfl rfl ?_
  refine g_iast hF dX0_enter_18 19 rfl (by intro H h; first | exact h.1 | exact h.2.1 | exact h.2.2.1 | exact h.2.2.2) (hin) (hA _ ⟨by omega, by omega⟩) (Pr' := Bp E a (upd bg k g) bl bs k) (fun H H' h h1 h2 => by exact ⟨ob_kept h.1 (h2.2 _ (by omega)), hcl ▸ h1, ai_kept h.2.2.1 (h2.2 _ (by omega)), ai_kept h.2.2.2 (h2.2 _ (by omega))⟩) ?_
  refine g_aload_n hF dX0_enter_19 20 rfl rfl ?_
  refine g_get hF fl_X0_15 dX0_enter_20 23 rfl (by intro H h; first | exact h.1 | exact h.2.1 | exact h.2.2.1 | exact h.2.2.2) rfl ?_
  refine g_aload_n hF dX0_enter_23 24 rfl rfl ?_
  refine g_get hF fl_X0_21 dX0_enter_24 27 rfl (by intro H h; first | exact h.1 | exact h.2.1 | exact h.2.2.1 | exact h.2.2.2) rfl ?_
  refine g_iload_n hF dX0_enter_27 28 rfl rfl ?_
  refine g_iast hF dX0_enter_28 29 rfl (by intro H h; first | exact h.1 | exact h.2.1 | exact h.2.2.1 | exact h.2.2.2) (hin) (hA _ ⟨by omega, by omega⟩) (Pr' := Bp E a (upd bg k g) (upd bl k i) bs k) (fun H H' h h1 h2 => by exact ⟨ob_kept h.1 (h2.2 _ (by omega)), ai_kept h.2.1 (h2.2 _ (by omega)), hcl ▸ h1, ai_kept h.2.2.2 (h2.2 _ (by omega))⟩) ?_
  refine g_aload_n hF dX0_enter_29 30 rfl rfl ?_
  refine g_get hF fl_X0_18 dX0_enter_30 33 rfl (by intro H h; first | exact h.1 | exact h.2.1 | exact h.2.2.1 | exact h.2.2.2) rfl ?_
  refine g_aload_n hF dX0_enter_33 34 rfl rfl ?_
  refine g_get hF fl_X0_21 dX0_enter_34 37 rfl (by intro H h; first | exact h.1 | exact h.2.1 | exact h.2.2.1 | exact h.2.2.2) rfl ?_
  refine g_iload_n hF dX0_enter_37 38 rfl rfl ?_
  refine g_iast hF dX0_enter_38 39 rfl (by intro H h; first | exact h.1 | exact h.2.1 | exact h.2.2.1 | exact h.2.2.2) (hin) (hA _ ⟨by omega, by omega⟩) (Pr' := Bp E a (upd bg k g) (upd bl k i) (upd bs k s) k) (fun H H' h h1 h2 => by exact ⟨ob_kept h.1 (h2.2 _ (by omega)), ai_kept h.2.1 (h2.2 _ (by omega)), ai_kept h.2.2.1 (h2.2 _ (by omega)), hcl ▸ h1⟩) ?_
  refine g_aload_n hF dX0_enter_39 40 rfl rfl ?_
  refine g_dup hF dX0_enter_40 41 rfl rfl ?_
  refine g_get hF fl_X0_21 dX0_enter_41 44 rfl (by intro H h; first | exact h.1 | exact h.2.1 | exact h.2.2.1 | exact h.2.2.2) rfl ?_
  refine g_iconst hF (1) dX0_enter_44 45 rfl rfl ?_
  refine g_iadd hF dX0_enter_45 46 rfl ?_
  rw [nI_1]
  refine g_put hF pl_X0_21 dX0_enter_46 49 rfl (by intro H h; first | exact h.1 | exact h.2.1 | exact h.2.2.1 | exact h.2.2.2) (Nat.le_of_ble_eq_true rfl) rfl rfl (hA _ ⟨by omega, by omega⟩) (Pr' := Bp E a (upd bg k g) (upd bl k i) (upd bs k s) (k + 1)) (fun H H' h h1 h2 => by exact ⟨h1, ai_kept h.2.1 (h2.2 _ (by omega)), ai_kept h.2.2.1 (h2.2 _ (by omega)), ai_kept h.2.2.2 (h2.2 _ (by omega))⟩) ?_
  exact g_vret hF dX0_enter_49 (Nat.le_of_ble_eq_true rfl) (Nat.le_of_ble_eq_true rfl) (fun H h => hR _ _ ⟨rfl, h⟩)
set_option maxRecDepth 100000 in
set_option maxHeartbeats 8000000 in
theorem c_B_clear (l : Launch) (E : Ev) (a : Nat) (bg bl bs : Nat → Int32) (k : Nat) : Ct l E yX0_clear cX0_clear 1 none (rm 1) [.ref a] (Bp E a bg bl bs k) (rV none (Bp E a bg bl bs 0)) (rg a 4) := by
  refine ct_start (by decide) [some (.ref a)] rfl (Nat.le_of_ble_eq_true rfl) ?_
  intro x hF hN hA hR
  refine g_aload_n hF dX0_clear_0 1 rfl rfl ?_
  refine g_iconst hF (0) dX0_clear_1 2 rfl rfl ?_
  refine g_put hF pl_X0_21 dX0_clear_2 5 rfl (by intro H h; first | exact h.1 | exact h.2.1 | exact h.2.2.1 | exact h.2.2.2) (Nat.le_of_ble_eq_true rfl) rfl rfl (hA _ ⟨by omega, by omega⟩) (Pr' := Bp E a bg bl bs 0) (fun H H' h h1 h2 => by exact ⟨h1, ai_kept h.2.1 (h2.2 _ (by omega)), ai_kept h.2.2.1 (h2.2 _ (by omega)), ai_kept h.2.2.2 (h2.2 _ (by omega))⟩) ?_
  exact g_vret hF dX0_clear_5 (Nat.le_of_ble_eq_true rfl) (Nat.le_of_ble_eq_true rfl) (fun H h => hR _ _ ⟨rfl, h⟩)
/-- an entry is right -/
def isR (v : NV) (g i s : Int32) : Prop := ∃ G h N t, v.1 = nI G ∧ G ≤ 4 ∧ h < G ∧ g = nI h ∧ v.2.2.2 h 0 = nI N ∧ N ≤ 6 ∧ t < N ∧ i = nI t ∧ v.2.2.2 h (10 + 4 * t) = s
/-- the first entry that is wrong, from j on, with d left -/
noncomputable def fWr (v : NV) (bg bl bs : Nat → Int32) : Nat → Nat → Int32
  | 0, _ => -1
  | d + 1, j => (fun _ : Decidable (isR v (bg j) (bl j) (bs j)) => if isR v (bg j) (bl j) (bs j) then fWr v bg bl bs d (j + 1) else nI j) (Classical.propDecidable _)
theorem fWr_t {v : NV} {bg bl bs : Nat → Int32} {d j : Nat} (h : isR v (bg j) (bl j) (bs j)) : fWr v bg bl bs (d + 1) j = fWr v bg bl bs d (j + 1) := @if_pos _ (Classical.propDecidable _) h _ _ _
theorem fWr_f {v : NV} {bg bl bs : Nat → Int32} {d j : Nat} (h : ¬ isR v (bg j) (bl j) (bs j)) : fWr v bg bl bs (d + 1) j = nI j := @if_neg _ (Classical.propDecidable _) h _ _ _
/-- what an entry may be -/
theorem isR_cases {v : NV} {G : Nat} (hG : v.1 = nI G) (hG4 : G ≤ 4) (hn : ∀ g, g < 4 → ∃ N, N ≤ 6 ∧ v.2.2.2 g 0 = nI N) (g i s : Int32) : (¬ isR v g i s ∧ ((g < 0 ∨ v.1 ≤ g) ∨ ∃ h, h < G ∧ g = nI h ∧ (i < 0 ∨ v.2.2.2 h 0 ≤ i))) ∨ ∃ h N t, h < G ∧ g = nI h ∧ v.2.2.2 h 0 = nI N ∧ N ≤ 6 ∧ t < N ∧ i = nI t ∧ (isR v g i s ↔ v.2.2.2 h (10 + 4 * t) = s) := by
  have nG : ∀ {G' h : Nat}, v.1 = nI G' → G' ≤ 4 → h < G' → h < G := fun h1 h2 h3 => by
    have := (nI_eq (by omega) (by omega)).mp (h1.symm.trans hG)
    omega
  rcases pk_ix g (n := G) (by omega) with h | h | ⟨h, h1, rfl⟩
  · refine Or.inl ⟨?_, Or.inl (Or.inl h)⟩
    rintro ⟨G', h', N, t, a1, a2, a3, rfl, -⟩
    exact nI_pos (by omega) h
  · refine Or.inl ⟨?_, Or.inl (Or.inr (hG ▸ h))⟩
    rintro ⟨G', h', N, t, a1, a2, a3, rfl, -⟩
    have := nG a1 a2 a3
    exact absurd (i_le h (by omega) (by omega)) (by omega)
  · obtain ⟨N, n6, n0⟩ := hn h (by omega)
    have nN : ∀ {G' h' N' t : Nat}, v.1 = nI G' → G' ≤ 4 → h' < G' → nI h = nI h' → v.2.2.2 h' 0 = nI N' → N' ≤ 6 → h' = h ∧ N' = N := fun {G' h' N' t} b1 b2 b3 b4 b5 b6 => by
      have := nG b1 b2 b3
      have e := (nI_eq (by omega) (by omega)).mp b4
      subst e
      exact ⟨rfl, (nI_eq (by omega) (by omega)).mp (b5.symm.trans n0)⟩
    rcases pk_ix i (n := N) (by omega) with q | q | ⟨t, t1, rfl⟩
    · refine Or.inl ⟨?_, Or.inr ⟨h, h1, rfl, Or.inl q⟩⟩
      rintro ⟨G', h', N', t, a1, a2, a3, a4, a5, a6, a7, rfl, -⟩
      exact nI_pos (by omega) q
    · refine Or.inl ⟨?_, Or.inr ⟨h, h1, rfl, Or.inr (n0 ▸ q)⟩⟩
      rintro ⟨G', h', N', t, a1, a2, a3, a4, a5, a6, a7, rfl, -⟩
      obtain ⟨-, e⟩ := nN (t := 0) a1 a2 a3 a4 a5 a6
      exact absurd (i_le q (by omega) (by omega)) (by omega)
    · refine Or.inr ⟨h, N, t, h1, rfl, n0, n6, t1, rfl, ⟨?_, fun e => ⟨G, h, N, t, hG, hG4, h1, rfl, n0, n6, t1, rfl, e⟩⟩⟩
      rintro ⟨G', h', N', t', a1, a2, a3, a4, a5, a6, a7, a8, a9⟩
      obtain ⟨e1, e2⟩ := nN (t := 0) a1 a2 a3 a4 a5 a6
      subst e1
      have := (nI_eq (by omega) (by omega)).mp a8
      subst this
      exact a9

set_option maxRecDepth 100000 in
set_option maxHeartbeats 8000000 in
theorem c_B_isWrong (l : Launch) (E : Ev) (a c : Nat) (bg bl bs : Nat → Int32) (k j : Nat) (v : NV) (fss : Nat → Nat → Int32) (G : Nat) (hG : v.1 = nI G) (hG4 : G ≤ 4) (hn : ∀ g, g < 4 → ∃ N, N ≤ 6 ∧ v.2.2.2 g 0 = nI N) (hj : j < 20) (r : Int32) (hr : (r = 1 ∧ ¬ isR v (bg j) (bl j) (bs j)) ∨ (r = 0 ∧ isR v (bg j) (bl j) (bs j))) : Ct l E yX0_isWrong cX0_isWrong 4 (some .boolean) (rm 3) [.ref a, .int (nI j), .ref c] (fun H => Bp E a bg bl bs k H ∧ Np E c v fss H) (rV (some (.int r)) (fun H => Bp E a bg bl bs k H ∧ Np E c v fss H)) (fun _ => False) := by
  refine ct_start (by decide) [some (.ref a), some (.int (nI j)), some (.ref c), none] rfl (Nat.le_of_ble_eq_true rfl) ?_
  intro x hF hN hA hR
  have hin : vp_in (nI j) 20 := vp_in_nI hj (by omega)
  have hcl : (nI j).toNatClampNeg = j := nI_clamp (by omega)
  rcases isR_cases hG hG4 hn (bg j) (bl j) (bs j) with ⟨h1, h2⟩ | ⟨h, N, t, h1, h2, n0, n6, t1, h3, h4⟩
  · have hr1 : r = 1 := hr.elim (fun z => z.1) (fun z => absurd z.2 h1)
    subst hr1
    refine g_aload_n hF dX0_isWrong_0 1 rfl rfl ?_
    refine g_aload_n hF dX0_isWrong_1 2 rfl rfl ?_
    refine g_get hF fl_X0_9 dX0_isWrong_2 5 rfl (by intro H h; first | exact h.1.1 | exact h.1.2.1 | exact h.1.2.2.1 | exact h.1.2.2.2 | exact h.2.1) rfl ?_
    refine g_iload_n hF dX0_isWrong_5 6 rfl rfl ?_
    refine g_iald hF dX0_isWrong_6 7 rfl (by intro H h; first | exact h.1.1 | exact h.1.2.1 | exact h.1.2.2.1 | exact h.1.2.2.2 | exact h.2.1) (hin) ?_
    rw [hcl]
    refine g_aload_n hF dX0_isWrong_7 8 rfl rfl ?_
    refine g_get hF fl_X0_15 dX0_isWrong_8 11 rfl (by intro H h; first | exact h.1.1 | exact h.1.2.1 | exact h.1.2.2.1 | exact h.1.2.2.2 | exact h.2.1) rfl ?_
    refine g_iload_n hF dX0_isWrong_11 12 rfl rfl ?_
    refine g_iald hF dX0_isWrong_12 13 rfl (by intro H h; first | exact h.1.1 | exact h.1.2.1 | exact h.1.2.2.1 | exact h.1.2.2.2 | exact h.2.1) (hin) ?_
    rw [hcl]
    refine g_callV hF cv_X0_29 (c_N_gwlN l E c v fss G (bg j) (bl j) hG hG4 h2) dX0_isWrong_13 16 rfl (st := []) rfl rfl ⟨Nat.le_of_ble_eq_true rfl, Nat.le_of_ble_eq_true rfl⟩ ⟨Nat.le_of_ble_eq_true rfl, Nat.le_of_ble_eq_true rfl⟩ rfl (Nat.le_of_ble_eq_true rfl) 6 rfl (by intro H h; first | exact h.1.1 | exact h.1.2.1 | exact h.1.2.2.1 | exact h.1.2.2.2 | exact h.2.1) (Pr' := fun H => Bp E a bg bl bs k H ∧ Np E c v fss H) (fun H h => h.2) (fun q z => z.elim) (fun H H' h h1 h2 => by exact ⟨h.1.kept (fun q hq => h2.2 q (Nat.lt_of_lt_of_le hq.2 h.1.le) (fun z => z)), h1⟩) (st1 := [_]) rfl (k1 := 0) (n1 := 0) rfl rfl ?_
    refine g_astore_nN hF dX0_isWrong_16 17 rfl (lo' := [_, _, _, _]) (Nat.le_of_ble_eq_true rfl) rfl ?_
    refine g_aload_nN hF dX0_isWrong_17 18 rfl rfl ?_
    refine g_ifnullN hF dX0_isWrong_18 41 (by decide) ?_
    refine g_iconst hF (1) dX0_isWrong_41 42 rfl rfl ?_
    refine g_goto hF dX0_isWrong_42 46 (by decide) ?_
    exact g_zret hF (rfl) dX0_isWrong_46 (Nat.le_of_ble_eq_true rfl) (Nat.le_of_ble_eq_true rfl) (fun H h => hR _ _ ⟨congrArg (fun z => some (Value.int z)) (rfl), h⟩)
  · have h4' : h < 4 := by omega
    have ht6 : vp_in (nI t) 6 := vp_in_nI (by omega) (by omega)
    have hct : (nI t).toNatClampNeg = t := nI_clamp (by omega)
    refine g_aload_n hF dX0_isWrong_0 1 rfl rfl ?_
    refine g_aload_n hF dX0_isWrong_1 2 rfl rfl ?_
    refine g_get hF fl_X0_9 dX0_isWrong_2 5 rfl (by intro H z; first | exact z.1.1 | exact z.1.2.1 | exact z.1.2.2.1 | exact z.1.2.2.2 | exact z.2.1 | exact (z.2.2.2 h h4').1 | exact (z.2.2.2 h h4').2.1) rfl ?_
    refine g_iload_n hF dX0_isWrong_5 6 rfl rfl ?_
    refine g_iald hF dX0_isWrong_6 7 rfl (by intro H z; first | exact z.1.1 | exact z.1.2.1 | exact z.1.2.2.1 | exact z.1.2.2.2 | exact z.2.1 | exact (z.2.2.2 h h4').1 | exact (z.2.2.2 h h4').2.1) (hin) ?_
    rw [hcl, h2]
    refine g_aload_n hF dX0_isWrong_7 8 rfl rfl ?_
    refine g_get hF fl_X0_15 dX0_isWrong_8 11 rfl (by intro H z; first | exact z.1.1 | exact z.1.2.1 | exact z.1.2.2.1 | exact z.1.2.2.2 | exact z.2.1 | exact (z.2.2.2 h h4').1 | exact (z.2.2.2 h h4').2.1) rfl ?_
    refine g_iload_n hF dX0_isWrong_11 12 rfl rfl ?_
    refine g_iald hF dX0_isWrong_12 13 rfl (by intro H z; first | exact z.1.1 | exact z.1.2.1 | exact z.1.2.2.1 | exact z.1.2.2.2 | exact z.2.1 | exact (z.2.2.2 h h4').1 | exact (z.2.2.2 h h4').2.1) (hin) ?_
    rw [hcl, h3]
    refine g_callV hF cv_X0_29 (c_N_gwl l E c v fss G h N t hG hG4 h1 n0 n6 t1) dX0_isWrong_13 16 rfl (st := []) rfl rfl ⟨Nat.le_of_ble_eq_true rfl, Nat.le_of_ble_eq_true rfl⟩ ⟨Nat.le_of_ble_eq_true rfl, Nat.le_of_ble_eq_true rfl⟩ rfl (Nat.le_of_ble_eq_true rfl) 6 rfl (by intro H z; first | exact z.1.1 | exact z.1.2.1 | exact z.1.2.2.1 | exact z.1.2.2.2 | exact z.2.1 | exact (z.2.2.2 h h4').1 | exact (z.2.2.2 h h4').2.1) (Pr' := fun H => Bp E a bg bl bs k H ∧ Np E c v fss H) (fun H h => h.2) (fun q z => z.elim) (fun H H' h h1 h2 => by exact ⟨h.1.kept (fun q hq => h2.2 q (Nat.lt_of_lt_of_le hq.2 h.1.le) (fun z => z)), h1⟩) (st1 := [_]) rfl (k1 := 0) (n1 := 0) rfl rfl ?_
    refine g_astore_n hF dX0_isWrong_16 17 rfl (lo' := [_, _, _, _]) (Nat.le_of_ble_eq_true rfl) rfl ?_
    refine g_aload_n hF dX0_isWrong_17 18 rfl rfl ?_
    refine g_ifnull hF dX0_isWrong_18 21 rfl ?_
    refine g_aload_n hF dX0_isWrong_21 22 rfl rfl ?_
    refine g_get hF fl_X0_35 dX0_isWrong_22 25 rfl (by intro H z; first | exact z.1.1 | exact z.1.2.1 | exact z.1.2.2.1 | exact z.1.2.2.2 | exact z.2.1 | exact (z.2.2.2 h h4').1 | exact (z.2.2.2 h h4').2.1) rfl ?_
    refine g_aload_n hF dX0_isWrong_25 26 rfl rfl ?_
    refine g_get hF fl_X0_15 dX0_isWrong_26 29 rfl (by intro H z; first | exact z.1.1 | exact z.1.2.1 | exact z.1.2.2.1 | exact z.1.2.2.2 | exact z.2.1 | exact (z.2.2.2 h h4').1 | exact (z.2.2.2 h h4').2.1) rfl ?_
    refine g_iload_n hF dX0_isWrong_29 30 rfl rfl ?_
    refine g_iald hF dX0_isWrong_30 31 rfl (by intro H z; first | exact z.1.1 | exact z.1.2.1 | exact z.1.2.2.1 | exact z.1.2.2.2 | exact z.2.1 | exact (z.2.2.2 h h4').1 | exact (z.2.2.2 h h4').2.1) (hin) ?_
    rw [hcl, h3]
    refine g_iald hF dX0_isWrong_31 32 rfl (by intro H z; first | exact z.1.1 | exact z.1.2.1 | exact z.1.2.2.1 | exact z.1.2.2.2 | exact z.2.1 | exact (z.2.2.2 h h4').1 | exact (z.2.2.2 h h4').2.1) (ht6) ?_
    rw [hct]
    refine g_aload_n hF dX0_isWrong_32 33 rfl rfl ?_
    refine g_get hF fl_X0_18 dX0_isWrong_33 36 rfl (by intro H z; first | exact z.1.1 | exact z.1.2.1 | exact z.1.2.2.1 | exact z.1.2.2.2 | exact z.2.1 | exact (z.2.2.2 h h4').1 | exact (z.2.2.2 h h4').2.1) rfl ?_
    refine g_iload_n hF dX0_isWrong_36 37 rfl rfl ?_
    refine g_iald hF dX0_isWrong_37 38 rfl (by intro H z; first | exact z.1.1 | exact z.1.2.1 | exact z.1.2.2.1 | exact z.1.2.2.2 | exact z.2.1 | exact (z.2.2.2 h h4').1 | exact (z.2.2.2 h h4').2.1) (hin) ?_
    rw [hcl]
    refine g_icmp_eq hF dX0_isWrong_38 41 rfl 45 (by decide) (fun c38 => ?_) (fun c38 => ?_)
    · refine g_iconst hF (0) dX0_isWrong_45 46 rfl rfl ?_
      exact g_zret hF (rfl) dX0_isWrong_46 (Nat.le_of_ble_eq_true rfl) (Nat.le_of_ble_eq_true rfl) (fun H h => hR _ _ ⟨congrArg (fun z => some (Value.int z)) ((hr.elim (fun z => absurd (h4.mpr c38) z.2) (fun z => z.1)).symm), h⟩)
    · refine g_iconst hF (1) dX0_isWrong_41 42 rfl rfl ?_
      refine g_goto hF dX0_isWrong_42 46 (by decide) ?_
      exact g_zret hF (rfl) dX0_isWrong_46 (Nat.le_of_ble_eq_true rfl) (Nat.le_of_ble_eq_true rfl) (fun H h => hR _ _ ⟨congrArg (fun z => some (Value.int z)) ((hr.elim (fun z => z.1) (fun z => absurd (h4.mp z.2) c38)).symm), h⟩)
set_option maxRecDepth 100000 in
set_option maxHeartbeats 8000000 in
theorem c_B_firstWrong (l : Launch) (E : Ev) (a c : Nat) (bg bl bs : Nat → Int32) (k : Nat) (v : NV) (fss : Nat → Nat → Int32) (G : Nat) (hG : v.1 = nI G) (hG4 : G ≤ 4) (hn : ∀ g, g < 4 → ∃ N, N ≤ 6 ∧ v.2.2.2 g 0 = nI N) (hk : k ≤ 20) : Ct l E yX0_firstWrong cX0_firstWrong 3 (some .int) (rm 4) [.ref a, .ref c] (fun H => Bp E a bg bl bs k H ∧ Np E c v fss H) (rV (some (.int (fWr v bg bl bs k 0))) (fun H => Bp E a bg bl bs k H ∧ Np E c v fss H)) (fun _ => False) := by
  refine ct_start (by decide) [some (.ref a), some (.ref c), none] rfl (Nat.le_of_ble_eq_true rfl) ?_
  intro x hF hN hA hR
  have loop : ∀ (n j : Nat) (i : Int32), k - j < n → j ≤ k → i = nI j → fWr v bg bl bs k 0 = fWr v bg bl bs (k - j) j → go l (rm 4) E x 0 0 (fun H => Bp E a bg bl bs k H ∧ Np E c v fss H) [some (.ref a), some (.ref c), some (.int i)] 2 [] := by
    intro n
    induction n with
    | zero => intro j i h; omega
    | succ n ih =>
      intro j i hn0 hj hi hv
      subst hi
      by_cases hw : isR v (bg j) (bl j) (bs j)
      · refine g_iload_n hF dX0_firstWrong_2 3 rfl rfl ?_
        refine g_aload_n hF dX0_firstWrong_3 4 rfl rfl ?_
        refine g_get hF fl_X0_21 dX0_firstWrong_4 7 rfl (by intro H h; first | exact h.1.1 | exact h.1.2.1) rfl ?_
        refine g_icmp_ge hF dX0_firstWrong_7 10 rfl 27 (by decide) (fun c7 => ?_) (fun c7 => ?_)
        · refine g_iconst hF (-1) dX0_firstWrong_27 28 rfl rfl ?_
          exact g_iret hF dX0_firstWrong_28 (Nat.le_of_ble_eq_true rfl) (Nat.le_of_ble_eq_true rfl) (fun H h => hR _ _ ⟨congrArg (fun z => some (Value.int z)) (by have := i_le c7 (by omega) (by omega); rw [hv, show k - j = 0 by omega]; rfl), h⟩)
        · have hlt : j < k := i_nle c7 (by omega) (by omega)
          refine g_aload_n hF dX0_firstWrong_10 11 rfl rfl ?_
          refine g_iload_n hF dX0_firstWrong_11 12 rfl rfl ?_
          refine g_aload_n hF dX0_firstWrong_12 13 rfl rfl ?_
          refine g_callV hF cv_X0_25 (c_B_isWrong l E a c bg bl bs k j v fss G hG hG4 hn (by omega) 0 (Or.inr ⟨rfl, hw⟩)) dX0_firstWrong_13 16 rfl (st := []) rfl rfl ⟨Nat.le_of_ble_eq_true rfl, Nat.le_of_ble_eq_true rfl⟩ ⟨Nat.le_of_ble_eq_true rfl, Nat.le_of_ble_eq_true rfl⟩ rfl (Nat.le_of_ble_eq_true rfl) 0 rfl (by intro H h; first | exact h.1.1 | exact h.1.2.1) (Pr' := _) (fun _ h => h) (hA) (fun _ _ _ h _ => by exact h) (st1 := [_]) rfl (k1 := 0) (n1 := 0) rfl rfl ?_
          refine g_if_eq hF dX0_firstWrong_16 19 rfl 21 (by decide) (fun _ => ?_) (fun c => absurd (rfl) c)
          refine g_iinc hF dX0_firstWrong_21 24 rfl (1) rfl (lo' := [_, _, _]) rfl rfl ?_
          refine g_goto hF dX0_firstWrong_24 2 (by decide) ?_
          exact ih (j + 1) _ (by omega) (by omega) (nI_succ j).symm (by rw [hv, show k - j = (k - (j + 1)) + 1 by omega]; exact fWr_t hw)
      · refine g_iload_n hF dX0_firstWrong_2 3 rfl rfl ?_
        refine g_aload_n hF dX0_firstWrong_3 4 rfl rfl ?_
        refine g_get hF fl_X0_21 dX0_firstWrong_4 7 rfl (by intro H h; first | exact h.1.1 | exact h.1.2.1) rfl ?_
        refine g_icmp_ge hF dX0_firstWrong_7 10 rfl 27 (by decide) (fun c7 => ?_) (fun c7 => ?_)
        · refine g_iconst hF (-1) dX0_firstWrong_27 28 rfl rfl ?_
          exact g_iret hF dX0_firstWrong_28 (Nat.le_of_ble_eq_true rfl) (Nat.le_of_ble_eq_true rfl) (fun H h => hR _ _ ⟨congrArg (fun z => some (Value.int z)) (by have := i_le c7 (by omega) (by omega); rw [hv, show k - j = 0 by omega]; rfl), h⟩)
        · have hlt : j < k := i_nle c7 (by omega) (by omega)
          refine g_aload_n hF dX0_firstWrong_10 11 rfl rfl ?_
          refine g_iload_n hF dX0_firstWrong_11 12 rfl rfl ?_
          refine g_aload_n hF dX0_firstWrong_12 13 rfl rfl ?_
          refine g_callV hF cv_X0_25 (c_B_isWrong l E a c bg bl bs k j v fss G hG hG4 hn (by omega) 1 (Or.inl ⟨rfl, hw⟩)) dX0_firstWrong_13 16 rfl (st := []) rfl rfl ⟨Nat.le_of_ble_eq_true rfl, Nat.le_of_ble_eq_true rfl⟩ ⟨Nat.le_of_ble_eq_true rfl, Nat.le_of_ble_eq_true rfl⟩ rfl (Nat.le_of_ble_eq_true rfl) 0 rfl (by intro H h; first | exact h.1.1 | exact h.1.2.1) (Pr' := _) (fun _ h => h) (hA) (fun _ _ _ h _ => by exact h) (st1 := [_]) rfl (k1 := 0) (n1 := 0) rfl rfl ?_
          refine g_if_eq hF dX0_firstWrong_16 19 rfl 21 (by decide) (fun c => absurd c ((by decide))) (fun _ => ?_)
          refine g_iload_n hF dX0_firstWrong_19 20 rfl rfl ?_
          exact g_iret hF dX0_firstWrong_20 (Nat.le_of_ble_eq_true rfl) (Nat.le_of_ble_eq_true rfl) (fun H h => hR _ _ ⟨congrArg (fun z => some (Value.int z)) (by rw [hv, show k - j = (k - (j + 1)) + 1 by omega]; exact (fWr_f hw).symm), h⟩)
  refine g_iconst hF (0) dX0_firstWrong_0 1 rfl rfl ?_
  refine g_istore_n hF dX0_firstWrong_1 2 rfl (lo' := [_, _, _]) (Nat.le_of_ble_eq_true rfl) rfl ?_
  exact loop (k + 1) 0 0 (by omega) (by omega) nI_0.symm rfl
end
section
/-! What stays true of a net's numbers -/
theorem okG.of {G T T' g : Nat} {gv gv' : Nat → Int32} (h : okG G T g gv) (h0 : ∀ w, w < 5 → gv' w = gv w) (h5 : ∃ s, s ≤ 6 ∧ gv' 5 + 1 = nI s) (hl : ∀ j, j < 6 → okL G T' (gv' (10 + 4 * j)) (gv' (12 + 4 * j)) (gv' (13 + 4 * j))) : okG G T' g gv' := by
  obtain ⟨a1, a2, a3, a4, -, -⟩ := h
  refine ⟨?_, ?_, ?_, ?_, h5, hl⟩
  · rw [h0 0 (by omega), h0 2 (by omega)]; exact a1
  · rw [h0 1 (by omega)]; exact a2
  · rw [h0 3 (by omega)]; exact a3
  · rw [h0 4 (by omega)]; exact a4
theorem okG.cnt {G T g w : Nat} {z : Int32} {gv : Nat → Int32} (h : okG G T g gv) (h1 : 6 ≤ w) (h2 : w < 10) : okG G T g (upd gv w z) :=
  okG.of h (fun j hj => pk_un (by omega)) (by rw [pk_un (by omega)]; exact h.2.2.2.2.1) (fun j hj => by rw [pk_un (by omega), pk_un (by omega), pk_un (by omega)]; exact h.2.2.2.2.2 j hj)
theorem okG.hold {G T g t : Nat} {gv : Nat → Int32} {c : Int32} {w : Nat} (h : okG G T g gv) (ht : t < 6) (hw : w < G) : okG G T g (upd (gHold gv t c (nI w)) (13 + 4 * t) 0) := by
  unfold gHold
  refine okG.of h (fun j hj => by rw [pk_un (by omega), pk_un (by omega), pk_un (by omega), pk_un (by omega), pk_un (by omega)]) ⟨t + 1, by omega, by rw [pk_un (by omega), pk_us, nI_1]⟩ (fun j hj => ?_)
  by_cases e : j = t
  · subst e
    rw [pk_un (by omega), pk_un (by omega), pk_un (by omega), pk_un (by omega), pk_us, pk_un (by omega), pk_un (by omega), pk_us]
    exact Or.inr (Or.inl ⟨rfl, w, hw, rfl⟩)
  · rw [pk_un (by omega), pk_un (by omega), pk_un (by omega), pk_un (by omega), pk_un (by omega), pk_un (by omega), pk_un (by omega), pk_un (by omega), pk_un (by omega), pk_un (by omega), pk_un (by omega), pk_un (by omega), pk_un (by omega), pk_un (by omega), pk_un (by omega)]
    exact h.2.2.2.2.2 j hj
theorem okG.lett {G T T' g i : Nat} {gv : Nat → Int32} {b z : Int32} (h : okG G T g gv) (hT : T ≤ T') (hi : i < 6) (hb : okL G T' b (-1) z) : okG G T' g (upd (gLet gv i b) (13 + 4 * i) z) := by
  unfold gLet
  refine okG.of h (fun j hj => by rw [pk_un (by omega), pk_un (by omega), pk_un (by omega), pk_un (by omega)]) (by rw [pk_un (by omega), pk_un (by omega), pk_un (by omega), pk_un (by omega)]; exact h.2.2.2.2.1) (fun j hj => ?_)
  by_cases e : j = i
  · subst e
    rw [pk_us, pk_un (by omega), pk_un (by omega), pk_un (by omega), pk_us, pk_un (by omega), pk_us]
    exact hb
  · rw [pk_un (by omega), pk_un (by omega), pk_un (by omega), pk_un (by omega), pk_un (by omega), pk_un (by omega), pk_un (by omega), pk_un (by omega), pk_un (by omega), pk_un (by omega), pk_un (by omega), pk_un (by omega)]
    exact (h.2.2.2.2.2 j hj).mono hT
theorem up_all {α : Type} {P : Nat → α → Prop} {gs : Nat → α} {g : Nat} {z : α} (h : ∀ j, j < 4 → P j (gs j)) (hz : P g z) : ∀ j, j < 4 → P j (va_up gs g z j) := fun j hj => by
  by_cases e : j = g
  · subst e; rw [va_up_self]; exact hz
  · rw [va_up_ne _ _ e]; exact h j hj
theorem okV.place {T : Nat} {v : NV} {G g : Nat} (h : okV T v) (hT : T + 1 < 2 ^ 30) (hG : v.1 = nI G) (hG4 : G ≤ 4) (hg : g < G) : okV (T + 1) (sPlace v g) := by
  obtain ⟨-, G', g1, g2, g3, ⟨t, t1, t2⟩, ho⟩ := h
  obtain rfl : G' = G := (nI_eq (by omega) (by omega)).mp (g3.symm.trans hG)
  obtain ⟨v1, v2, v3, gs⟩ := v
  dsimp only at *
  have ho1 : ∀ g, g < 4 → okG G' (T + 1) g (gs g) := fun g hg => (ho g hg).mono (by omega)
  have ht : (∃ t, t ≤ T + 1 ∧ v2 + 1 = nI t) := ⟨t + 1, by omega, by rw [t2, nI_1]⟩
  unfold sPlace
  dsimp only
  rcases sNext_cases hG4 ho hg with hp | ⟨h, i, hh, hi, hM6, hp, -⟩
  · rw [if_pos hp]
    exact ⟨hT, G', g1, g2, g3, ht, up_all ho1 ((ho1 g (by omega)).cnt (by omega) (by omega) |>.cnt (by omega) (by omega))⟩
  · have ed : nI (10 * h + i) / 10 = nI h := by
      rw [show (10 : Int32) = nI 10 by decide, pk_div (by omega) (by omega) (by omega)]
      congr 1
      omega
    have er : nI (10 * h + i) - nI (10 * h + i) / 10 * 10 = nI i := by
      rw [show (10 : Int32) = nI 10 by decide, pk_rem (by omega) (by omega) (by omega)]
      congr 1
      omega
    rw [hp, if_neg (nI_nm1 (by omega)), er, ed, nI_clamp (by omega), nI_clamp (by omega)]
    have h1 := up_all (g := g) ho1 ((ho1 g (by omega)).cnt (w := 6) (z := gs g 6 + 1) (by omega) (by omega))
    have h2 := up_all (g := h) h1 ((h1 h (by omega)).hold (t := i) (c := v3) (w := g) (by omega) hg)
    refine ⟨hT, G', g1, g2, g3, ht, ?_⟩
    dsimp only
    split
    · exact up_all h2 ((h2 g (by omega)).cnt (by omega) (by omega))
    · exact up_all h2 ((h2 g (by omega)).cnt (by omega) (by omega))
theorem okV.sEnd {T : Nat} {v : NV} {g i : Nat} (h : okV T v) (hT : T + 1 < 2 ^ 30) (hg : g < 4) (hi : i < 6) : okV (T + 1) (sEnd v g i) := by
  obtain ⟨-, G, g1, g2, g3, ⟨t, t1, t2⟩, ho⟩ := h
  have e : v.2.1 + 1 = nI (t + 1) := by rw [t2, nI_1]
  refine ⟨hT, G, g1, g2, g3, ⟨t + 1, by omega, e⟩, ?_⟩
  exact up_all (fun g hg => (ho g hg).mono (by omega)) ((ho g hg).lett (by omega) hi (Or.inl ⟨rfl, rfl, Or.inr ⟨t + 1, by omega, by omega, e⟩⟩))
theorem okV.sBrk {T : Nat} {v : NV} {g i : Nat} (h : okV T v) (hT : T + 1 < 2 ^ 30) (hg : g < 4) (hi : i < 6) : okV (T + 1) (sBrk v g i) := by
  obtain ⟨-, G, g1, g2, g3, ⟨t, t1, t2⟩, ho⟩ := h
  refine ⟨hT, G, g1, g2, g3, ⟨t + 1, by omega, by show v.2.1 + 1 = _; rw [t2, nI_1]⟩, ?_⟩
  have ho1 : ∀ g, g < 4 → okG G (T + 1) g (v.2.2.2 g) := fun g hg => (ho g hg).mono (by omega)
  have key : ∀ gs1 : Nat → Nat → Int32, (∀ g, g < 4 → okG G (T + 1) g (gs1 g)) → ∀ j, j < 4 → okG G (T + 1) j (va_up gs1 g (upd (gLet (gs1 g) i 2) (13 + 4 * i) 0) j) := fun gs1 h1 => up_all h1 ((h1 g hg).lett (by omega) hi (Or.inr (Or.inr ⟨rfl, rfl⟩)))
  refine key _ ?_
  split
  · exact ho1
  · rename_i hne
    obtain ⟨w, w1, w2⟩ : ∃ w, w < G ∧ v.2.2.2 g (12 + 4 * i) = nI w := by
      rcases (ho g hg).2.2.2.2.2 i hi with ⟨-, q, -⟩ | ⟨-, q⟩ | ⟨-, q⟩
      · exact absurd q hne
      · exact q
      · exact absurd q hne
    rw [w2, nI_clamp (by omega)]
    exact up_all ho1 ((ho1 w (by omega)).cnt (by omega) (by omega))
theorem g0_ok (G T g : Nat) : okG G T g g0 := by
  refine ⟨⟨3, by omega, by omega, by decide, 0, by omega, by decide⟩, ⟨2, by omega, by decide⟩, Or.inl (by decide), Or.inl (by decide), ⟨0, by omega, by decide⟩, fun i hi => ?_⟩
  refine Or.inl ⟨?_, ?_, Or.inl ?_⟩
  · unfold g0 gFree
    rw [if_neg (by omega), if_neg (by omega), if_pos (by omega)]
  · unfold g0 gFree
    rw [if_neg (by omega), if_neg (by omega), if_neg (by omega)]
  · unfold g0 gFree
    rw [if_neg (by omega), if_neg (by omega), if_neg (by omega)]
def v0 (G : Nat) : NV := (nI G, 0, 0, fun _ => g0)
theorem okV_v0 {T G : Nat} (hT : T < 2 ^ 30) (h1 : 1 ≤ G) (h4 : G ≤ 4) : okV T (v0 G) := ⟨hT, G, h1, h4, rfl, ⟨0, by omega, nI_0.symm⟩, fun g _ => g0_ok G T g⟩
theorem fOK_g0 : fsOK g0 (fun _ => 0) := fun i hi _ => by
  have : g0 (13 + 4 * i) = -1 := by
    unfold g0 gFree
    rw [if_neg (by omega), if_neg (by omega), if_neg (by omega)]
  rw [this, if_pos rfl]
theorem fOK_free (gv : Nat → Int32) : fsOK (gFree gv) (fun _ => 0) := fun i hi _ => by
  have : gFree gv (13 + 4 * i) = -1 := by
    unfold gFree
    rw [if_neg (by omega), if_neg (by omega), if_neg (by omega)]
  rw [this, if_pos rfl]
theorem fOK_v0 (G : Nat) : fOK (v0 G) (fun _ _ => 0) := fun g _ => fOK_g0
/-- a group is shaped anew -/
def gShape (gv : Nat → Int32) (n a r o c : Int32) : Nat → Int32 := gFree (upd (upd (upd (upd (upd gv 0 n) 1 a) 2 r) 3 o) 4 c)
def sShape (v : NV) (g : Nat) (n a r o c : Int32) : NV := (v.1, v.2.1, v.2.2.1, va_up v.2.2.2 g (gShape (v.2.2.2 g) n a r o c))
theorem okV.shape {T : Nat} {v : NV} {G g N A R c : Nat} {o : Int32} (h : okV T v) (hG : v.1 = nI G) (hG4 : G ≤ 4) (hg : g < 4) (n1 : 1 ≤ N) (n6 : N ≤ 6) (a6 : A ≤ 6) (rN : R ≤ N) (c3 : c ≤ 3) (ho : o = -1 ∨ ∃ h, h < G ∧ h ≠ g ∧ o = nI h) : okV T (sShape v g (nI N) (nI A) (nI R) o (nI c)) := by
  obtain ⟨hT, G', g1, g2, g3, ht, hk⟩ := h
  obtain rfl : G' = G := (nI_eq (by omega) (by omega)).mp (g3.symm.trans hG)
  refine ⟨hT, G', g1, g2, g3, ht, up_all hk ?_⟩
  unfold gShape
  have e : ∀ {u : Nat → Int32} {w : Nat}, w < 5 → gFree u w = u w := fun {u w} hw => by
    unfold gFree
    rw [if_neg (by omega), if_pos (by omega)]
  refine ⟨⟨N, n1, n6, ?_, R, rN, ?_⟩, ⟨A, a6, ?_⟩, ?_, ?_, ⟨0, by omega, ?_⟩, fun i hi => Or.inl ⟨?_, ?_, Or.inl ?_⟩⟩
  · rw [e (by omega)]; rfl
  · rw [e (by omega)]; rfl
  · rw [e (by omega)]; rfl
  · rw [e (by omega)]; exact ho
  · rw [e (by omega)]
    show nI c = 0 ∨ nI c = 1 ∨ nI c = 2 ∨ nI c = 3
    rcases (show c = 0 ∨ c = 1 ∨ c = 2 ∨ c = 3 by omega) with rfl | rfl | rfl | rfl <;> decide
  · unfold gFree
    rw [if_pos rfl]
    decide
  · unfold gFree
    rw [if_neg (by omega), if_neg (by omega), if_pos (by omega)]
  · unfold gFree
    rw [if_neg (by omega), if_neg (by omega), if_neg (by omega)]
  · unfold gFree
    rw [if_neg (by omega), if_neg (by omega), if_neg (by omega)]
/-! what the class keeps hidden -/
theorem fsOK.cnt {gv fs : Nat → Int32} {w : Nat} {z : Int32} (h : fsOK gv fs) (hw : w < 10) : fsOK (upd gv w z) fs := fun i hi h0 => by
  rw [pk_un (by omega)] at h0 ⊢
  exact h i hi h0
theorem fsOK.hold {gv fs : Nat → Int32} {t : Nat} {c w : Int32} (h : fsOK gv fs) (ht : t < 6) : fsOK (upd (gHold gv t c w) (13 + 4 * t) 0) fs := fun i hi h0 => by
  unfold gHold at h0 ⊢
  by_cases e : i = t
  · subst e
    rw [pk_un (by omega), pk_un (by omega), pk_un (by omega), pk_un (by omega), pk_us] at h0
    exact absurd h0 (by decide)
  · rw [pk_un (by omega), pk_un (by omega), pk_un (by omega), pk_un (by omega), pk_un (by omega)] at h0 ⊢
    exact h i hi h0
theorem fsOK.lett {gv fs : Nat → Int32} {t : Nat} {b z w : Int32} (h : fsOK gv fs) (ht : t < 6) (hz : b = 0 → ¬ z = -1 ∧ w = z) : fsOK (upd (gLet gv t b) (13 + 4 * t) z) (upd fs t w) := fun i hi h0 => by
  unfold gLet at h0 ⊢
  by_cases e : i = t
  · subst e
    rw [pk_un (by omega), pk_un (by omega), pk_un (by omega), pk_us] at h0
    rw [pk_us, pk_us, if_neg (hz h0).1]
    exact (hz h0).2
  · rw [pk_un (by omega), pk_un (by omega), pk_un (by omega), pk_un (by omega)] at h0
    rw [pk_un e, pk_un (show 13 + 4 * i ≠ 13 + 4 * t by omega), pk_un (show 13 + 4 * i ≠ 12 + 4 * t by omega), pk_un (show 13 + 4 * i ≠ 11 + 4 * t by omega), pk_un (show 13 + 4 * i ≠ 10 + 4 * t by omega)]
    exact h i hi h0
theorem fOK.place {T : Nat} {v : NV} {fss : Nat → Nat → Int32} {G g : Nat} (h : fOK v fss) (hv : okV T v) (hG : v.1 = nI G) (hG4 : G ≤ 4) (hg : g < G) : fOK (sPlace v g) fss := by
  obtain ⟨hT0, G', g1, g2, g3, -, ho⟩ := hv
  obtain rfl : G' = G := (nI_eq (by omega) (by omega)).mp (g3.symm.trans hG)
  obtain ⟨v1, v2, v3, gs⟩ := v
  dsimp only [fOK] at *
  unfold sPlace
  dsimp only
  rcases sNext_cases hG4 ho hg with hp | ⟨k, i, hh, hi, hM6, hp, -⟩
  · rw [if_pos hp]
    exact up_all (P := fun j z => fsOK z (fss j)) h ((h g (by omega)).cnt (by omega) |>.cnt (by omega))
  · have ed : nI (10 * k + i) / 10 = nI k := by
      rw [show (10 : Int32) = nI 10 by decide, pk_div (by omega) (by omega) (by omega)]
      congr 1
      omega
    have er : nI (10 * k + i) - nI (10 * k + i) / 10 * 10 = nI i := by
      rw [show (10 : Int32) = nI 10 by decide, pk_rem (by omega) (by omega) (by omega)]
      congr 1
      omega
    rw [hp, if_neg (nI_nm1 (by omega)), er, ed, nI_clamp (by omega), nI_clamp (by omega)]
    have h1 := up_all (P := fun j z => fsOK z (fss j)) (g := g) h ((h g (by omega)).cnt (w := 6) (z := gs g 6 + 1) (by omega))
    have h2 := up_all (P := fun j z => fsOK z (fss j)) (g := k) h1 ((h1 k (by omega)).hold (t := i) (c := v3) (w := nI g) (by omega))
    dsimp only
    split
    · exact up_all (P := fun j z => fsOK z (fss j)) h2 ((h2 g (by omega)).cnt (by omega))
    · exact up_all (P := fun j z => fsOK z (fss j)) h2 ((h2 g (by omega)).cnt (by omega))
theorem up2_all {P : (Nat → Int32) → (Nat → Int32) → Prop} {gs fss : Nat → Nat → Int32} {g : Nat} {y z : Nat → Int32} (h : ∀ j, j < 4 → P (gs j) (fss j)) (hz : P y z) : ∀ j, j < 4 → P (va_up gs g y j) (va_up fss g z j) := fun j hj => by
  by_cases e : j = g
  · subst e; rw [va_up_self, va_up_self]; exact hz
  · rw [va_up_ne _ _ e, va_up_ne _ _ e]; exact h j hj
theorem fOK.sEnd {T : Nat} {v : NV} {fss : Nat → Nat → Int32} {g i : Nat} (h : fOK v fss) (hv : okV T v) (hg : g < 4) (hi : i < 6) : fOK (sEnd v g i) (va_up fss g (upd (fss g) i (v.2.1 + 1))) := by
  obtain ⟨hT, G, g1, g2, g3, ⟨t, t1, t2⟩, ho⟩ := hv
  have e : v.2.1 + 1 = nI (t + 1) := by rw [t2, nI_1]
  exact up2_all h ((h g hg).lett hi (fun _ => ⟨by rw [e]; exact nI_nm1 (by omega), rfl⟩))
theorem fOK.sBrk {T : Nat} {v : NV} {fss : Nat → Nat → Int32} {g i : Nat} (h : fOK v fss) (hv : okV T v) (hg : g < 4) (hi : i < 6) : fOK (sBrk v g i) (va_up fss g (upd (fss g) i (v.2.1 + 1))) := by
  obtain ⟨hT, G, g1, g2, g3, ⟨t, t1, t2⟩, ho⟩ := hv
  have key : ∀ gs1 : Nat → Nat → Int32, (∀ g, g < 4 → fsOK (gs1 g) (fss g)) → ∀ j, j < 4 → fsOK (va_up gs1 g (upd (gLet (gs1 g) i 2) (13 + 4 * i) 0) j) (va_up fss g (upd (fss g) i (v.2.1 + 1)) j) := fun gs1 h1 => up2_all h1 ((h1 g hg).lett hi (fun q => absurd q (by decide)))
  refine key _ ?_
  split
  · exact h
  · rename_i hne
    obtain ⟨w, w1, w2⟩ : ∃ w, w < G ∧ v.2.2.2 g (12 + 4 * i) = nI w := by
      rcases (ho g hg).2.2.2.2.2 i hi with ⟨-, q, -⟩ | ⟨-, q⟩ | ⟨-, q⟩
      · exact absurd q hne
      · exact q
      · exact absurd q hne
    rw [w2, nI_clamp (by omega)]
    exact up_all (P := fun j z => fsOK z (fss j)) h ((h w (by omega)).cnt (by omega))
theorem fOK.shape {v : NV} {fss : Nat → Nat → Int32} {g : Nat} {n a r o c : Int32} (h : fOK v fss) : fOK (sShape v g n a r o c) (va_up fss g (fun _ => 0)) := up2_all h (fOK_free _)
end
section
/-! Draws, History, Image -/
def nx (s : Nat) : Nat := (s * 1103515245 + 12345) % 2147483648
def dw (s n : Nat) : Nat := s / 65536 % n
theorem nx_lt (s : Nat) : nx s < 2 ^ 31 := Nat.mod_lt _ (by decide)
theorem nx_eq {s : Nat} (hs : s < 2 ^ 31) : ((nI s).toInt64 * 1103515245 + 12345 - ((nI s).toInt64 * 1103515245 + 12345) / 2147483648 * 2147483648).toInt32 = nI (nx s) := by
  rw [nI_l hs, show (1103515245 : Int64) = lN 1103515245 by decide, show (12345 : Int64) = lN 12345 by decide, show (2147483648 : Int64) = lN 2147483648 by decide, lN_mul, lN_add, pk_lRem (by omega) (by omega) (by omega), lN_i]
  rfl
theorem dw_eq {s n : Nat} (hs : s < 2 ^ 31) (h1 : 1 ≤ n) (hn : n < 2 ^ 31) : nI s / 65536 - nI s / 65536 / nI n * nI n = nI (dw s n) := by
  rw [show (65536 : Int32) = nI 65536 by decide, pk_div hs (by omega) (by omega), pk_rem (by omega) (by omega) hn]
  rfl
abbrev Dp (E : Ev) (a s : Nat) (H : Heap) : Prop := ob E 1 a [.int (nI s)] H
set_option maxRecDepth 100000 in
set_option maxHeartbeats 8000000 in
theorem c_D_draw (l : Launch) (E : Ev) (a s n : Nat) (hs : s < 2 ^ 31) (h1 : 1 ≤ n) (hn : n < 2 ^ 31) : Ct l E yX1_draw cX1_draw 2 (some .int) (rm 1) [.ref a, .int (nI n)] (Dp E a s) (rV (some (.int (nI (dw (nx s) n)))) (Dp E a (nx s))) (fun q => q = a) := by
  refine ct_start (by decide) [some (.ref a), some (.int (nI n))] rfl (Nat.le_of_ble_eq_true rfl) ?_
  intro x hF hN hA hR
  refine g_aload_n hF dX1_draw_0 1 rfl rfl ?_
  refine g_aload_n hF dX1_draw_1 2 rfl rfl ?_
  refine g_get hF fl_X1_9 dX1_draw_2 5 rfl (by intro H h; exact h) rfl ?_
  refine g_i2l hF dX1_draw_5 6 rfl ?_
  refine g_ldc2 hF kc_X1_15 dX1_draw_6 9 rfl ?_
  refine g_lmul hF dX1_draw_9 10 rfl ?_
  refine g_ldc2 hF kc_X1_17 dX1_draw_10 13 rfl ?_
  refine g_ladd hF dX1_draw_13 14 rfl ?_
  refine g_ldc2 hF kc_X1_19 dX1_draw_14 17 rfl ?_
  refine g_lrem hF dX1_draw_17 18 rfl (by decide) ?_
  refine g_l2i hF dX1_draw_18 19 rfl ?_
  rw [nx_eq hs]
  refine g_put hF pl_X1_9 dX1_draw_19 22 rfl (by intro H h; exact h) (Nat.le_of_ble_eq_true rfl) rfl rfl (hA _ rfl) (Pr' := Dp E a (nx s)) (fun H H' h h1 h2 => by exact h1) ?_
  refine g_iload_n hF dX1_draw_22 23 rfl rfl ?_
  refine g_if_le hF dX1_draw_23 26 rfl 38 (by decide) (fun c => absurd c (nI_nle h1 hn)) (fun _ => ?_)
  refine g_aload_n hF dX1_draw_26 27 rfl rfl ?_
  refine g_get hF fl_X1_9 dX1_draw_27 30 rfl (by intro H h; exact h) rfl ?_
  refine g_ldc hF kc_X1_21 dX1_draw_30 32 rfl ?_
  refine g_idiv hF dX1_draw_32 33 rfl (by decide) ?_
  refine g_iload_n hF dX1_draw_33 34 rfl rfl ?_
  refine g_irem hF dX1_draw_34 35 rfl (nI_ne0 h1 hn) ?_
  rw [dw_eq (nx_lt s) h1 hn]
  refine g_goto hF dX1_draw_35 39 (by decide) ?_
  exact g_iret hF dX1_draw_39 (Nat.le_of_ble_eq_true rfl) (Nat.le_of_ble_eq_true rfl) (fun H h => hR _ _ ⟨congrArg (fun z => some (Value.int z)) (rfl), h⟩)
/-- one time by draws -/
def sDr (s : Nat) (v : NV) : Nat × NV :=
  if dw (nx s) 5 ≤ 2 then (nx (nx s), sPlace v (dw (nx (nx s)) v.1.toNatClampNeg))
  else (nx (nx (nx s)), if v.2.2.2 (dw (nx (nx s)) v.1.toNatClampNeg) (10 + 4 * dw (nx (nx (nx s))) (v.2.2.2 (dw (nx (nx s)) v.1.toNatClampNeg) 0).toNatClampNeg) = 1 then sEnd v (dw (nx (nx s)) v.1.toNatClampNeg) (dw (nx (nx (nx s))) (v.2.2.2 (dw (nx (nx s)) v.1.toNatClampNeg) 0).toNatClampNeg) else v)
set_option maxRecDepth 100000 in
set_option maxHeartbeats 8000000 in
theorem c_D_driftOnce (l : Launch) (E : Ev) (d c s : Nat) (v : NV) (fss : Nat → Nat → Int32) (T : Nat) (hs : s < 2 ^ 31) (hv : okV T v) (hf : fOK v fss) (hdc : ¬ rg c 22 d) : Ct l E yX1_driftOnce cX1_driftOnce 6 none (rm 5) [.ref d, .ref c] (fun H => Dp E d s H ∧ Np E c v fss H) (rV none (fun H => Dp E d (sDr s v).1 H ∧ Nq E c (sDr s v).2 H)) (fun q => q = d ∨ rg c 22 q) := by
  refine ct_start (by decide) [some (.ref d), some (.ref c), none, none, none, none] rfl (Nat.le_of_ble_eq_true rfl) ?_
  intro x hF hN hA hR
  obtain ⟨hT, G, G1, G4, hG, ht, ho⟩ := id hv
  obtain ⟨g, eg⟩ : ∃ g, g = dw (nx (nx s)) v.1.toNatClampNeg := ⟨_, rfl⟩
  have hgG : g < G := by rw [eg, hG, nI_clamp (by omega)]; exact Nat.mod_lt _ (by omega)
  have hg4 : g < 4 := by omega
  have eg2 : dw (nx (nx s)) G = g := by rw [eg, hG, nI_clamp (by omega)]
  obtain ⟨⟨N, n1, n6, n0, -⟩, -⟩ := ho g hg4
  obtain ⟨i, ei⟩ : ∃ i, i = dw (nx (nx (nx s))) (v.2.2.2 g 0).toNatClampNeg := ⟨_, rfl⟩
  have hiN : i < N := by rw [ei, n0, nI_clamp (by omega)]; exact Nat.mod_lt _ (by omega)
  have ei2 : dw (nx (nx (nx s))) N = i := by rw [ei, n0, nI_clamp (by omega)]
  have hcl : (nI i).toNatClampNeg = i := nI_clamp (by omega)
  have k5 : dw (nx s) 5 < 5 := Nat.mod_lt _ (by omega)
  have e0 : sDr s v = if dw (nx s) 5 ≤ 2 then (nx (nx s), sPlace v g) else (nx (nx (nx s)), if v.2.2.2 g (10 + 4 * i) = 1 then sEnd v g i else v) := by
    unfold sDr
    rw [← eg, ← ei]
  have kd : ∀ {H H' : Heap} {s' : Nat}, Dp E d s' H → out (rg c 22) H H' → Dp E d s' H' := fun {H H' s'} h1 h2 => ob_kept h1 (out_at h2 h1 hdc)
  have kn : ∀ {H H' : Heap}, Np E c v fss H → out (fun q => q = d) H H' → Np E c v fss H' := fun {H H'} h1 h2 => h1.kept (fun q hq => h2.2 q (Nat.lt_of_lt_of_le hq.2 (np_le h1)) (fun z => hdc (z ▸ hq)))
  have e1 : (if 0 ≤ nI i ∧ nI i < v.2.2.2 g 0 then (1 : Int32) else 0) = 1 := if_pos ⟨nI_pos' (by omega), by rw [n0]; exact (nI_ltI (by omega) (by omega)).mpr hiN⟩
  refine g_aload_n hF dX1_driftOnce_0 1 rfl rfl ?_
  refine g_iconst hF (5) dX1_driftOnce_1 2 rfl rfl ?_
  refine g_callV hF cv_X1_22 (c_D_draw l E d s 5 hs (by omega) (by omega)) dX1_driftOnce_2 5 rfl (st := []) rfl rfl ⟨Nat.le_of_ble_eq_true rfl, Nat.le_of_ble_eq_true rfl⟩ ⟨Nat.le_of_ble_eq_true rfl, Nat.le_of_ble_eq_true rfl⟩ rfl (Nat.le_of_ble_eq_true rfl) 1 rfl (by intro H h; first | exact h.1 | exact h.2.1 | exact (h.2.2.2 g hg4).1 | exact (h.2.2.2 g hg4).2.1) (Pr' := fun H => Dp E d (nx s) H ∧ Np E c v fss H) (fun H h => h.1) (fun q hq => hA q (Or.inl hq)) (fun H H' h h1 h2 => by exact ⟨h1, kn h.2 h2⟩) (st1 := [_]) rfl (k1 := 0) (n1 := 0) rfl rfl ?_
  refine g_istore_n hF dX1_driftOnce_5 6 rfl (lo' := [_, _, _, _, _, _]) (Nat.le_of_ble_eq_true rfl) rfl ?_
  refine g_aload_n hF dX1_driftOnce_6 7 rfl rfl ?_
  refine g_aload_n hF dX1_driftOnce_7 8 rfl rfl ?_
  refine g_get hF fl_X1_26 dX1_driftOnce_8 11 rfl (by intro H h; first | exact h.1 | exact h.2.1 | exact (h.2.2.2 g hg4).1 | exact (h.2.2.2 g hg4).2.1) rfl ?_
  rw [hG]
  refine g_callV hF cv_X1_22 (c_D_draw l E d (nx s) G (nx_lt s) G1 (by omega)) dX1_driftOnce_11 14 rfl (st := []) rfl rfl ⟨Nat.le_of_ble_eq_true rfl, Nat.le_of_ble_eq_true rfl⟩ ⟨Nat.le_of_ble_eq_true rfl, Nat.le_of_ble_eq_true rfl⟩ rfl (Nat.le_of_ble_eq_true rfl) 1 rfl (by intro H h; first | exact h.1 | exact h.2.1 | exact (h.2.2.2 g hg4).1 | exact (h.2.2.2 g hg4).2.1) (Pr' := fun H => Dp E d (nx (nx s)) H ∧ Np E c v fss H) (fun H h => h.1) (fun q hq => hA q (Or.inl hq)) (fun H H' h h1 h2 => by exact ⟨h1, kn h.2 h2⟩) (st1 := [_]) rfl (k1 := 0) (n1 := 0) rfl rfl ?_
  rw [eg2]
  refine g_istore_n hF dX1_driftOnce_14 15 rfl (lo' := [_, _, _, _, _, _]) (Nat.le_of_ble_eq_true rfl) rfl ?_
  refine g_aload_n hF dX1_driftOnce_15 16 rfl rfl ?_
  refine g_iload_n hF dX1_driftOnce_16 17 rfl rfl ?_
  refine g_callV hF cv_X1_31 (c_N_groupAt l E c v fss G g hG G4 hgG) dX1_driftOnce_17 20 rfl (st := []) rfl rfl ⟨Nat.le_of_ble_eq_true rfl, Nat.le_of_ble_eq_true rfl⟩ ⟨Nat.le_of_ble_eq_true rfl, Nat.le_of_ble_eq_true rfl⟩ rfl (Nat.le_of_ble_eq_true rfl) 6 rfl (by intro H h; first | exact h.1 | exact h.2.1 | exact (h.2.2.2 g hg4).1 | exact (h.2.2.2 g hg4).2.1) (Pr' := fun H => Dp E d (nx (nx s)) H ∧ Np E c v fss H) (fun H h => h.2) (fun q z => z.elim) (fun H H' h h1 h2 => by exact ⟨ob_kept h.1 (out_at h2 h.1 (fun z => z)), h1⟩) (st1 := [_]) rfl (k1 := 0) (n1 := 0) rfl rfl ?_
  refine g_astore hF dX1_driftOnce_20 22 rfl (lo' := [_, _, _, _, _, _]) (Nat.le_of_ble_eq_true rfl) rfl ?_
  refine g_aload hF dX1_driftOnce_22 24 rfl rfl ?_
  refine g_ifnonnull hF dX1_driftOnce_24 28 (by decide) ?_
  refine g_iload_n hF dX1_driftOnce_28 29 rfl rfl ?_
  refine g_iconst hF (2) dX1_driftOnce_29 30 rfl rfl ?_
  refine g_icmp_gt hF dX1_driftOnce_30 33 rfl 40 (by decide) (fun c30 => ?_) (fun c30 => ?_)
  · have c2 := i_lt (a := 2) c30 (by omega) (by omega)
    rw [e0, if_neg (by omega)] at hR
    refine g_aload_n hF dX1_driftOnce_40 41 rfl rfl ?_
    refine g_aload hF dX1_driftOnce_41 43 rfl rfl ?_
    refine g_get hF fl_X1_38 dX1_driftOnce_43 46 rfl (by intro H h; first | exact h.1 | exact h.2.1 | exact (h.2.2.2 g hg4).1 | exact (h.2.2.2 g hg4).2.1) rfl ?_
    rw [n0]
    refine g_callV hF cv_X1_22 (c_D_draw l E d (nx (nx s)) N (nx_lt _) n1 (by omega)) dX1_driftOnce_46 49 rfl (st := []) rfl rfl ⟨Nat.le_of_ble_eq_true rfl, Nat.le_of_ble_eq_true rfl⟩ ⟨Nat.le_of_ble_eq_true rfl, Nat.le_of_ble_eq_true rfl⟩ rfl (Nat.le_of_ble_eq_true rfl) 1 rfl (by intro H h; first | exact h.1 | exact h.2.1 | exact (h.2.2.2 g hg4).1 | exact (h.2.2.2 g hg4).2.1) (Pr' := fun H => Dp E d (nx (nx (nx s))) H ∧ Np E c v fss H) (fun H h => h.1) (fun q hq => hA q (Or.inl hq)) (fun H H' h h1 h2 => by exact ⟨h1, kn h.2 h2⟩) (st1 := [_]) rfl (k1 := 0) (n1 := 0) rfl rfl ?_
    rw [ei2]
    refine g_istore hF dX1_driftOnce_49 51 rfl (lo' := [_, _, _, _, _, _]) (Nat.le_of_ble_eq_true rfl) rfl ?_
    refine g_aload hF dX1_driftOnce_51 53 rfl rfl ?_
    refine g_iload hF dX1_driftOnce_53 55 rfl rfl ?_
    refine g_callV hF cv_X1_43 (c_G_hasLine l E (c + 2 + 5 * g) (v.2.2.2 g) (fss g) (nI i)) dX1_driftOnce_55 58 rfl (st := []) rfl rfl ⟨Nat.le_of_ble_eq_true rfl, Nat.le_of_ble_eq_true rfl⟩ ⟨Nat.le_of_ble_eq_true rfl, Nat.le_of_ble_eq_true rfl⟩ rfl (Nat.le_of_ble_eq_true rfl) 3 rfl (by intro H h; first | exact h.1 | exact h.2.1 | exact (h.2.2.2 g hg4).1 | exact (h.2.2.2 g hg4).2.1) (Pr' := fun H => Dp E d (nx (nx (nx s))) H ∧ Np E c v fss H) (fun H h => h.2.2.2 g hg4) (fun q z => z.elim) (fun H H' h h1 h2 => by exact ⟨ob_kept h.1 (out_at h2 h.1 (fun z => z)), Np.rd hg4 h.2 h1 h2⟩) (st1 := [_]) rfl (k1 := 0) (n1 := 0) rfl rfl ?_
    rw [e1]
    refine g_if_eq hF dX1_driftOnce_58 61 rfl 82 (by decide) (fun c => absurd c ((by decide))) (fun _ => ?_)
    refine g_aload hF dX1_driftOnce_61 63 rfl rfl ?_
    refine g_get hF fl_X1_47 dX1_driftOnce_63 66 rfl (by intro H h; first | exact h.1 | exact h.2.1 | exact (h.2.2.2 g hg4).1 | exact (h.2.2.2 g hg4).2.1) rfl ?_
    refine g_iload hF dX1_driftOnce_66 68 rfl rfl ?_
    refine g_iald hF dX1_driftOnce_68 69 rfl (by intro H h; first | exact h.1 | exact h.2.1 | exact (h.2.2.2 g hg4).1 | exact (h.2.2.2 g hg4).2.1) (vp_in_nI (show i < 6 by omega) (by omega)) ?_
    rw [hcl]
    refine g_iconst hF (1) dX1_driftOnce_69 70 rfl rfl ?_
    refine g_icmp_ne hF dX1_driftOnce_70 73 rfl 82 (by decide) (fun c70 => ?_) (fun c70 => ?_)
    · exact g_vret hF dX1_driftOnce_82 (Nat.le_of_ble_eq_true rfl) (Nat.le_of_ble_eq_true rfl) (fun H h => hR _ _ ⟨rfl, by rw [if_neg c70]; exact ⟨h.1, fss, hf, h.2⟩⟩)
    · refine g_aload_n hF dX1_driftOnce_73 74 rfl rfl ?_
      refine g_aload hF dX1_driftOnce_74 76 rfl rfl ?_
      refine g_iload hF dX1_driftOnce_76 78 rfl rfl ?_
      refine g_callV hF cv_X1_51 (c_N_endCall l E c v fss g i hg4 (by omega)) dX1_driftOnce_78 81 rfl (st := []) rfl rfl ⟨Nat.le_of_ble_eq_true rfl, Nat.le_of_ble_eq_true rfl⟩ ⟨Nat.le_of_ble_eq_true rfl, Nat.le_of_ble_eq_true rfl⟩ rfl (Nat.le_of_ble_eq_true rfl) 6 rfl (by intro H h; first | exact h.1 | exact h.2.1 | exact (h.2.2.2 g hg4).1 | exact (h.2.2.2 g hg4).2.1) (Pr' := fun H => Dp E d (nx (nx (nx s))) H ∧ Np E c (sEnd v g i) (va_up fss g (upd (fss g) i (v.2.1 + 1))) H) (fun H h => h.2) (fun q hq => hA q (Or.inr hq)) (fun H H' h h1 h2 => by exact ⟨kd h.1 h2, h1⟩) (st1 := [_]) rfl (k1 := 0) (n1 := 0) rfl rfl ?_
      refine g_pop hF dX1_driftOnce_81 82 rfl rfl ?_
      exact g_vret hF dX1_driftOnce_82 (Nat.le_of_ble_eq_true rfl) (Nat.le_of_ble_eq_true rfl) (fun H h => hR _ _ ⟨rfl, by rw [if_pos c70]; exact ⟨h.1, _, hf.sEnd hv hg4 (by omega), h.2⟩⟩)
  · rw [e0, if_pos (i_nlt (a := 2) c30 (by omega) (by omega))] at hR
    refine g_aload_n hF dX1_driftOnce_33 34 rfl rfl ?_
    refine g_iload_n hF dX1_driftOnce_34 35 rfl rfl ?_
    refine g_callV hF cv_X1_35 (c_N_placeCall l E c v fss G T g hG G4 hT ho hf hgG) dX1_driftOnce_35 38 rfl (st := []) rfl rfl ⟨Nat.le_of_ble_eq_true rfl, Nat.le_of_ble_eq_true rfl⟩ ⟨Nat.le_of_ble_eq_true rfl, Nat.le_of_ble_eq_true rfl⟩ rfl (Nat.le_of_ble_eq_true rfl) 6 rfl (by intro H h; first | exact h.1 | exact h.2.1 | exact (h.2.2.2 g hg4).1 | exact (h.2.2.2 g hg4).2.1) (Pr' := fun H => Dp E d (nx (nx s)) H ∧ Np E c (sPlace v g) fss H) (fun H h => h.2) (fun q hq => hA q (Or.inr hq)) (fun H H' h h1 h2 => by exact ⟨kd h.1 h2, h1⟩) (st1 := [_]) rfl (k1 := 0) (n1 := 0) rfl rfl ?_
    refine g_pop hF dX1_driftOnce_38 39 rfl rfl ?_
    exact g_vret hF dX1_driftOnce_39 (Nat.le_of_ble_eq_true rfl) (Nat.le_of_ble_eq_true rfl) (fun H h => hR _ _ ⟨rfl, ⟨h.1, fss, hf.place hv hG G4 hgG, h.2⟩⟩)
theorem okV.sDr {T s : Nat} {v : NV} (h : okV T v) (hT : T + 1 < 2 ^ 30) : okV (T + 1) (sDr s v).2 := by
  obtain ⟨hT0, G, G1, G4, hG, ht, ho⟩ := id h
  have hgG : dw (nx (nx s)) v.1.toNatClampNeg < G := by rw [hG, nI_clamp (by omega)]; exact Nat.mod_lt _ (by omega)
  unfold Jvm.Pilot.CTrunkReserveLaw_law_r8557_f32c88.sDr
  split
  · exact h.place hT hG G4 hgG
  · obtain ⟨⟨N, n1, n6, n0, -⟩, -⟩ := ho (dw (nx (nx s)) v.1.toNatClampNeg) (by omega)
    dsimp only
    split
    · refine h.sEnd hT (by omega) ?_
      rw [n0, nI_clamp (by omega)]
      have : dw (nx (nx (nx s))) N < N := Nat.mod_lt _ (by omega)
      omega
    · exact h.mono (by omega) hT
theorem sDr_lt (s : Nat) (v : NV) : (sDr s v).1 < 2 ^ 31 := by
  unfold sDr
  split
  · exact nx_lt _
  · exact nx_lt _
/-! Math.floorMod, History -/
theorem Met_ofWF {l : Launch} {y : MethodName} {ws ws' : List Cond} {rm : Room} {Pc : Array Value → State → Prop} {Qc : Array Value → State → Outcome → State → Prop} {mc ms : Nat} {free : Addr → Prop} {cc : ByteArray} {maxL : Nat} {ret : Option FieldType} (hy : plainFor y = true) (hw : ws = Cond.code y cc maxL ret :: ws')
    (body : ∀ p e s m args below meth c s₁, BodyLoose p l y (headSpec ws rm) cc maxL ret e s m args below meth c s₁ → c.maxLocals = maxL → Pc args s → W p l e (headSpec ws rm).room s m args below meth c s.heap [] 0 0 (MQ below Qc args s mc ms free) (entryFrame m args maxL)) : Met l y ws rm Pc Qc mc ms free := by
  refine MetFree.of_bodySF (code := cc) (maxLocals := maxL) (ret := ret) hy (fun args s m h hn => ?_) (fun p e s m args below meth c s₁ B hml hP _ => ?_)
  · obtain ⟨meth, c, h1, h2, h3, h4, h5, h6, -, -⟩ := Cond.code_spec hn (atoms_spec (ws := ws) h _ (by rw [hw]; exact List.mem_cons_self))
    exact ⟨meth, c, h1, h2, h3, h4, h5, h6⟩
  · have hh0 : s₁.heap = s.heap := by rw [B.state]; rfl
    obtain ⟨t, a1, o, b1, b2, b3⟩ := body p e s m args below meth c s₁ B hml hP s₁ hh0 (Stand.of_body B)
    exact ⟨t, o, a1, b1, b2, ⟨b3.1, b3.2⟩⟩
theorem ct_startF {l : Launch} {E : Ev} {y : MethodName} {cc : ByteArray} {nL : Nat} {rt : Option FieldType} {R : Room} {av : List Value} {Pr : Heap → Prop} {Rt : Option Value → Heap → Prop} {A : Nat → Prop} (hy : plainFor y = true) (lo : List (Option Value)) (hlo : lo0 av nL = lo) (hle : (lo_args av).length ≤ nL)
    (h : ∀ x : Cx, fx E x y.cls cc rt nL → (x.2.2.2.2.2.2.1.name = y.name) → (∀ q, A q → arx x q) → (∀ v H, Rt v H → rtx x v H) → go l R E x 0 0 Pr lo 0 []) : Ct l E y cc nL rt R av Pr Rt A := by
  refine Met_ofWF (cc := cc) (maxL := nL) (ret := rt) hy rfl ?_
  intro p e s m args below meth c s₁ B hml hv
  obtain ⟨rfl, hK, hP⟩ := hv
  have hts := atoms_spec (ws := .code y cc nL rt :: tG) B.pre
  have hg := h (p, e, s, m, av.toArray, below, meth, c, A, Rt) ⟨B.exec, B.bytes, hml, findClass_of_methodNamed B.named, fun w hw => hts w (List.mem_cons_of_mem _ hw), hK, B.returns, B.notSynchronized⟩ (name_of_methodNamed B.named B.method).1 (fun _ q => q) (fun _ _ q => q)
  have hle' : (lg_sl av).length ≤ nL := by rw [← lo_args_len]; exact hle
  have hl := lv_entry av (n := nL) hle'
  rw [lg_entry_eq]
  refine hg s.heap _ [] hP ?_ va_S.rf
  subst hlo
  refine ⟨?_, hl.2.1, fun i v hi => ?_⟩
  · rw [hl.1]
    unfold lo0
    rw [List.length_append, List.length_replicate]
    omega
  · have h2 : (lo_args av)[i]? = some (some v) := by
      unfold lo0 at hi
      by_cases hlt : i < (lo_args av).length
      · rwa [List.getElem?_append_left hlt] at hi
      · rw [List.getElem?_append_right (by omega)] at hi
        obtain ⟨_, hx⟩ := List.getElem?_eq_some_iff.mp hi
        rw [List.getElem_replicate] at hx
        cases hx
    have h3 := lo_args_mem av 0 i v h2
    rw [Nat.zero_add] at h3
    exact hl.2.2 (i, v) h3
def fmod (z w : Int32) : Int32 := if 0 ≤ z ^^^ w then z - z / w * w else if z - z / w * w = 0 then z - z / w * w else z - z / w * w + w
set_option maxRecDepth 100000 in
set_option maxHeartbeats 8000000 in
theorem c_floorMod (l : Launch) (E : Ev) (z w : Int32) (P : Heap → Prop) (hw : ¬ w = 0) : Ct l E yJ9_floorMod_7cf53 cJ9_floorMod_7cf53 3 (some .int) (rm 1) [.int z, .int w] P (rV (some (.int (fmod z w))) P) (fun _ => False) := by
  refine ct_startF (by decide +kernel) [some (.int z), some (.int w), none] rfl (Nat.le_of_ble_eq_true rfl) ?_
  intro x hF hN hA hR
  refine g_iload_n hF dJ9_floorMod_7cf53_0 1 rfl rfl ?_
  refine g_iload_n hF dJ9_floorMod_7cf53_1 2 rfl rfl ?_
  refine g_irem hF dJ9_floorMod_7cf53_2 3 rfl (hw) ?_
  refine g_istore_n hF dJ9_floorMod_7cf53_3 4 rfl (lo' := [_, _, _]) (Nat.le_of_ble_eq_true rfl) rfl ?_
  refine g_iload_n hF dJ9_floorMod_7cf53_4 5 rfl rfl ?_
  refine g_iload_n hF dJ9_floorMod_7cf53_5 6 rfl rfl ?_
  refine g_ixor hF dJ9_floorMod_7cf53_6 7 rfl ?_
  refine g_if_ge hF dJ9_floorMod_7cf53_7 10 rfl 18 (by decide) (fun c7 => ?_) (fun c7 => ?_)
  · refine g_iload_n hF dJ9_floorMod_7cf53_18 19 rfl rfl ?_
    exact g_iret hF dJ9_floorMod_7cf53_19 (Nat.le_of_ble_eq_true rfl) (Nat.le_of_ble_eq_true rfl) (fun H h => hR _ _ ⟨congrArg (fun z => some (Value.int z)) ((if_pos c7).symm), h⟩)
  · refine g_iload_n hF dJ9_floorMod_7cf53_10 11 rfl rfl ?_
    refine g_if_eq hF dJ9_floorMod_7cf53_11 14 rfl 18 (by decide) (fun c11 => ?_) (fun c11 => ?_)
    · refine g_iload_n hF dJ9_floorMod_7cf53_18 19 rfl rfl ?_
      exact g_iret hF dJ9_floorMod_7cf53_19 (Nat.le_of_ble_eq_true rfl) (Nat.le_of_ble_eq_true rfl) (fun H h => hR _ _ ⟨congrArg (fun z => some (Value.int z)) (((if_neg c7).trans (if_pos c11)).symm), h⟩)
    · refine g_iload_n hF dJ9_floorMod_7cf53_14 15 rfl rfl ?_
      refine g_iload_n hF dJ9_floorMod_7cf53_15 16 rfl rfl ?_
      refine g_iadd hF dJ9_floorMod_7cf53_16 17 rfl ?_
      exact g_iret hF dJ9_floorMod_7cf53_17 (Nat.le_of_ble_eq_true rfl) (Nat.le_of_ble_eq_true rfl) (fun H h => hR _ _ ⟨congrArg (fun z => some (Value.int z)) (((if_neg c7).trans (if_neg c11)).symm), h⟩)
theorem fmod20 : ∀ p, p < 20 → ∀ n, n < 21 → fmod (nI p - nI n) 20 = nI ((p + 20 - n) % 20) := by decide +kernel
def Hq (E : Ev) (a : Nat) (rv : Nat → NV) (p k : Nat) (H : Heap) : Prop := ob E 4 a [.ref (a + 1), .int (nI p), .int (nI k)] H ∧ aq E E.2.2.2.2.2.1 (a + 1) 20 (fun j => some (a + 2 + 22 * j)) H ∧ ∀ j, j < 20 → Nq E (a + 2 + 22 * j) (rv j) H
theorem h_aa {a j : Nat} (hj : j < 20) : (fun j => some (a + 2 + 22 * j)) (nI j).toNatClampNeg = some (a + 2 + 22 * j) := by
  show some (a + 2 + 22 * (nI j).toNatClampNeg) = _
  rw [nI_clamp (by omega)]
theorem Hq.kept {E : Ev} {a : Nat} {rv : Nat → NV} {p k : Nat} {H H' : Heap} (h : Hq E a rv p k H) (hq : ∀ q, rg a 442 q → H'[q]? = H[q]?) : Hq E a rv p k H' :=
  ⟨ob_kept h.1 (hq _ ⟨by omega, by omega⟩), aq_kept h.2.1 (hq _ ⟨by omega, by omega⟩), fun j hj => (h.2.2 j hj).kept (fun q z => hq q ⟨by have := z.1; omega, by have := z.2; omega⟩)⟩
theorem Hq.le {E : Ev} {a : Nat} {rv : Nat → NV} {p k : Nat} {H : Heap} (h : Hq E a rv p k H) : a + 442 ≤ H.size := by
  have := (h.2.2 19 (by omega)).le
  omega
theorem Hq.out {E : Ev} {a : Nat} {rv : Nat → NV} {p k : Nat} {A : Nat → Prop} {H H' : Heap} (h : Hq E a rv p k H) (ho : out A H H') (hA : ∀ q, rg a 442 q → ¬ A q) : Hq E a rv p k H' :=
  h.kept (fun q hq => ho.2 q (Nat.lt_of_lt_of_le hq.2 h.le) (hA q hq))
theorem Hq.wo {E : Ev} {a : Nat} {rv : Nat → NV} {p k p' k' : Nat} {H H' : Heap} (h : Hq E a rv p k H) (h1 : ob E 4 a [.ref (a + 1), .int (nI p'), .int (nI k')] H') (h2 : but a H H') : Hq E a rv p' k' H' :=
  ⟨h1, aq_kept h.2.1 (h2.2 _ (by omega)), fun j hj => (h.2.2 j hj).but h2 (fun z => by have := z.1; omega)⟩
set_option maxRecDepth 100000 in
set_option maxHeartbeats 8000000 in
theorem c_H_remember (l : Launch) (E : Ev) (a c : Nat) (rv : Nat → NV) (p k : Nat) (v : NV) (hp : p < 20) (hk : k ≤ 20) (hd : c + 22 ≤ a ∨ a + 442 ≤ c) : Ct l E yX4_remember cX4_remember 2 none (rm 4) [.ref a, .ref c] (fun H => Hq E a rv p k H ∧ Nq E c v H) (rV none (fun H => Hq E a (va_up rv p v) ((p + 1) % 20) (if k < 20 then k + 1 else k) H ∧ Nq E c v H)) (rg a 442) := by
  refine ct_start (by decide) [some (.ref a), some (.ref c)] rfl (Nat.le_of_ble_eq_true rfl) ?_
  intro x hF hN hA hR
  have er : nI p + 1 - (nI p + 1) / 20 * 20 = nI ((p + 1) % 20) := by
    rw [nI_1, show (20 : Int32) = nI 20 by decide, pk_rem (by omega) (by omega) (by omega)]
  have kc : ∀ {H H' : Heap}, Nq E c v H → but a H H' → Nq E c v H' := fun {H H'} h1 h2 => h1.but h2 (fun z => by have := z.1; have := z.2; omega)
  refine g_aload_n hF dX4_remember_0 1 rfl rfl ?_
  refine g_get hF fl_X4_11 dX4_remember_1 4 rfl (by intro H h; first | exact h.1.1 | exact h.1.2.1) rfl ?_
  refine g_aload_n hF dX4_remember_4 5 rfl rfl ?_
  refine g_get hF fl_X4_18 dX4_remember_5 8 rfl (by intro H h; first | exact h.1.1 | exact h.1.2.1) rfl ?_
  refine g_aald hF 4 dX4_remember_8 9 rfl rfl (by intro H h; first | exact h.1.1 | exact h.1.2.1) (vp_in_nI hp (by omega)) (h_aa hp) ?_
  refine g_aload_n hF dX4_remember_9 10 rfl rfl ?_
  refine g_callV hF cv_X4_22 (c_N_copyQ l E (a + 2 + 22 * p) c (rv p) v (by omega)) dX4_remember_10 13 rfl (st := []) rfl rfl ⟨Nat.le_of_ble_eq_true rfl, Nat.le_of_ble_eq_true rfl⟩ ⟨Nat.le_of_ble_eq_true rfl, Nat.le_of_ble_eq_true rfl⟩ rfl (Nat.le_of_ble_eq_true rfl) 6 rfl (fun H h => by obtain ⟨fss, -, h2⟩ := h.1.2.2 p hp; exact h2.1) (Pr' := fun H => Hq E a (va_up rv p v) p k H ∧ Nq E c v H) (fun H h => ⟨h.1.2.2 p hp, h.2⟩) (fun q hq => hA q ⟨by have := hq.1; omega, by have := hq.2; omega⟩) (fun H H' h h1 h2 => by exact ⟨⟨ob_kept h.1.1 (out_at h2 h.1.1 (fun z => by have := z.1; dsimp only at this; omega)), aq_kept h.1.2.1 (out_at h2 h.1.2.1 (fun z => by have := z.1; dsimp only at this; omega)), fun j hj => if e : j = p then by subst e; rw [va_up_self]; exact h1.1 else by rw [va_up_ne _ _ e]; exact (h.1.2.2 j hj).out h2 (fun q z y => by have := z.1; have := z.2; have := y.1; have := y.2; omega)⟩, h1.2⟩) (st1 := []) rfl (k1 := 0) (n1 := 0) rfl rfl ?_
  refine g_aload_n hF dX4_remember_13 14 rfl rfl ?_
  refine g_aload_n hF dX4_remember_14 15 rfl rfl ?_
  refine g_get hF fl_X4_18 dX4_remember_15 18 rfl (by intro H h; first | exact h.1.1 | exact h.1.2.1) rfl ?_
  refine g_iconst hF (1) dX4_remember_18 19 rfl rfl ?_
  refine g_iadd hF dX4_remember_19 20 rfl ?_
  refine g_bipush hF (20) dX4_remember_20 22 rfl rfl ?_
  refine g_irem hF dX4_remember_22 23 rfl (by decide) ?_
  rw [er]
  refine g_put hF pl_X4_18 dX4_remember_23 26 rfl (by intro H h; first | exact h.1.1 | exact h.1.2.1) (Nat.le_of_ble_eq_true rfl) rfl rfl (hA _ ⟨by omega, by omega⟩) (Pr' := fun H => Hq E a (va_up rv p v) ((p + 1) % 20) k H ∧ Nq E c v H) (fun H H' h h1 h2 => by exact ⟨h.1.wo h1 h2, kc h.2 h2⟩) ?_
  refine g_aload_n hF dX4_remember_26 27 rfl rfl ?_
  refine g_get hF fl_X4_26 dX4_remember_27 30 rfl (by intro H h; first | exact h.1.1 | exact h.1.2.1) rfl ?_
  refine g_bipush hF (20) dX4_remember_30 32 rfl rfl ?_
  refine g_icmp_ge hF dX4_remember_32 35 rfl 45 (by decide) (fun c32 => ?_) (fun c32 => ?_)
  · exact g_vret hF dX4_remember_45 (Nat.le_of_ble_eq_true rfl) (Nat.le_of_ble_eq_true rfl) (fun H h => hR _ _ ⟨rfl, by rw [if_neg (by have := i_le (a := 20) c32 (by omega) (by omega); omega)]; exact h⟩)
  · refine g_aload_n hF dX4_remember_35 36 rfl rfl ?_
    refine g_dup hF dX4_remember_36 37 rfl rfl ?_
    refine g_get hF fl_X4_26 dX4_remember_37 40 rfl (by intro H h; first | exact h.1.1 | exact h.1.2.1) rfl ?_
    refine g_iconst hF (1) dX4_remember_40 41 rfl rfl ?_
    refine g_iadd hF dX4_remember_41 42 rfl ?_
    rw [nI_1]
    refine g_put hF pl_X4_26 dX4_remember_42 45 rfl (by intro H h; first | exact h.1.1 | exact h.1.2.1) (Nat.le_of_ble_eq_true rfl) rfl rfl (hA _ ⟨by omega, by omega⟩) (Pr' := fun H => Hq E a (va_up rv p v) ((p + 1) % 20) (k + 1) H ∧ Nq E c v H) (fun H H' h h1 h2 => by exact ⟨h.1.wo h1 h2, kc h.2 h2⟩) ?_
    exact g_vret hF dX4_remember_45 (Nat.le_of_ble_eq_true rfl) (Nat.le_of_ble_eq_true rfl) (fun H h => hR _ _ ⟨rfl, by rw [if_pos (i_nle (a := 20) c32 (by omega) (by omega))]; exact h⟩)
set_option maxRecDepth 100000 in
set_option maxHeartbeats 8000000 in
theorem c_H_forget (l : Launch) (E : Ev) (a : Nat) (rv : Nat → NV) (p k : Nat) : Ct l E yX4_forget cX4_forget 1 none (rm 1) [.ref a] (Hq E a rv p k) (rV none (Hq E a rv p 0)) (rg a 442) := by
  refine ct_start (by decide) [some (.ref a)] rfl (Nat.le_of_ble_eq_true rfl) ?_
  intro x hF hN hA hR
  refine g_aload_n hF dX4_forget_0 1 rfl rfl ?_
  refine g_iconst hF (0) dX4_forget_1 2 rfl rfl ?_
  refine g_put hF pl_X4_26 dX4_forget_2 5 rfl (by intro H h; exact h.1) (Nat.le_of_ble_eq_true rfl) rfl rfl (hA _ ⟨by omega, by omega⟩) (Pr' := Hq E a rv p 0) (fun H H' h h1 h2 => by exact h.wo h1 h2) ?_
  exact g_vret hF dX4_forget_5 (Nat.le_of_ble_eq_true rfl) (Nat.le_of_ble_eq_true rfl) (fun H h => hR _ _ ⟨rfl, h⟩)
set_option maxRecDepth 100000 in
set_option maxHeartbeats 8000000 in
theorem c_H_takeBack (l : Launch) (E : Ev) (a c : Nat) (rv : Nat → NV) (p k n : Nat) (v : NV) (hp : p < 20) (hk : k ≤ 20) (hn : n ≤ k) (hd : c + 22 ≤ a ∨ a + 442 ≤ c) : Ct l E yX4_takeBack cX4_takeBack 3 none (rm 4) [.ref a, .int (nI n), .ref c] (fun H => Hq E a rv p k H ∧ Nq E c v H) (rV none (fun H => Hq E a rv ((p + 20 - n) % 20) (k - n) H ∧ Nq E c (rv ((p + 20 - n) % 20)) H)) (fun q => rg a 442 q ∨ rg c 22 q) := by
  refine ct_start (by decide) [some (.ref a), some (.int (nI n)), some (.ref c)] rfl (Nat.le_of_ble_eq_true rfl) ?_
  intro x hF hN hA hR
  have hp' : (p + 20 - n) % 20 < 20 := Nat.mod_lt _ (by omega)
  have kc : ∀ {H H' : Heap}, Nq E c v H → but a H H' → Nq E c v H' := fun {H H'} h1 h2 => h1.but h2 (fun z => by have := z.1; have := z.2; omega)
  refine g_aload_n hF dX4_takeBack_0 1 rfl rfl ?_
  refine g_aload_n hF dX4_takeBack_1 2 rfl rfl ?_
  refine g_get hF fl_X4_18 dX4_takeBack_2 5 rfl (by intro H h; first | exact h.1.1 | exact h.1.2.1) rfl ?_
  refine g_iload_n hF dX4_takeBack_5 6 rfl rfl ?_
  refine g_isub hF dX4_takeBack_6 7 rfl ?_
  refine g_bipush hF (20) dX4_takeBack_7 9 rfl rfl ?_
  refine g_callS hF cs_X4_29 (c_floorMod l E (nI p - nI n) 20 (fun H => Hq E a rv p k H ∧ Nq E c v H) (by decide)) dX4_takeBack_9 12 rfl (st := [_]) rfl rfl ⟨Nat.le_of_ble_eq_true rfl, Nat.le_of_ble_eq_true rfl⟩ ⟨Nat.le_of_ble_eq_true rfl, Nat.le_of_ble_eq_true rfl⟩ rfl (Nat.le_of_ble_eq_true rfl) (Pr' := _) (fun _ h => h) (fun q z => z.elim) (fun _ _ _ h _ => by exact h) (st1 := [_, _]) rfl (k1 := 0) (n1 := 0) rfl rfl ?_
  rw [fmod20 p hp n (by omega)]
  refine g_put hF pl_X4_18 dX4_takeBack_12 15 rfl (by intro H h; first | exact h.1.1 | exact h.1.2.1) (Nat.le_of_ble_eq_true rfl) rfl rfl (hA _ (Or.inl ⟨by omega, by omega⟩)) (Pr' := fun H => Hq E a rv ((p + 20 - n) % 20) k H ∧ Nq E c v H) (fun H H' h h1 h2 => by exact ⟨h.1.wo h1 h2, kc h.2 h2⟩) ?_
  refine g_aload_n hF dX4_takeBack_15 16 rfl rfl ?_
  refine g_dup hF dX4_takeBack_16 17 rfl rfl ?_
  refine g_get hF fl_X4_26 dX4_takeBack_17 20 rfl (by intro H h; first | exact h.1.1 | exact h.1.2.1) rfl ?_
  refine g_iload_n hF dX4_takeBack_20 21 rfl rfl ?_
  refine g_isub hF dX4_takeBack_21 22 rfl ?_
  rw [pk_sub hn]
  refine g_put hF pl_X4_26 dX4_takeBack_22 25 rfl (by intro H h; first | exact h.1.1 | exact h.1.2.1) (Nat.le_of_ble_eq_true rfl) rfl rfl (hA _ (Or.inl ⟨by omega, by omega⟩)) (Pr' := fun H => Hq E a rv ((p + 20 - n) % 20) (k - n) H ∧ Nq E c v H) (fun H H' h h1 h2 => by exact ⟨h.1.wo h1 h2, kc h.2 h2⟩) ?_
  refine g_aload_n hF dX4_takeBack_25 26 rfl rfl ?_
  refine g_aload_n hF dX4_takeBack_26 27 rfl rfl ?_
  refine g_get hF fl_X4_11 dX4_takeBack_27 30 rfl (by intro H h; first | exact h.1.1 | exact h.1.2.1) rfl ?_
  refine g_aload_n hF dX4_takeBack_30 31 rfl rfl ?_
  refine g_get hF fl_X4_18 dX4_takeBack_31 34 rfl (by intro H h; first | exact h.1.1 | exact h.1.2.1) rfl ?_
  refine g_aald hF 4 dX4_takeBack_34 35 rfl rfl (by intro H h; first | exact h.1.1 | exact h.1.2.1) (vp_in_nI hp' (by omega)) (h_aa hp') ?_
  refine g_callV hF cv_X4_22 (c_N_copyQ l E c (a + 2 + 22 * ((p + 20 - n) % 20)) v (rv ((p + 20 - n) % 20)) (by omega)) dX4_takeBack_35 38 rfl (st := []) rfl rfl ⟨Nat.le_of_ble_eq_true rfl, Nat.le_of_ble_eq_true rfl⟩ ⟨Nat.le_of_ble_eq_true rfl, Nat.le_of_ble_eq_true rfl⟩ rfl (Nat.le_of_ble_eq_true rfl) 6 rfl (fun H h => by obtain ⟨fss, -, h2⟩ := h.2; exact h2.1) (Pr' := fun H => Hq E a rv ((p + 20 - n) % 20) (k - n) H ∧ Nq E c (rv ((p + 20 - n) % 20)) H) (fun H h => ⟨h.2, h.1.2.2 _ hp'⟩) (fun q hq => hA q (Or.inr hq)) (fun H H' h h1 h2 => by exact ⟨h.1.out h2 (fun q z y => by have := z.1; have := z.2; have := y.1; have := y.2; omega), h1.1⟩) (st1 := []) rfl (k1 := 0) (n1 := 0) rfl rfl ?_
  exact g_vret hF dX4_takeBack_38 (Nat.le_of_ble_eq_true rfl) (Nat.le_of_ble_eq_true rfl) (fun H h => hR _ _ ⟨rfl, h⟩)
/-! Image -/
def Iq (E : Ev) (a : Nat) (v : NV) (s : Nat) (b : Int32) (H : Heap) : Prop := ob E 5 a [.ref (a + 1), .int (nI s), .int b] H ∧ Nq E (a + 1) v H
theorem Iq.kept {E : Ev} {a : Nat} {v : NV} {s : Nat} {b : Int32} {H H' : Heap} (h : Iq E a v s b H) (hq : ∀ q, rg a 23 q → H'[q]? = H[q]?) : Iq E a v s b H' :=
  ⟨ob_kept h.1 (hq _ ⟨by omega, by omega⟩), h.2.kept (fun q z => hq q ⟨by have := z.1; omega, by have := z.2; omega⟩)⟩
theorem Iq.le {E : Ev} {a : Nat} {v : NV} {s : Nat} {b : Int32} {H : Heap} (h : Iq E a v s b H) : a + 23 ≤ H.size := by
  have := h.2.le
  omega
theorem Iq.out {E : Ev} {a : Nat} {v : NV} {s : Nat} {b : Int32} {A : Nat → Prop} {H H' : Heap} (h : Iq E a v s b H) (ho : out A H H') (hA : ∀ q, rg a 23 q → ¬ A q) : Iq E a v s b H' :=
  h.kept (fun q hq => ho.2 q (Nat.lt_of_lt_of_le hq.2 h.le) (hA q hq))
set_option maxRecDepth 100000 in
set_option maxHeartbeats 8000000 in
theorem c_I_take (l : Launch) (E : Ev) (a c d : Nat) (v w : NV) (s t : Nat) (b : Int32) (hd : c + 22 ≤ a ∨ a + 23 ≤ c) (hdd : d < a ∨ a + 23 ≤ d) : Ct l E yX5_take cX5_take 3 none (rm 4) [.ref a, .ref c, .ref d] (fun H => Iq E a v s b H ∧ Nq E c w H ∧ Dp E d t H) (rV none (fun H => Iq E a w t 1 H ∧ Nq E c w H ∧ Dp E d t H)) (rg a 23) := by
  refine ct_start (by decide) [some (.ref a), some (.ref c), some (.ref d)] rfl (Nat.le_of_ble_eq_true rfl) ?_
  intro x hF hN hA hR
  have kc : ∀ {H H' : Heap}, Nq E c w H → but a H H' → Nq E c w H' := fun {H H'} h1 h2 => h1.but h2 (fun z => by have := z.1; have := z.2; omega)
  have kd : ∀ {H H' : Heap}, Dp E d t H → but a H H' → Dp E d t H' := fun {H H'} h1 h2 => ob_kept h1 (h2.2 _ (by omega))
  refine g_aload_n hF dX5_take_0 1 rfl rfl ?_
  refine g_get hF fl_X5_10 dX5_take_1 4 rfl (by intro H h; first | exact h.1.1 | exact h.2.1 | exact h.2.2) rfl ?_
  refine g_aload_n hF dX5_take_4 5 rfl rfl ?_
  refine g_callV hF cv_X5_16 (c_N_copyQ l E (a + 1) c v w (by omega)) dX5_take_5 8 rfl (st := []) rfl rfl ⟨Nat.le_of_ble_eq_true rfl, Nat.le_of_ble_eq_true rfl⟩ ⟨Nat.le_of_ble_eq_true rfl, Nat.le_of_ble_eq_true rfl⟩ rfl (Nat.le_of_ble_eq_true rfl) 6 rfl (fun H h => by obtain ⟨fss, -, h2⟩ := h.1.2; exact h2.1) (Pr' := fun H => Iq E a w s b H ∧ Nq E c w H ∧ Dp E d t H) (fun H h => ⟨h.1.2, h.2.1⟩) (fun q hq => hA q ⟨by have := hq.1; omega, by have := hq.2; omega⟩) (fun H H' h h1 h2 => by exact ⟨⟨ob_kept h.1.1 (out_at h2 h.1.1 (fun z => by have := z.1; dsimp only at this; omega)), h1.1⟩, h1.2, ob_kept h.2.2 (out_at h2 h.2.2 (fun z => by have h3 : a + 1 ≤ d := z.1; have h4 : d < a + 1 + 22 := z.2; omega))⟩) (st1 := []) rfl (k1 := 0) (n1 := 0) rfl rfl ?_
  refine g_aload_n hF dX5_take_8 9 rfl rfl ?_
  refine g_aload_n hF dX5_take_9 10 rfl rfl ?_
  refine g_get hF fl_X5_20 dX5_take_10 13 rfl (by intro H h; first | exact h.1.1 | exact h.2.1 | exact h.2.2) rfl ?_
  refine g_put hF pl_X5_26 dX5_take_13 16 rfl (by intro H h; first | exact h.1.1 | exact h.2.1 | exact h.2.2) (Nat.le_of_ble_eq_true rfl) rfl rfl (hA _ ⟨by omega, by omega⟩) (Pr' := fun H => Iq E a w t b H ∧ Nq E c w H ∧ Dp E d t H) (fun H H' h h1 h2 => by exact ⟨⟨h1, h.1.2.but h2 (fun z => by have := z.1; omega)⟩, kc h.2.1 h2, kd h.2.2 h2⟩) ?_
  refine g_aload_n hF dX5_take_16 17 rfl rfl ?_
  refine g_iconst hF (1) dX5_take_17 18 rfl rfl ?_
  refine g_put hF pl_X5_29 dX5_take_18 21 rfl (by intro H h; first | exact h.1.1 | exact h.2.1 | exact h.2.2) (Nat.le_of_ble_eq_true rfl) rfl rfl (hA _ ⟨by omega, by omega⟩) (Pr' := fun H => Iq E a w t 1 H ∧ Nq E c w H ∧ Dp E d t H) (fun H H' h h1 h2 => by exact ⟨⟨h1, h.1.2.but h2 (fun z => by have := z.1; omega)⟩, kc h.2.1 h2, kd h.2.2 h2⟩) ?_
  exact g_vret hF dX5_take_21 (Nat.le_of_ble_eq_true rfl) (Nat.le_of_ble_eq_true rfl) (fun H h => hR _ _ ⟨rfl, h⟩)
set_option maxRecDepth 100000 in
set_option maxHeartbeats 8000000 in
theorem c_I_give (l : Launch) (E : Ev) (a c d : Nat) (v w : NV) (s t : Nat) (b : Int32) (hd : c + 22 ≤ a ∨ a + 23 ≤ c) (hdd : d < a ∨ a + 23 ≤ d) (hdc : ¬ rg c 22 d) : Ct l E yX5_give cX5_give 3 none (rm 4) [.ref a, .ref c, .ref d] (fun H => Iq E a v s b H ∧ Nq E c w H ∧ Dp E d t H) (rV none (fun H => Iq E a v s b H ∧ Nq E c v H ∧ Dp E d s H)) (fun q => rg c 22 q ∨ q = d) := by
  refine ct_start (by decide) [some (.ref a), some (.ref c), some (.ref d)] rfl (Nat.le_of_ble_eq_true rfl) ?_
  intro x hF hN hA hR
  refine g_aload_n hF dX5_give_0 1 rfl rfl ?_
  refine g_aload_n hF dX5_give_1 2 rfl rfl ?_
  refine g_get hF fl_X5_10 dX5_give_2 5 rfl (by intro H h; first | exact h.1.1 | exact h.2.1 | exact h.2.2) rfl ?_
  refine g_callV hF cv_X5_16 (c_N_copyQ l E c (a + 1) w v (by omega)) dX5_give_5 8 rfl (st := []) rfl rfl ⟨Nat.le_of_ble_eq_true rfl, Nat.le_of_ble_eq_true rfl⟩ ⟨Nat.le_of_ble_eq_true rfl, Nat.le_of_ble_eq_true rfl⟩ rfl (Nat.le_of_ble_eq_true rfl) 6 rfl (fun H h => by obtain ⟨fss, -, h2⟩ := h.2.1; exact h2.1) (Pr' := fun H => Iq E a v s b H ∧ Nq E c v H ∧ Dp E d t H) (fun H h => ⟨h.2.1, h.1.2⟩) (fun q hq => hA q (Or.inl hq)) (fun H H' h h1 h2 => by exact ⟨h.1.out h2 (fun q z y => by have := z.1; have := z.2; have := y.1; have := y.2; omega), h1.1, ob_kept h.2.2 (out_at h2 h.2.2 hdc)⟩) (st1 := []) rfl (k1 := 0) (n1 := 0) rfl rfl ?_
  refine g_aload_n hF dX5_give_8 9 rfl rfl ?_
  refine g_aload_n hF dX5_give_9 10 rfl rfl ?_
  refine g_get hF fl_X5_26 dX5_give_10 13 rfl (by intro H h; first | exact h.1.1 | exact h.2.1 | exact h.2.2) rfl ?_
  refine g_put hF pl_X5_20 dX5_give_13 16 rfl (by intro H h; first | exact h.1.1 | exact h.2.1 | exact h.2.2) (Nat.le_of_ble_eq_true rfl) rfl rfl (hA _ (Or.inr rfl)) (Pr' := fun H => Iq E a v s b H ∧ Nq E c v H ∧ Dp E d s H) (fun H H' h h1 h2 => by exact ⟨h.1.kept (fun q z => h2.2 q (fun e => by have := z.1; have := z.2; omega)), h.2.1.but h2 hdc, h1⟩) ?_
  exact g_vret hF dX5_give_16 (Nat.le_of_ble_eq_true rfl) (Nat.le_of_ble_eq_true rfl) (fun H h => hR _ _ ⟨rfl, h⟩)
end
section
/-! Weights: the numbers of the long run; Math -/
theorem lc_eq {x y : Int64} : lg_cmp x y = 0 ↔ x = y := lg_cmp_eq x y
theorem lc_gt {x y : Int64} : 0 < lg_cmp x y ↔ y < x := lg_cmp_gt x y
theorem lc_le {x y : Int64} : lg_cmp x y ≤ 0 ↔ ¬ y < x := by rw [lg_cmp_le, Int64.not_lt]
theorem lc_lt {x y : Int64} : lg_cmp x y < 0 ↔ x < y := lg_cmp_lt x y
theorem lc_ge {x y : Int64} : 0 ≤ lg_cmp x y ↔ ¬ x < y := by rw [lg_cmp_ge, Int64.not_lt]
set_option maxRecDepth 100000 in
set_option maxHeartbeats 8000000 in
theorem c_max (l : Launch) (E : Ev) (x y : Int32) (P : Heap → Prop) : Ct l E yJ9_max_7cf53 cJ9_max_7cf53 2 (some .int) (rm 1) [.int x, .int y] P (rV (some (.int (if x < y then y else x))) P) (fun _ => False) := by
  refine ct_startF (by decide +kernel) [some (.int x), some (.int y)] rfl (Nat.le_of_ble_eq_true rfl) ?_
  intro z hF hN hA hR
  refine g_iload_n hF dJ9_max_7cf53_0 1 rfl rfl ?_
  refine g_iload_n hF dJ9_max_7cf53_1 2 rfl rfl ?_
  refine g_icmp_lt hF dJ9_max_7cf53_2 5 rfl 9 (by decide) (fun c2 => ?_) (fun c2 => ?_)
  · refine g_iload_n hF dJ9_max_7cf53_9 10 rfl rfl ?_
    exact g_iret hF dJ9_max_7cf53_10 (Nat.le_of_ble_eq_true rfl) (Nat.le_of_ble_eq_true rfl) (fun H h => hR _ _ ⟨congrArg (fun z => some (Value.int z)) ((if_pos c2).symm), h⟩)
  · refine g_iload_n hF dJ9_max_7cf53_5 6 rfl rfl ?_
    refine g_goto hF dJ9_max_7cf53_6 10 (by decide) ?_
    exact g_iret hF dJ9_max_7cf53_10 (Nat.le_of_ble_eq_true rfl) (Nat.le_of_ble_eq_true rfl) (fun H h => hR _ _ ⟨congrArg (fun z => some (Value.int z)) ((if_neg c2).symm), h⟩)
set_option maxRecDepth 100000 in
set_option maxHeartbeats 8000000 in
theorem c_min (l : Launch) (E : Ev) (x y : Int32) (P : Heap → Prop) : Ct l E yJ9_min_7cf53 cJ9_min_7cf53 2 (some .int) (rm 1) [.int x, .int y] P (rV (some (.int (if y < x then y else x))) P) (fun _ => False) := by
  refine ct_startF (by decide +kernel) [some (.int x), some (.int y)] rfl (Nat.le_of_ble_eq_true rfl) ?_
  intro z hF hN hA hR
  refine g_iload_n hF dJ9_min_7cf53_0 1 rfl rfl ?_
  refine g_iload_n hF dJ9_min_7cf53_1 2 rfl rfl ?_
  refine g_icmp_gt hF dJ9_min_7cf53_2 5 rfl 9 (by decide) (fun c2 => ?_) (fun c2 => ?_)
  · refine g_iload_n hF dJ9_min_7cf53_9 10 rfl rfl ?_
    exact g_iret hF dJ9_min_7cf53_10 (Nat.le_of_ble_eq_true rfl) (Nat.le_of_ble_eq_true rfl) (fun H h => hR _ _ ⟨congrArg (fun z => some (Value.int z)) ((if_pos c2).symm), h⟩)
  · refine g_iload_n hF dJ9_min_7cf53_5 6 rfl rfl ?_
    refine g_goto hF dJ9_min_7cf53_6 10 (by decide) ?_
    exact g_iret hF dJ9_min_7cf53_10 (Nat.le_of_ble_eq_true rfl) (Nat.le_of_ble_eq_true rfl) (fun H h => hR _ _ ⟨congrArg (fun z => some (Value.int z)) ((if_neg c2).symm), h⟩)
set_option maxRecDepth 100000 in
set_option maxHeartbeats 8000000 in
theorem c_maxL (l : Launch) (E : Ev) (x y : Int64) (P : Heap → Prop) : Ct l E yJ9_max_f86c9 cJ9_max_f86c9 4 (some .long) (rm 1) [.long x, .long y] P (rV (some (.long (if x < y then y else x))) P) (fun _ => False) := by
  refine ct_startF (by decide +kernel) [some (.long x), none, some (.long y), none] rfl (Nat.le_of_ble_eq_true rfl) ?_
  intro z hF hN hA hR
  refine g_lload_n hF dJ9_max_f86c9_0 1 rfl rfl ?_
  refine g_lload_n hF dJ9_max_f86c9_1 2 rfl rfl ?_
  refine g_lcmp hF dJ9_max_f86c9_2 3 rfl ?_
  refine g_if_lt hF dJ9_max_f86c9_3 6 rfl 10 (by decide) (fun c3 => ?_) (fun c3 => ?_)
  · refine g_lload_n hF dJ9_max_f86c9_10 11 rfl rfl ?_
    exact g_lret hF dJ9_max_f86c9_11 (Nat.le_of_ble_eq_true rfl) (Nat.le_of_ble_eq_true rfl) (fun H h => hR _ _ ⟨congrArg (fun z => some (Value.long z)) ((if_pos (lc_lt.mp c3)).symm), h⟩)
  · refine g_lload_n hF dJ9_max_f86c9_6 7 rfl rfl ?_
    refine g_goto hF dJ9_max_f86c9_7 11 (by decide) ?_
    exact g_lret hF dJ9_max_f86c9_11 (Nat.le_of_ble_eq_true rfl) (Nat.le_of_ble_eq_true rfl) (fun H h => hR _ _ ⟨congrArg (fun z => some (Value.long z)) ((if_neg (fun q => c3 (lc_lt.mpr q))).symm), h⟩)
def ab64 (x : Int64) : Int64 := if x < 0 then -x else x
set_option maxRecDepth 100000 in
set_option maxHeartbeats 8000000 in
theorem c_absL (l : Launch) (E : Ev) (x : Int64) (P : Heap → Prop) : Ct l E yJ9_abs_067f4 cJ9_abs_067f4 2 (some .long) (rm 1) [.long x] P (rV (some (.long (ab64 x))) P) (fun _ => False) := by
  refine ct_startF (by decide +kernel) [some (.long x), none] rfl (Nat.le_of_ble_eq_true rfl) ?_
  intro z hF hN hA hR
  refine g_lload_n hF dJ9_abs_067f4_0 1 rfl rfl ?_
  refine g_lconst hF (0) dJ9_abs_067f4_1 2 rfl rfl ?_
  refine g_lcmp hF dJ9_abs_067f4_2 3 rfl ?_
  refine g_if_ge hF dJ9_abs_067f4_3 6 rfl 11 (by decide) (fun c3 => ?_) (fun c3 => ?_)
  · refine g_lload_n hF dJ9_abs_067f4_11 12 rfl rfl ?_
    exact g_lret hF dJ9_abs_067f4_12 (Nat.le_of_ble_eq_true rfl) (Nat.le_of_ble_eq_true rfl) (fun H h => hR _ _ ⟨congrArg (fun z => some (Value.long z)) ((if_neg (lc_ge.mp c3)).symm), h⟩)
  · refine g_lload_n hF dJ9_abs_067f4_6 7 rfl rfl ?_
    refine g_lneg hF dJ9_abs_067f4_7 8 rfl ?_
    refine g_goto hF dJ9_abs_067f4_8 12 (by decide) ?_
    exact g_lret hF dJ9_abs_067f4_12 (Nat.le_of_ble_eq_true rfl) (Nat.le_of_ble_eq_true rfl) (fun H h => hR _ _ ⟨congrArg (fun z => some (Value.long z)) ((if_pos (Classical.byContradiction fun q => c3 (lc_ge.mpr q))).symm), h⟩)
/-! the weights -/
def cm (parts N A R B k : Nat) : Nat := parts * A + if R < N - k then B else 0
def wt (first parts N A R B : Nat) : Nat → Nat
  | 0 => first
  | k + 1 => wt first parts N A R B k * cm parts N A R B k / (parts * (k + 1))
theorem wt_le {first parts N A R B : Nat} (hp : 1 ≤ parts) (hA : A ≤ 6) (hB : B ≤ 18 * parts) : ∀ k, wt first parts N A R B k ≤ first * 24 ^ k
  | 0 => by simp [wt]
  | k + 1 => by
    have ih := wt_le (first := first) (N := N) (R := R) hp hA hB k
    have hc : cm parts N A R B k ≤ parts * 24 := by
      unfold cm
      have : parts * A ≤ parts * 6 := Nat.mul_le_mul_left _ hA
      split <;> omega
    unfold wt
    calc wt first parts N A R B k * cm parts N A R B k / (parts * (k + 1))
        ≤ (first * 24 ^ k) * (parts * 24) / (parts * (k + 1)) := Nat.div_le_div_right (Nat.mul_le_mul ih hc)
      _ ≤ (first * 24 ^ k) * (parts * 24) / parts := Nat.div_le_div_left (Nat.le_mul_of_pos_right _ (by omega)) (by omega)
      _ = first * 24 ^ (k + 1) := by
        rw [show first * 24 ^ k * (parts * 24) = (first * 24 ^ (k + 1)) * parts by rw [Nat.pow_succ]; simp only [Nat.mul_assoc, Nat.mul_comm, Nat.mul_left_comm], Nat.mul_div_cancel _ (by omega)]
theorem wt_lt {first parts N A R B k : Nat} (hf : first ≤ 1000000) (hp : 1 ≤ parts) (hA : A ≤ 6) (hB : B ≤ 18 * parts) (hk : k ≤ 6) : wt first parts N A R B k ≤ 191102976000000 := by
  have h1 := wt_le (first := first) (N := N) (R := R) hp hA hB k
  have h2 : 24 ^ k ≤ 24 ^ 6 := Nat.pow_le_pow_right (by omega) hk
  have h3 : first * 24 ^ k ≤ 1000000 * 24 ^ 6 := Nat.mul_le_mul hf h2
  have h4 : 1000000 * 24 ^ 6 = 191102976000000 := by decide
  omega
def Wp (E : Ev) (a : Nat) (wf : Nat → Int64) (x y : Int32) (H : Heap) : Prop := ob E 8 a [.ref (a + 1), .int x, .int y] H ∧ aj E (a + 1) 7 wf H
theorem aj_kept {E : Ev} {a n : Nat} {f : Nat → Int64} {H H' : Heap} (h : aj E a n f H) (hq : H'[a]? = H[a]?) : aj E a n f H' := va_at.kept h hq
theorem Wp.kept {E : Ev} {a : Nat} {wf : Nat → Int64} {x y : Int32} {H H' : Heap} (h : Wp E a wf x y H) (hq : ∀ q, rg a 2 q → H'[q]? = H[q]?) : Wp E a wf x y H' := ⟨ob_kept h.1 (hq _ ⟨by omega, by omega⟩), aj_kept h.2 (hq _ ⟨by omega, by omega⟩)⟩
theorem Wp.le {E : Ev} {a : Nat} {wf : Nat → Int64} {x y : Int32} {H : Heap} (h : Wp E a wf x y H) : a + 2 ≤ H.size := va_at.lt h.2
set_option maxRecDepth 100000 in
set_option maxHeartbeats 8000000 in
theorem c_W_takesOver (l : Launch) (E : Ev) (a : Nat) (wf : Nat → Int64) (N R j : Nat) (hN : N ≤ 6) (hR6 : R ≤ 6) (hj : j ≤ N) (r : Int32) (hr : r = if R < N - j then 1 else 0) : Ct l E yX8_takesOver cX8_takesOver 2 (some .boolean) (rm 1) [.ref a, .int (nI j)] (Wp E a wf (nI N) (nI R)) (rV (some (.int r)) (Wp E a wf (nI N) (nI R))) (fun _ => False) := by
  refine ct_start (by decide) [some (.ref a), some (.int (nI j))] rfl (Nat.le_of_ble_eq_true rfl) ?_
  intro x hF hN0 hA hR
  by_cases hc : R < N - j
  · rw [if_pos hc] at hr
    subst hr
    refine g_aload_n hF dX8_takesOver_0 1 rfl rfl ?_
    refine g_get hF fl_X8_28 dX8_takesOver_1 4 rfl (by intro H h; first | exact h.1 | exact h.2) rfl ?_
    refine g_iload_n hF dX8_takesOver_4 5 rfl rfl ?_
    refine g_isub hF dX8_takesOver_5 6 rfl ?_
    rw [pk_sub hj]
    refine g_aload_n hF dX8_takesOver_6 7 rfl rfl ?_
    refine g_get hF fl_X8_32 dX8_takesOver_7 10 rfl (by intro H h; first | exact h.1 | exact h.2) rfl ?_
    refine g_icmp_le hF dX8_takesOver_10 13 rfl 17 (by decide) (fun c => absurd c (fun z => absurd (i_le z (by omega) (by omega)) (by omega))) (fun _ => ?_)
    refine g_iconst hF (1) dX8_takesOver_13 14 rfl rfl ?_
    refine g_goto hF dX8_takesOver_14 18 (by decide) ?_
    exact g_zret hF (rfl) dX8_takesOver_18 (Nat.le_of_ble_eq_true rfl) (Nat.le_of_ble_eq_true rfl) (fun H h => hR _ _ ⟨congrArg (fun z => some (Value.int z)) (rfl), h⟩)
  · rw [if_neg hc] at hr
    subst hr
    refine g_aload_n hF dX8_takesOver_0 1 rfl rfl ?_
    refine g_get hF fl_X8_28 dX8_takesOver_1 4 rfl (by intro H h; first | exact h.1 | exact h.2) rfl ?_
    refine g_iload_n hF dX8_takesOver_4 5 rfl rfl ?_
    refine g_isub hF dX8_takesOver_5 6 rfl ?_
    rw [pk_sub hj]
    refine g_aload_n hF dX8_takesOver_6 7 rfl rfl ?_
    refine g_get hF fl_X8_32 dX8_takesOver_7 10 rfl (by intro H h; first | exact h.1 | exact h.2) rfl ?_
    refine g_icmp_le hF dX8_takesOver_10 13 rfl 17 (by decide) (fun _ => ?_) (fun c => absurd (nI_le (by omega) (by omega)) c)
    refine g_iconst hF (0) dX8_takesOver_17 18 rfl rfl ?_
    exact g_zret hF (rfl) dX8_takesOver_18 (Nat.le_of_ble_eq_true rfl) (Nat.le_of_ble_eq_true rfl) (fun H h => hR _ _ ⟨congrArg (fun z => some (Value.int z)) (rfl), h⟩)
set_option maxRecDepth 100000 in
set_option maxHeartbeats 8000000 in
theorem c_W_weigh (l : Launch) (E : Ev) (a first parts N A R B : Nat) (wf0 : Nat → Int64) (x0 y0 : Int32) (hf : first ≤ 1000000) (hp : 1 ≤ parts) (hp2 : parts ≤ 1000) (hN : N ≤ 6) (hA6 : A ≤ 6) (hR6 : R ≤ 6) (hB : B ≤ 18 * parts) : Ct l E yX8_weigh cX8_weigh 13 none (rm 2) [.ref a, .long (lN first), .int (nI parts), .int (nI N), .int (nI A), .int (nI R), .int (nI B)] (Wp E a wf0 x0 y0) (rV none (fun H => ∃ wf, (∀ k, k ≤ N → wf k = lN (wt first parts N A R B k)) ∧ Wp E a wf (nI N) (nI R) H)) (rg a 2) := by
  refine ct_start (by decide) [some (.ref a), some (.long (lN first)), none, some (.int (nI parts)), some (.int (nI N)), some (.int (nI A)), some (.int (nI R)), some (.int (nI B)), none, none, none, none, none] rfl (Nat.le_of_ble_eq_true rfl) ?_
  intro x hF hN0 hA hR
  have i2 : ∀ {n : Nat}, n < 2 ^ 31 → (nI n).toInt64 = lN n := fun h => nI_l h
  have loop : ∀ (n j : Nat) (i : Int32) (wf : Nat → Int64), N - j < n → j ≤ N → i = nI j → (∀ k, k ≤ j → wf k = lN (wt first parts N A R B k)) → go l (rm 2) E x 0 0 (Wp E a wf (nI N) (nI R)) [some (.ref a), some (.long (lN first)), none, some (.int (nI parts)), some (.int (nI N)), some (.int (nI A)), some (.int (nI R)), some (.int (nI B)), some (.int i), none, none, none, none] 31 [] := by
    intro n
    induction n with
    | zero => intro j i wf h; omega
    | succ n ih =>
      intro j i wf hn0 hj hi hw
      subst hi
      have hcl : (nI j).toNatClampNeg = j := nI_clamp (by omega)
      have hcl1 : (nI (j + 1)).toNatClampNeg = j + 1 := nI_clamp (by omega)
      have hpk : parts * (j + 1) ≤ 7000 := Nat.le_trans (Nat.mul_le_mul hp2 (show j + 1 ≤ 7 by omega)) (by decide)
      have hpk1 : 1 ≤ parts * (j + 1) := Nat.mul_pos hp (by omega)
      have hc24 : cm parts N A R B j ≤ parts * 24 := by
        unfold cm
        have : parts * A ≤ parts * 6 := Nat.mul_le_mul_left _ hA6
        split <;> omega
      have hwj := wt_lt (N := N) (R := R) (k := j) hf hp hA6 hB (by omega)
      have hmul : wt first parts N A R B j * cm parts N A R B j < 2 ^ 63 := by
        have h1 : wt first parts N A R B j * cm parts N A R B j ≤ 191102976000000 * 24000 := Nat.mul_le_mul hwj (by omega)
        have h2 : 191102976000000 * 24000 < 2 ^ 63 := by decide
        omega
      have emax : (if lN 1 < lN (parts * (j + 1)) then lN (parts * (j + 1)) else lN 1) = lN (parts * (j + 1)) := by
        by_cases q : 1 < parts * (j + 1)
        · rw [if_pos ((pk_lLT (by omega) (by omega)).mpr q)]
        · rw [if_neg (fun z => q ((pk_lLT (by omega) (by omega)).mp z)), show parts * (j + 1) = 1 by omega]
      have e1 : (1 : Int64) = lN 1 := by decide
      have hwd : ∀ k, k ≤ j + 1 → vp_updL wf (j + 1) (lN (wt first parts N A R B j * cm parts N A R B j / (parts * (j + 1)))) k = lN (wt first parts N A R B k) := fun k hk => by
        by_cases e : k = j + 1
        · subst e; rw [pk_uLs]; rfl
        · rw [pk_uLn e]; exact hw k (by omega)
      by_cases hto : R < N - j
      · have ecm : parts * A + B = cm parts N A R B j := by unfold cm; rw [if_pos hto]
        refine g_iload hF dX8_weigh_31 33 rfl rfl ?_
        refine g_aload_n hF dX8_weigh_33 34 rfl rfl ?_
        refine g_get hF fl_X8_28 dX8_weigh_34 37 rfl (by intro H h; first | exact h.1 | exact h.2) rfl ?_
        refine g_icmp_ge hF dX8_weigh_37 40 rfl 107 (by decide) (fun c37 => ?_) (fun c37 => ?_)
        · exact g_vret hF dX8_weigh_107 (Nat.le_of_ble_eq_true rfl) (Nat.le_of_ble_eq_true rfl) (fun H h => hR _ _ ⟨rfl, ⟨wf, fun k hk => hw k (by have := i_le c37 (by omega) (by omega); omega), h⟩⟩)
        · have hlt : j < N := i_nle c37 (by omega) (by omega)
          refine g_iload_n hF dX8_weigh_40 41 rfl rfl ?_
          refine g_i2l hF dX8_weigh_41 42 rfl ?_
          rw [i2 (by omega)]
          refine g_iload hF dX8_weigh_42 44 rfl rfl ?_
          refine g_i2l hF dX8_weigh_44 45 rfl ?_
          rw [i2 (by omega)]
          refine g_lmul hF dX8_weigh_45 46 rfl ?_
          rw [lN_mul]
          refine g_aload_n hF dX8_weigh_46 47 rfl rfl ?_
          refine g_iload hF dX8_weigh_47 49 rfl rfl ?_
          refine g_callV hF cv_X8_35 (c_W_takesOver l E a wf N R j hN hR6 (by omega) 1 (if_pos hto).symm) dX8_weigh_49 52 rfl (st := [_]) rfl rfl ⟨Nat.le_of_ble_eq_true rfl, Nat.le_of_ble_eq_true rfl⟩ ⟨Nat.le_of_ble_eq_true rfl, Nat.le_of_ble_eq_true rfl⟩ rfl (Nat.le_of_ble_eq_true rfl) 8 rfl (by intro H h; first | exact h.1 | exact h.2) (Pr' := _) (fun _ h => h) (fun q z => z.elim) (fun _ _ _ h _ => by exact h) (st1 := [_, _]) rfl (k1 := 0) (n1 := 0) rfl rfl ?_
          refine g_if_eq hF dX8_weigh_52 55 rfl 60 (by decide) (fun c => absurd c ((by decide))) (fun _ => ?_)
          refine g_iload hF dX8_weigh_55 57 rfl rfl ?_
          refine g_goto hF dX8_weigh_57 61 (by decide) ?_
          refine g_i2l hF dX8_weigh_61 62 rfl ?_
          rw [i2 (by omega)]
          refine g_ladd hF dX8_weigh_62 63 rfl ?_
          rw [lN_add, ecm]
          refine g_lstore hF dX8_weigh_63 65 rfl (lo' := [_, _, _, _, _, _, _, _, _, _, _, _, _]) (Nat.le_of_ble_eq_true rfl) rfl ?_
          refine g_lconst hF (1) dX8_weigh_65 66 rfl rfl ?_
          rw [e1]
          refine g_iload_n hF dX8_weigh_66 67 rfl rfl ?_
          refine g_i2l hF dX8_weigh_67 68 rfl ?_
          rw [i2 (by omega)]
          refine g_iload hF dX8_weigh_68 70 rfl rfl ?_
          refine g_iconst hF (1) dX8_weigh_70 71 rfl rfl ?_
          refine g_iadd hF dX8_weigh_71 72 rfl ?_
          rw [nI_1]
          refine g_i2l hF dX8_weigh_72 73 rfl ?_
          rw [i2 (by omega)]
          refine g_lmul hF dX8_weigh_73 74 rfl ?_
          rw [lN_mul]
          refine g_callS hF cs_X8_39 (c_maxL l E (lN 1) (lN (parts * (j + 1))) (Wp E a wf (nI N) (nI R))) dX8_weigh_74 77 rfl (st := []) rfl rfl ⟨Nat.le_of_ble_eq_true rfl, Nat.le_of_ble_eq_true rfl⟩ ⟨Nat.le_of_ble_eq_true rfl, Nat.le_of_ble_eq_true rfl⟩ rfl (Nat.le_of_ble_eq_true rfl) (Pr' := _) (fun _ h => h) (fun q z => z.elim) (fun _ _ _ h _ => by exact h) (st1 := [_]) rfl (k1 := 0) (n1 := 0) rfl rfl ?_
          rw [emax]
          refine g_lstore hF dX8_weigh_77 79 rfl (lo' := [_, _, _, _, _, _, _, _, _, _, _, _, _]) (Nat.le_of_ble_eq_true rfl) rfl ?_
          refine g_aload_n hF dX8_weigh_79 80 rfl rfl ?_
          refine g_get hF fl_X8_9 dX8_weigh_80 83 rfl (by intro H h; first | exact h.1 | exact h.2) rfl ?_
          refine g_iload hF dX8_weigh_83 85 rfl rfl ?_
          refine g_iconst hF (1) dX8_weigh_85 86 rfl rfl ?_
          refine g_iadd hF dX8_weigh_86 87 rfl ?_
          rw [nI_1]
          refine g_aload_n hF dX8_weigh_87 88 rfl rfl ?_
          refine g_get hF fl_X8_9 dX8_weigh_88 91 rfl (by intro H h; first | exact h.1 | exact h.2) rfl ?_
          refine g_iload hF dX8_weigh_91 93 rfl rfl ?_
          refine g_lald hF dX8_weigh_93 94 rfl (by intro H h; first | exact h.1 | exact h.2) (vp_in_nI (show j < 7 by omega) (by omega)) ?_
          rw [hcl, hw j (by omega)]
          refine g_lload hF dX8_weigh_94 96 rfl rfl ?_
          refine g_lmul hF dX8_weigh_96 97 rfl ?_
          rw [lN_mul]
          refine g_lload hF dX8_weigh_97 99 rfl rfl ?_
          refine g_ldiv hF dX8_weigh_99 100 rfl (fun z => absurd ((pk_lEQ (a := parts * (j + 1)) (b := 0) (by omega) (by omega)).mp z) (by omega)) ?_
          rw [pk_lDiv hmul (by omega) (by omega)]
          refine g_last hF dX8_weigh_100 101 rfl (by intro H h; first | exact h.1 | exact h.2) (vp_in_nI (show j + 1 < 7 by omega) (by omega)) (hA _ ⟨by omega, by omega⟩) (Pr' := Wp E a (vp_updL wf (j + 1) (lN (wt first parts N A R B j * cm parts N A R B j / (parts * (j + 1))))) (nI N) (nI R)) (fun H H' h h1 h2 => by rw [hcl1] at h1; exact ⟨ob_kept h.1 (h2.2 _ (by omega)), h1⟩) ?_
          refine g_iinc hF dX8_weigh_101 104 rfl (1) rfl (lo' := [_, _, _, _, _, _, _, _, _, _, _, _, _]) rfl rfl ?_
          refine g_goto hF dX8_weigh_104 31 (by decide) ?_
          refine g_cut [true, true, true, true, true, true, true, true, true, false, false, false, false] (lo' := [_, _, _, _, _, _, _, _, _, _, _, _, _]) rfl ?_
          exact ih (j + 1) _ _ (by omega) (by omega) (nI_succ j).symm hwd
      · have ecm : parts * A + 0 = cm parts N A R B j := by unfold cm; rw [if_neg hto]
        have e0 : (0 : Int32).toInt64 = lN 0 := by decide
        refine g_iload hF dX8_weigh_31 33 rfl rfl ?_
        refine g_aload_n hF dX8_weigh_33 34 rfl rfl ?_
        refine g_get hF fl_X8_28 dX8_weigh_34 37 rfl (by intro H h; first | exact h.1 | exact h.2) rfl ?_
        refine g_icmp_ge hF dX8_weigh_37 40 rfl 107 (by decide) (fun c37 => ?_) (fun c37 => ?_)
        · exact g_vret hF dX8_weigh_107 (Nat.le_of_ble_eq_true rfl) (Nat.le_of_ble_eq_true rfl) (fun H h => hR _ _ ⟨rfl, ⟨wf, fun k hk => hw k (by have := i_le c37 (by omega) (by omega); omega), h⟩⟩)
        · have hlt : j < N := i_nle c37 (by omega) (by omega)
          refine g_iload_n hF dX8_weigh_40 41 rfl rfl ?_
          refine g_i2l hF dX8_weigh_41 42 rfl ?_
          rw [i2 (by omega)]
          refine g_iload hF dX8_weigh_42 44 rfl rfl ?_
          refine g_i2l hF dX8_weigh_44 45 rfl ?_
          rw [i2 (by omega)]
          refine g_lmul hF dX8_weigh_45 46 rfl ?_
          rw [lN_mul]
          refine g_aload_n hF dX8_weigh_46 47 rfl rfl ?_
          refine g_iload hF dX8_weigh_47 49 rfl rfl ?_
          refine g_callV hF cv_X8_35 (c_W_takesOver l E a wf N R j hN hR6 (by omega) 0 (if_neg hto).symm) dX8_weigh_49 52 rfl (st := [_]) rfl rfl ⟨Nat.le_of_ble_eq_true rfl, Nat.le_of_ble_eq_true rfl⟩ ⟨Nat.le_of_ble_eq_true rfl, Nat.le_of_ble_eq_true rfl⟩ rfl (Nat.le_of_ble_eq_true rfl) 8 rfl (by intro H h; first | exact h.1 | exact h.2) (Pr' := _) (fun _ h => h) (fun q z => z.elim) (fun _ _ _ h _ => by exact h) (st1 := [_, _]) rfl (k1 := 0) (n1 := 0) rfl rfl ?_
          refine g_if_eq hF dX8_weigh_52 55 rfl 60 (by decide) (fun _ => ?_) (fun c => absurd (rfl) c)
          refine g_iconst hF (0) dX8_weigh_60 61 rfl rfl ?_
          refine g_i2l hF dX8_weigh_61 62 rfl ?_
          rw [e0]
          refine g_ladd hF dX8_weigh_62 63 rfl ?_
          rw [lN_add, ecm]
          refine g_lstore hF dX8_weigh_63 65 rfl (lo' := [_, _, _, _, _, _, _, _, _, _, _, _, _]) (Nat.le_of_ble_eq_true rfl) rfl ?_
          refine g_lconst hF (1) dX8_weigh_65 66 rfl rfl ?_
          rw [e1]
          refine g_iload_n hF dX8_weigh_66 67 rfl rfl ?_
          refine g_i2l hF dX8_weigh_67 68 rfl ?_
          rw [i2 (by omega)]
          refine g_iload hF dX8_weigh_68 70 rfl rfl ?_
          refine g_iconst hF (1) dX8_weigh_70 71 rfl rfl ?_
          refine g_iadd hF dX8_weigh_71 72 rfl ?_
          rw [nI_1]
          refine g_i2l hF dX8_weigh_72 73 rfl ?_
          rw [i2 (by omega)]
          refine g_lmul hF dX8_weigh_73 74 rfl ?_
          rw [lN_mul]
          refine g_callS hF cs_X8_39 (c_maxL l E (lN 1) (lN (parts * (j + 1))) (Wp E a wf (nI N) (nI R))) dX8_weigh_74 77 rfl (st := []) rfl rfl ⟨Nat.le_of_ble_eq_true rfl, Nat.le_of_ble_eq_true rfl⟩ ⟨Nat.le_of_ble_eq_true rfl, Nat.le_of_ble_eq_true rfl⟩ rfl (Nat.le_of_ble_eq_true rfl) (Pr' := _) (fun _ h => h) (fun q z => z.elim) (fun _ _ _ h _ => by exact h) (st1 := [_]) rfl (k1 := 0) (n1 := 0) rfl rfl ?_
          rw [emax]
          refine g_lstore hF dX8_weigh_77 79 rfl (lo' := [_, _, _, _, _, _, _, _, _, _, _, _, _]) (Nat.le_of_ble_eq_true rfl) rfl ?_
          refine g_aload_n hF dX8_weigh_79 80 rfl rfl ?_
          refine g_get hF fl_X8_9 dX8_weigh_80 83 rfl (by intro H h; first | exact h.1 | exact h.2) rfl ?_
          refine g_iload hF dX8_weigh_83 85 rfl rfl ?_
          refine g_iconst hF (1) dX8_weigh_85 86 rfl rfl ?_
          refine g_iadd hF dX8_weigh_86 87 rfl ?_
          rw [nI_1]
          refine g_aload_n hF dX8_weigh_87 88 rfl rfl ?_
          refine g_get hF fl_X8_9 dX8_weigh_88 91 rfl (by intro H h; first | exact h.1 | exact h.2) rfl ?_
          refine g_iload hF dX8_weigh_91 93 rfl rfl ?_
          refine g_lald hF dX8_weigh_93 94 rfl (by intro H h; first | exact h.1 | exact h.2) (vp_in_nI (show j < 7 by omega) (by omega)) ?_
          rw [hcl, hw j (by omega)]
          refine g_lload hF dX8_weigh_94 96 rfl rfl ?_
          refine g_lmul hF dX8_weigh_96 97 rfl ?_
          rw [lN_mul]
          refine g_lload hF dX8_weigh_97 99 rfl rfl ?_
          refine g_ldiv hF dX8_weigh_99 100 rfl (fun z => absurd ((pk_lEQ (a := parts * (j + 1)) (b := 0) (by omega) (by omega)).mp z) (by omega)) ?_
          rw [pk_lDiv hmul (by omega) (by omega)]
          refine g_last hF dX8_weigh_100 101 rfl (by intro H h; first | exact h.1 | exact h.2) (vp_in_nI (show j + 1 < 7 by omega) (by omega)) (hA _ ⟨by omega, by omega⟩) (Pr' := Wp E a (vp_updL wf (j + 1) (lN (wt first parts N A R B j * cm parts N A R B j / (parts * (j + 1))))) (nI N) (nI R)) (fun H H' h h1 h2 => by rw [hcl1] at h1; exact ⟨ob_kept h.1 (h2.2 _ (by omega)), h1⟩) ?_
          refine g_iinc hF dX8_weigh_101 104 rfl (1) rfl (lo' := [_, _, _, _, _, _, _, _, _, _, _, _, _]) rfl rfl ?_
          refine g_goto hF dX8_weigh_104 31 (by decide) ?_
          refine g_cut [true, true, true, true, true, true, true, true, true, false, false, false, false] (lo' := [_, _, _, _, _, _, _, _, _, _, _, _, _]) rfl ?_
          exact ih (j + 1) _ _ (by omega) (by omega) (nI_succ j).symm hwd
  have emin : (if (6 : Int32) < nI N then (6 : Int32) else nI N) = nI N := if_neg (fun z => absurd (i_lt (a := 6) z (by omega) (by omega)) (by omega))
  have emx : (if (0 : Int32) < nI N then nI N else (0 : Int32)) = nI N := by
    rw [show (0 : Int32) = nI 0 from nI_0.symm]
    by_cases q : 0 < N
    · rw [if_pos ((nI_ltI (a := 0) (by omega) (by omega)).mpr q)]
    · rw [if_neg (fun z => q ((nI_ltI (a := 0) (by omega) (by omega)).mp z)), show N = 0 by omega]
  refine g_aload_n hF dX8_weigh_0 1 rfl rfl ?_
  refine g_iconst hF (0) dX8_weigh_1 2 rfl rfl ?_
  refine g_iload hF dX8_weigh_2 4 rfl rfl ?_
  refine g_bipush hF (6) dX8_weigh_4 6 rfl rfl ?_
  refine g_callS hF cs_X8_19 (c_min l E (nI N) 6 (Wp E a wf0 x0 y0)) dX8_weigh_6 9 rfl (st := [_, _]) rfl rfl ⟨Nat.le_of_ble_eq_true rfl, Nat.le_of_ble_eq_true rfl⟩ ⟨Nat.le_of_ble_eq_true rfl, Nat.le_of_ble_eq_true rfl⟩ rfl (Nat.le_of_ble_eq_true rfl) (Pr' := _) (fun _ h => h) (fun q z => z.elim) (fun _ _ _ h _ => by exact h) (st1 := [_, _, _]) rfl (k1 := 0) (n1 := 0) rfl rfl ?_
  rw [emin]
  refine g_callS hF cs_X8_25 (c_max l E 0 (nI N) (Wp E a wf0 x0 y0)) dX8_weigh_9 12 rfl (st := [_]) rfl rfl ⟨Nat.le_of_ble_eq_true rfl, Nat.le_of_ble_eq_true rfl⟩ ⟨Nat.le_of_ble_eq_true rfl, Nat.le_of_ble_eq_true rfl⟩ rfl (Nat.le_of_ble_eq_true rfl) (Pr' := _) (fun _ h => h) (fun q z => z.elim) (fun _ _ _ h _ => by exact h) (st1 := [_, _]) rfl (k1 := 0) (n1 := 0) rfl rfl ?_
  rw [emx]
  refine g_put hF pl_X8_28 dX8_weigh_12 15 rfl (by intro H h; first | exact h.1 | exact h.2) (Nat.le_of_ble_eq_true rfl) rfl rfl (hA _ ⟨by omega, by omega⟩) (Pr' := Wp E a wf0 (nI N) y0) (fun H H' h h1 h2 => by exact ⟨h1, aj_kept h.2 (h2.2 _ (by omega))⟩) ?_
  refine g_aload_n hF dX8_weigh_15 16 rfl rfl ?_
  refine g_iload hF dX8_weigh_16 18 rfl rfl ?_
  refine g_put hF pl_X8_32 dX8_weigh_18 21 rfl (by intro H h; first | exact h.1 | exact h.2) (Nat.le_of_ble_eq_true rfl) rfl rfl (hA _ ⟨by omega, by omega⟩) (Pr' := Wp E a wf0 (nI N) (nI R)) (fun H H' h h1 h2 => by exact ⟨h1, aj_kept h.2 (h2.2 _ (by omega))⟩) ?_
  refine g_aload_n hF dX8_weigh_21 22 rfl rfl ?_
  refine g_get hF fl_X8_9 dX8_weigh_22 25 rfl (by intro H h; first | exact h.1 | exact h.2) rfl ?_
  refine g_iconst hF (0) dX8_weigh_25 26 rfl rfl ?_
  refine g_lload_n hF dX8_weigh_26 27 rfl rfl ?_
  refine g_last hF dX8_weigh_27 28 rfl (by intro H h; first | exact h.1 | exact h.2) (vp_in_nI (n := 0) (show 0 < 7 by omega) (by omega)) (hA _ ⟨by omega, by omega⟩) (Pr' := Wp E a (vp_updL wf0 0 (lN first)) (nI N) (nI R)) (fun H H' h h1 h2 => by exact ⟨ob_kept h.1 (h2.2 _ (by omega)), h1⟩) ?_
  refine g_iconst hF (0) dX8_weigh_28 29 rfl rfl ?_
  refine g_istore hF dX8_weigh_29 31 rfl (lo' := [_, _, _, _, _, _, _, _, _, _, _, _, _]) (Nat.le_of_ble_eq_true rfl) rfl ?_
  exact loop (N + 1) 0 0 _ (by omega) (by omega) nI_0.symm (fun k hk => by have : k = 0 := (by omega); subst this; exact pk_uLs)
end
section
/-! Weights: sums; Fraction -/
def fct : Nat → Nat
  | 0 => 1
  | n + 1 => fct n * (n + 1)
def sW (w : Nat → Nat) : Nat → Nat
  | 0 => 0
  | k + 1 => sW w k + w k
def sRf (w : Nat → Nat) (N R : Nat) : Nat → Nat
  | 0 => 0
  | k + 1 => if R < N - k then sRf w N R k else sRf w N R k + w k
def sTm (w : Nat → Nat) : Nat → Nat
  | 0 => 0
  | k + 1 => sTm w k + k * w k
theorem fct_le : ∀ n, n < 7 → fct n ≤ 720 := by decide
def Wq (E : Ev) (a N R : Nat) (w : Nat → Nat) (H : Heap) : Prop := ∃ wf, (∀ k, k ≤ N → wf k = lN (w k)) ∧ Wp E a wf (nI N) (nI R) H
set_option maxRecDepth 100000 in
set_option maxHeartbeats 8000000 in
theorem c_W_weighExactly (l : Launch) (E : Ev) (a N A R B : Nat) (wf0 : Nat → Int64) (x0 y0 : Int32) (hN1 : 1 ≤ N) (hN : N ≤ 6) (hA6 : A ≤ 6) (hR6 : R ≤ 6) (hB : B ≤ 6) : Ct l E yX8_weighExactly cX8_weighExactly 8 none (rm 3) [.ref a, .int (nI N), .int (nI A), .int (nI R), .int (nI B)] (Wp E a wf0 x0 y0) (rV none (Wq E a N R (wt (fct N) 1 N A R B))) (rg a 2) := by
  refine ct_start (by decide) [some (.ref a), some (.int (nI N)), some (.int (nI A)), some (.int (nI R)), some (.int (nI B)), none, none, none] rfl (Nat.le_of_ble_eq_true rfl) ?_
  intro x hF hN0 hA hR
  have e1 : (1 : Int32) = nI 1 := by decide
  have loop : ∀ (n j : Nat) (i : Int32) (f : Int64), N + 1 - j < n → j ≤ N → i = nI (j + 1) → f = lN (fct j) → go l (rm 3) E x 0 0 (Wp E a wf0 x0 y0) [some (.ref a), some (.int (nI N)), some (.int (nI A)), some (.int (nI R)), some (.int (nI B)), some (.long f), none, some (.int i)] 6 [] := by
    intro n
    induction n with
    | zero => intro j i f h; omega
    | succ n ih =>
      intro j i f hn0 hj hi hf
      subst hi
      refine g_iload hF dX8_weighExactly_6 8 rfl rfl ?_
      refine g_iload_n hF dX8_weighExactly_8 9 rfl rfl ?_
      refine g_icmp_gt hF dX8_weighExactly_9 12 rfl 26 (by decide) (fun c9 => ?_) (fun c9 => ?_)
      · have hgt : N < j + 1 := i_lt c9 (by omega) (by omega)
        obtain rfl : j = N := by omega
        rw [hf]
        refine g_aload_n hF dX8_weighExactly_26 27 rfl rfl ?_
        refine g_lload hF dX8_weighExactly_27 29 rfl rfl ?_
        refine g_iconst hF (1) dX8_weighExactly_29 30 rfl rfl ?_
        refine g_iload_n hF dX8_weighExactly_30 31 rfl rfl ?_
        refine g_iload_n hF dX8_weighExactly_31 32 rfl rfl ?_
        refine g_iload_n hF dX8_weighExactly_32 33 rfl rfl ?_
        refine g_iload hF dX8_weighExactly_33 35 rfl rfl ?_
        rw [e1]
        refine g_callV hF cv_X8_15 (c_W_weigh l E a (fct j) 1 j A R B wf0 x0 y0 (Nat.le_trans (fct_le j (by omega)) (by omega)) (by omega) (by omega) hN hA6 hR6 (by omega)) dX8_weighExactly_35 38 rfl (st := []) rfl rfl ⟨Nat.le_of_ble_eq_true rfl, Nat.le_of_ble_eq_true rfl⟩ ⟨Nat.le_of_ble_eq_true rfl, Nat.le_of_ble_eq_true rfl⟩ rfl (Nat.le_of_ble_eq_true rfl) 8 rfl (by intro H h; first | exact h.1 | exact h.2) (Pr' := _) (fun _ h => h) (hA) (fun _ _ _ h _ => by exact h) (st1 := []) rfl (k1 := 0) (n1 := 0) rfl rfl ?_
        exact g_vret hF dX8_weighExactly_38 (Nat.le_of_ble_eq_true rfl) (Nat.le_of_ble_eq_true rfl) (fun H h => hR _ _ ⟨rfl, h⟩)
      · have hlt : j + 1 ≤ N := i_nlt c9 (by omega) (by omega)
        refine g_lload hF dX8_weighExactly_12 14 rfl rfl ?_
        refine g_iload hF dX8_weighExactly_14 16 rfl rfl ?_
        refine g_i2l hF dX8_weighExactly_16 17 rfl ?_
        rw [nI_l (by omega)]
        refine g_lmul hF dX8_weighExactly_17 18 rfl ?_
        rw [hf, lN_mul]
        refine g_lstore hF dX8_weighExactly_18 20 rfl (lo' := [_, _, _, _, _, _, _, _]) (Nat.le_of_ble_eq_true rfl) rfl ?_
        refine g_iinc hF dX8_weighExactly_20 23 rfl (1) rfl (lo' := [_, _, _, _, _, _, _, _]) rfl rfl ?_
        refine g_goto hF dX8_weighExactly_23 6 (by decide) ?_
        exact ih (j + 1) _ _ (by omega) (by omega) (nI_succ (j + 1)).symm rfl
  refine g_lconst hF (1) dX8_weighExactly_0 1 rfl rfl ?_
  refine g_lstore hF dX8_weighExactly_1 3 rfl (lo' := [_, _, _, _, _, _, _, _]) (Nat.le_of_ble_eq_true rfl) rfl ?_
  refine g_iconst hF (2) dX8_weighExactly_3 4 rfl rfl ?_
  refine g_istore hF dX8_weighExactly_4 6 rfl (lo' := [_, _, _, _, _, _, _, _]) (Nat.le_of_ble_eq_true rfl) rfl ?_
  exact loop (N + 2) 1 2 1 (by omega) (by omega) (by decide) (by decide)
set_option maxRecDepth 100000 in
set_option maxHeartbeats 8000000 in
theorem c_W_all (l : Launch) (E : Ev) (a N R : Nat) (w : Nat → Nat) (wf : Nat → Int64) (hN : N ≤ 6) (hw : ∀ k, k ≤ N → wf k = lN (w k)) : Ct l E yX8_all cX8_all 4 (some .long) (rm 1) [.ref a] (Wp E a wf (nI N) (nI R)) (rV (some (.long (lN (sW w (N + 1))))) (Wp E a wf (nI N) (nI R))) (fun _ => False) := by
  refine ct_start (by decide) [some (.ref a), none, none, none] rfl (Nat.le_of_ble_eq_true rfl) ?_
  intro x hF hN0 hA hR
  have loop : ∀ (n j : Nat) (i : Int32) (s : Int64), N + 1 - j < n → j ≤ N + 1 → i = nI j → s = lN (sW w j) → go l (rm 1) E x 0 0 (Wp E a wf (nI N) (nI R)) [some (.ref a), some (.long s), none, some (.int i)] 4 [] := by
    intro n
    induction n with
    | zero => intro j i s h; omega
    | succ n ih =>
      intro j i s hn0 hj hi hs
      subst hi
      refine g_iload_n hF dX8_all_4 5 rfl rfl ?_
      refine g_aload_n hF dX8_all_5 6 rfl rfl ?_
      refine g_get hF fl_X8_28 dX8_all_6 9 rfl (by intro H h; first | exact h.1 | exact h.2) rfl ?_
      refine g_icmp_gt hF dX8_all_9 12 rfl 27 (by decide) (fun c9 => ?_) (fun c9 => ?_)
      · refine g_lload_n hF dX8_all_27 28 rfl rfl ?_
        exact g_lret hF dX8_all_28 (Nat.le_of_ble_eq_true rfl) (Nat.le_of_ble_eq_true rfl) (fun H h => hR _ _ ⟨congrArg (fun z => some (Value.long z)) (by have := i_lt c9 (by omega) (by omega); rw [hs, show j = N + 1 by omega]), h⟩)
      · have hlt : j ≤ N := i_nlt c9 (by omega) (by omega)
        refine g_lload_n hF dX8_all_12 13 rfl rfl ?_
        refine g_aload_n hF dX8_all_13 14 rfl rfl ?_
        refine g_get hF fl_X8_9 dX8_all_14 17 rfl (by intro H h; first | exact h.1 | exact h.2) rfl ?_
        refine g_iload_n hF dX8_all_17 18 rfl rfl ?_
        refine g_lald hF dX8_all_18 19 rfl (by intro H h; first | exact h.1 | exact h.2) (vp_in_nI (show j < 7 by omega) (by omega)) ?_
        rw [nI_clamp (by omega), hw j hlt]
        refine g_ladd hF dX8_all_19 20 rfl ?_
        rw [hs, lN_add]
        refine g_lstore_n hF dX8_all_20 21 rfl (lo' := [_, _, _, _]) (Nat.le_of_ble_eq_true rfl) rfl ?_
        refine g_iinc hF dX8_all_21 24 rfl (1) rfl (lo' := [_, _, _, _]) rfl rfl ?_
        refine g_goto hF dX8_all_24 4 (by decide) ?_
        exact ih (j + 1) _ _ (by omega) (by omega) (nI_succ j).symm rfl
  refine g_lconst hF (0) dX8_all_0 1 rfl rfl ?_
  refine g_lstore_n hF dX8_all_1 2 rfl (lo' := [_, _, _, _]) (Nat.le_of_ble_eq_true rfl) rfl ?_
  refine g_iconst hF (0) dX8_all_2 3 rfl rfl ?_
  refine g_istore_n hF dX8_all_3 4 rfl (lo' := [_, _, _, _]) (Nat.le_of_ble_eq_true rfl) rfl ?_
  exact loop (N + 2) 0 0 0 (by omega) (by omega) nI_0.symm (show (0 : Int64) = lN 0 by decide)
set_option maxRecDepth 100000 in
set_option maxHeartbeats 8000000 in
theorem c_W_ofAllHeld (l : Launch) (E : Ev) (a N R : Nat) (w : Nat → Nat) (wf : Nat → Int64) (hN : N ≤ 6) (hw : ∀ k, k ≤ N → wf k = lN (w k)) : Ct l E yX8_ofAllHeld cX8_ofAllHeld 1 (some .long) (rm 1) [.ref a] (Wp E a wf (nI N) (nI R)) (rV (some (.long (lN (w N)))) (Wp E a wf (nI N) (nI R))) (fun _ => False) := by
  refine ct_start (by decide) [some (.ref a)] rfl (Nat.le_of_ble_eq_true rfl) ?_
  intro x hF hN0 hA hR
  refine g_aload_n hF dX8_ofAllHeld_0 1 rfl rfl ?_
  refine g_get hF fl_X8_9 dX8_ofAllHeld_1 4 rfl (by intro H h; first | exact h.1 | exact h.2) rfl ?_
  refine g_aload_n hF dX8_ofAllHeld_4 5 rfl rfl ?_
  refine g_get hF fl_X8_28 dX8_ofAllHeld_5 8 rfl (by intro H h; first | exact h.1 | exact h.2) rfl ?_
  refine g_lald hF dX8_ofAllHeld_8 9 rfl (by intro H h; first | exact h.1 | exact h.2) (vp_in_nI (show N < 7 by omega) (by omega)) ?_
  rw [nI_clamp (by omega), hw N (by omega)]
  exact g_lret hF dX8_ofAllHeld_9 (Nat.le_of_ble_eq_true rfl) (Nat.le_of_ble_eq_true rfl) (fun H h => hR _ _ ⟨congrArg (fun z => some (Value.long z)) (rfl), h⟩)
set_option maxRecDepth 100000 in
set_option maxHeartbeats 8000000 in
theorem c_W_ofRefusing (l : Launch) (E : Ev) (a N R : Nat) (w : Nat → Nat) (wf : Nat → Int64) (hN : N ≤ 6) (hR6 : R ≤ 6) (hw : ∀ k, k ≤ N → wf k = lN (w k)) : Ct l E yX8_ofRefusing cX8_ofRefusing 4 (some .long) (rm 2) [.ref a] (Wp E a wf (nI N) (nI R)) (rV (some (.long (lN (sRf w N R (N + 1))))) (Wp E a wf (nI N) (nI R))) (fun _ => False) := by
  refine ct_start (by decide) [some (.ref a), none, none, none] rfl (Nat.le_of_ble_eq_true rfl) ?_
  intro x hF hN0 hA hR
  have loop : ∀ (n j : Nat) (i : Int32) (s : Int64), N + 1 - j < n → j ≤ N + 1 → i = nI j → s = lN (sRf w N R j) → go l (rm 2) E x 0 0 (Wp E a wf (nI N) (nI R)) [some (.ref a), some (.long s), none, some (.int i)] 4 [] := by
    intro n
    induction n with
    | zero => intro j i s h; omega
    | succ n ih =>
      intro j i s hn0 hj hi hs
      subst hi
      by_cases hto : R < N - j
      · refine g_iload_n hF dX8_ofRefusing_4 5 rfl rfl ?_
        refine g_aload_n hF dX8_ofRefusing_5 6 rfl rfl ?_
        refine g_get hF fl_X8_28 dX8_ofRefusing_6 9 rfl (by intro H h; first | exact h.1 | exact h.2) rfl ?_
        refine g_icmp_gt hF dX8_ofRefusing_9 12 rfl 35 (by decide) (fun c9 => ?_) (fun c9 => ?_)
        · refine g_lload_n hF dX8_ofRefusing_35 36 rfl rfl ?_
          exact g_lret hF dX8_ofRefusing_36 (Nat.le_of_ble_eq_true rfl) (Nat.le_of_ble_eq_true rfl) (fun H h => hR _ _ ⟨congrArg (fun z => some (Value.long z)) (by have := i_lt c9 (by omega) (by omega); rw [hs, show j = N + 1 by omega]), h⟩)
        · have hlt : j ≤ N := i_nlt c9 (by omega) (by omega)
          refine g_aload_n hF dX8_ofRefusing_12 13 rfl rfl ?_
          refine g_iload_n hF dX8_ofRefusing_13 14 rfl rfl ?_
          refine g_callV hF cv_X8_35 (c_W_takesOver l E a wf N R j hN hR6 (by omega) 1 (if_pos hto).symm) dX8_ofRefusing_14 17 rfl (st := []) rfl rfl ⟨Nat.le_of_ble_eq_true rfl, Nat.le_of_ble_eq_true rfl⟩ ⟨Nat.le_of_ble_eq_true rfl, Nat.le_of_ble_eq_true rfl⟩ rfl (Nat.le_of_ble_eq_true rfl) 8 rfl (by intro H h; first | exact h.1 | exact h.2) (Pr' := _) (fun _ h => h) (fun q z => z.elim) (fun _ _ _ h _ => by exact h) (st1 := [_]) rfl (k1 := 0) (n1 := 0) rfl rfl ?_
          refine g_if_ne hF dX8_ofRefusing_17 20 rfl 29 (by decide) (fun _ => ?_) (fun c => absurd c ((by decide)))
          refine g_iinc hF dX8_ofRefusing_29 32 rfl (1) rfl (lo' := [_, _, _, _]) rfl rfl ?_
          refine g_goto hF dX8_ofRefusing_32 4 (by decide) ?_
          exact ih (j + 1) _ _ (by omega) (by omega) (nI_succ j).symm (by rw [hs]; conv => rhs; unfold sRf; rw [if_pos hto])
      · refine g_iload_n hF dX8_ofRefusing_4 5 rfl rfl ?_
        refine g_aload_n hF dX8_ofRefusing_5 6 rfl rfl ?_
        refine g_get hF fl_X8_28 dX8_ofRefusing_6 9 rfl (by intro H h; first | exact h.1 | exact h.2) rfl ?_
        refine g_icmp_gt hF dX8_ofRefusing_9 12 rfl 35 (by decide) (fun c9 => ?_) (fun c9 => ?_)
        · refine g_lload_n hF dX8_ofRefusing_35 36 rfl rfl ?_
          exact g_lret hF dX8_ofRefusing_36 (Nat.le_of_ble_eq_true rfl) (Nat.le_of_ble_eq_true rfl) (fun H h => hR _ _ ⟨congrArg (fun z => some (Value.long z)) (by have := i_lt c9 (by omega) (by omega); rw [hs, show j = N + 1 by omega]), h⟩)
        · have hlt : j ≤ N := i_nlt c9 (by omega) (by omega)
          refine g_aload_n hF dX8_ofRefusing_12 13 rfl rfl ?_
          refine g_iload_n hF dX8_ofRefusing_13 14 rfl rfl ?_
          refine g_callV hF cv_X8_35 (c_W_takesOver l E a wf N R j hN hR6 (by omega) 0 (if_neg hto).symm) dX8_ofRefusing_14 17 rfl (st := []) rfl rfl ⟨Nat.le_of_ble_eq_true rfl, Nat.le_of_ble_eq_true rfl⟩ ⟨Nat.le_of_ble_eq_true rfl, Nat.le_of_ble_eq_true rfl⟩ rfl (Nat.le_of_ble_eq_true rfl) 8 rfl (by intro H h; first | exact h.1 | exact h.2) (Pr' := _) (fun _ h => h) (fun q z => z.elim) (fun _ _ _ h _ => by exact h) (st1 := [_]) rfl (k1 := 0) (n1 := 0) rfl rfl ?_
          refine g_if_ne hF dX8_ofRefusing_17 20 rfl 29 (by decide) (fun c => absurd (rfl) c) (fun _ => ?_)
          refine g_lload_n hF dX8_ofRefusing_20 21 rfl rfl ?_
          refine g_aload_n hF dX8_ofRefusing_21 22 rfl rfl ?_
          refine g_get hF fl_X8_9 dX8_ofRefusing_22 25 rfl (by intro H h; first | exact h.1 | exact h.2) rfl ?_
          refine g_iload_n hF dX8_ofRefusing_25 26 rfl rfl ?_
          refine g_lald hF dX8_ofRefusing_26 27 rfl (by intro H h; first | exact h.1 | exact h.2) (vp_in_nI (show j < 7 by omega) (by omega)) ?_
          rw [nI_clamp (by omega), hw j hlt]
          refine g_ladd hF dX8_ofRefusing_27 28 rfl ?_
          rw [hs, lN_add]
          refine g_lstore_n hF dX8_ofRefusing_28 29 rfl (lo' := [_, _, _, _]) (Nat.le_of_ble_eq_true rfl) rfl ?_
          refine g_iinc hF dX8_ofRefusing_29 32 rfl (1) rfl (lo' := [_, _, _, _]) rfl rfl ?_
          refine g_goto hF dX8_ofRefusing_32 4 (by decide) ?_
          exact ih (j + 1) _ _ (by omega) (by omega) (nI_succ j).symm (by conv => rhs; unfold sRf; rw [if_neg hto])
  refine g_lconst hF (0) dX8_ofRefusing_0 1 rfl rfl ?_
  refine g_lstore_n hF dX8_ofRefusing_1 2 rfl (lo' := [_, _, _, _]) (Nat.le_of_ble_eq_true rfl) rfl ?_
  refine g_iconst hF (0) dX8_ofRefusing_2 3 rfl rfl ?_
  refine g_istore_n hF dX8_ofRefusing_3 4 rfl (lo' := [_, _, _, _]) (Nat.le_of_ble_eq_true rfl) rfl ?_
  exact loop (N + 2) 0 0 0 (by omega) (by omega) nI_0.symm (show (0 : Int64) = lN 0 by decide)
set_option maxRecDepth 100000 in
set_option maxHeartbeats 8000000 in
theorem c_W_timesHeld (l : Launch) (E : Ev) (a N R : Nat) (w : Nat → Nat) (wf : Nat → Int64) (hN : N ≤ 6) (hw : ∀ k, k ≤ N → wf k = lN (w k)) : Ct l E yX8_timesHeld cX8_timesHeld 4 (some .long) (rm 1) [.ref a] (Wp E a wf (nI N) (nI R)) (rV (some (.long (lN (sTm w (N + 1))))) (Wp E a wf (nI N) (nI R))) (fun _ => False) := by
  refine ct_start (by decide) [some (.ref a), none, none, none] rfl (Nat.le_of_ble_eq_true rfl) ?_
  intro x hF hN0 hA hR
  have loop : ∀ (n j : Nat) (i : Int32) (s : Int64), N + 1 - j < n → j ≤ N + 1 → i = nI j → s = lN (sTm w j) → go l (rm 1) E x 0 0 (Wp E a wf (nI N) (nI R)) [some (.ref a), some (.long s), none, some (.int i)] 4 [] := by
    intro n
    induction n with
    | zero => intro j i s h; omega
    | succ n ih =>
      intro j i s hn0 hj hi hs
      subst hi
      refine g_iload_n hF dX8_timesHeld_4 5 rfl rfl ?_
      refine g_aload_n hF dX8_timesHeld_5 6 rfl rfl ?_
      refine g_get hF fl_X8_28 dX8_timesHeld_6 9 rfl (by intro H h; first | exact h.1 | exact h.2) rfl ?_
      refine g_icmp_gt hF dX8_timesHeld_9 12 rfl 30 (by decide) (fun c9 => ?_) (fun c9 => ?_)
      · refine g_lload_n hF dX8_timesHeld_30 31 rfl rfl ?_
        exact g_lret hF dX8_timesHeld_31 (Nat.le_of_ble_eq_true rfl) (Nat.le_of_ble_eq_true rfl) (fun H h => hR _ _ ⟨congrArg (fun z => some (Value.long z)) (by have := i_lt c9 (by omega) (by omega); rw [hs, show j = N + 1 by omega]), h⟩)
      · have hlt : j ≤ N := i_nlt c9 (by omega) (by omega)
        refine g_lload_n hF dX8_timesHeld_12 13 rfl rfl ?_
        refine g_iload_n hF dX8_timesHeld_13 14 rfl rfl ?_
        refine g_i2l hF dX8_timesHeld_14 15 rfl ?_
        rw [nI_l (by omega)]
        refine g_aload_n hF dX8_timesHeld_15 16 rfl rfl ?_
        refine g_get hF fl_X8_9 dX8_timesHeld_16 19 rfl (by intro H h; first | exact h.1 | exact h.2) rfl ?_
        refine g_iload_n hF dX8_timesHeld_19 20 rfl rfl ?_
        refine g_lald hF dX8_timesHeld_20 21 rfl (by intro H h; first | exact h.1 | exact h.2) (vp_in_nI (show j < 7 by omega) (by omega)) ?_
        rw [nI_clamp (by omega), hw j hlt]
        refine g_lmul hF dX8_timesHeld_21 22 rfl ?_
        rw [lN_mul]
        refine g_ladd hF dX8_timesHeld_22 23 rfl ?_
        rw [hs, lN_add]
        refine g_lstore_n hF dX8_timesHeld_23 24 rfl (lo' := [_, _, _, _]) (Nat.le_of_ble_eq_true rfl) rfl ?_
        refine g_iinc hF dX8_timesHeld_24 27 rfl (1) rfl (lo' := [_, _, _, _]) rfl rfl ?_
        refine g_goto hF dX8_timesHeld_27 4 (by decide) ?_
        exact ih (j + 1) _ _ (by omega) (by omega) (nI_succ j).symm rfl
  refine g_lconst hF (0) dX8_timesHeld_0 1 rfl rfl ?_
  refine g_lstore_n hF dX8_timesHeld_1 2 rfl (lo' := [_, _, _, _]) (Nat.le_of_ble_eq_true rfl) rfl ?_
  refine g_iconst hF (0) dX8_timesHeld_2 3 rfl rfl ?_
  refine g_istore_n hF dX8_timesHeld_3 4 rfl (lo' := [_, _, _, _]) (Nat.le_of_ble_eq_true rfl) rfl ?_
  exact loop (N + 2) 0 0 0 (by omega) (by omega) nI_0.symm (show (0 : Int64) = lN 0 by decide)
set_option maxRecDepth 100000 in
set_option maxHeartbeats 8000000 in
theorem c_W_losesAtMost (l : Launch) (E : Ev) (a N R p : Nat) (w : Nat → Nat) (wf : Nat → Int64) (hN : N ≤ 6) (hw : ∀ k, k ≤ N → wf k = lN (w k)) (hp : p < 2 ^ 31) (hb1 : 1000 * w N < 2 ^ 63) (hb2 : p * sW w (N + 1) < 2 ^ 63) (r : Int32) (hr : r = if 1000 * w N ≤ p * sW w (N + 1) then 1 else 0) : Ct l E yX8_losesAtMost cX8_losesAtMost 2 (some .boolean) (rm 2) [.ref a, .int (nI p)] (Wp E a wf (nI N) (nI R)) (rV (some (.int r)) (Wp E a wf (nI N) (nI R))) (fun _ => False) := by
  refine ct_start (by decide) [some (.ref a), some (.int (nI p))] rfl (Nat.le_of_ble_eq_true rfl) ?_
  intro x hF hN0 hA hR
  subst hr
  have e1000 : (1000 : Int64) = lN 1000 := by decide
  refine g_ldc2 hF kc_X8_42 dX8_losesAtMost_0 3 rfl ?_
  refine g_aload_n hF dX8_losesAtMost_3 4 rfl rfl ?_
  refine g_callV hF cv_X8_44 (c_W_ofAllHeld l E a N R w wf hN hw) dX8_losesAtMost_4 7 rfl (st := [_]) rfl rfl ⟨Nat.le_of_ble_eq_true rfl, Nat.le_of_ble_eq_true rfl⟩ ⟨Nat.le_of_ble_eq_true rfl, Nat.le_of_ble_eq_true rfl⟩ rfl (Nat.le_of_ble_eq_true rfl) 8 rfl (by intro H h; first | exact h.1 | exact h.2) (Pr' := _) (fun _ h => h) (fun q z => z.elim) (fun _ _ _ h _ => by exact h) (st1 := [_, _]) rfl (k1 := 0) (n1 := 0) rfl rfl ?_
  refine g_lmul hF dX8_losesAtMost_7 8 rfl ?_
  rw [e1000, lN_mul]
  refine g_iload_n hF dX8_losesAtMost_8 9 rfl rfl ?_
  refine g_i2l hF dX8_losesAtMost_9 10 rfl ?_
  rw [nI_l hp]
  refine g_aload_n hF dX8_losesAtMost_10 11 rfl rfl ?_
  refine g_callV hF cv_X8_48 (c_W_all l E a N R w wf hN hw) dX8_losesAtMost_11 14 rfl (st := [_, _]) rfl rfl ⟨Nat.le_of_ble_eq_true rfl, Nat.le_of_ble_eq_true rfl⟩ ⟨Nat.le_of_ble_eq_true rfl, Nat.le_of_ble_eq_true rfl⟩ rfl (Nat.le_of_ble_eq_true rfl) 8 rfl (by intro H h; first | exact h.1 | exact h.2) (Pr' := _) (fun _ h => h) (fun q z => z.elim) (fun _ _ _ h _ => by exact h) (st1 := [_, _, _]) rfl (k1 := 0) (n1 := 0) rfl rfl ?_
  refine g_lmul hF dX8_losesAtMost_14 15 rfl ?_
  rw [lN_mul]
  refine g_lcmp hF dX8_losesAtMost_15 16 rfl ?_
  refine g_if_gt hF dX8_losesAtMost_16 19 rfl 23 (by decide) (fun c16 => ?_) (fun c16 => ?_)
  · refine g_iconst hF (0) dX8_losesAtMost_23 24 rfl rfl ?_
    exact g_zret hF (rfl) dX8_losesAtMost_24 (Nat.le_of_ble_eq_true rfl) (Nat.le_of_ble_eq_true rfl) (fun H h => hR _ _ ⟨congrArg (fun z => some (Value.int z)) ((if_neg (fun z => by have := (pk_lLT hb2 hb1).mp (lc_gt.mp c16); omega)).symm), h⟩)
  · refine g_iconst hF (1) dX8_losesAtMost_19 20 rfl rfl ?_
    refine g_goto hF dX8_losesAtMost_20 24 (by decide) ?_
    exact g_zret hF (rfl) dX8_losesAtMost_24 (Nat.le_of_ble_eq_true rfl) (Nat.le_of_ble_eq_true rfl) (fun H h => hR _ _ ⟨congrArg (fun z => some (Value.int z)) ((if_pos (by have := fun z => c16 (lc_gt.mpr ((pk_lLT hb2 hb1).mpr z)); exact Nat.not_lt.mp this)).symm), h⟩)
/-! Fraction -/
def cd64 : Nat → Int64 → Int64 → Int64
  | 0, x, _ => x
  | n + 1, x, y => if y = 0 then x else cd64 n y (x - x / y * y)
set_option maxRecDepth 100000 in
set_option maxHeartbeats 8000000 in
theorem c_F_commonDivisor (l : Launch) (E : Ev) (x0 y0 : Int64) (P : Heap → Prop) : Ct l E yX2_commonDivisor cX2_commonDivisor 11 (some .long) (rm 1) [.long x0, .long y0] P (rV (some (.long (cd64 100 x0 y0))) P) (fun _ => False) := by
  refine ct_start (by decide) [some (.long x0), none, some (.long y0), none, none, none, none, none, none, none, none] rfl (Nat.le_of_ble_eq_true rfl) ?_
  intro x hF hN0 hA hR
  have loop : ∀ (n j : Nat) (i : Int32) (p q : Int64), 100 - j < n → j ≤ 100 → i = nI j → cd64 100 x0 y0 = cd64 (100 - j) p q → go l (rm 1) E x 0 0 P [some (.long x0), none, some (.long y0), none, some (.long p), none, some (.long q), none, some (.int i), none, none] 9 [] := by
    intro n
    induction n with
    | zero => intro j i p q h; omega
    | succ n ih =>
      intro j i p q hn0 hj hi hv
      subst hi
      refine g_iload hF dX2_commonDivisor_9 11 rfl rfl ?_
      refine g_bipush hF (100) dX2_commonDivisor_11 13 rfl rfl ?_
      refine g_icmp_ge hF dX2_commonDivisor_13 16 rfl 44 (by decide) (fun c13 => ?_) (fun c13 => ?_)
      · refine g_lload hF dX2_commonDivisor_44 46 rfl rfl ?_
        exact g_lret hF dX2_commonDivisor_46 (Nat.le_of_ble_eq_true rfl) (Nat.le_of_ble_eq_true rfl) (fun H h => hR _ _ ⟨congrArg (fun z => some (Value.long z)) (by have := i_le (a := 100) c13 (by omega) (by omega); rw [hv, show 100 - j = 0 by omega]; rfl), h⟩)
      · have hlt : j < 100 := i_nle (a := 100) c13 (by omega) (by omega)
        rw [show 100 - j = (100 - (j + 1)) + 1 by omega] at hv
        refine g_lload hF dX2_commonDivisor_16 18 rfl rfl ?_
        refine g_lconst hF (0) dX2_commonDivisor_18 19 rfl rfl ?_
        refine g_lcmp hF dX2_commonDivisor_19 20 rfl ?_
        refine g_if_eq hF dX2_commonDivisor_20 23 rfl 44 (by decide) (fun c20 => ?_) (fun c20 => ?_)
        · refine g_lload hF dX2_commonDivisor_44 46 rfl rfl ?_
          exact g_lret hF dX2_commonDivisor_46 (Nat.le_of_ble_eq_true rfl) (Nat.le_of_ble_eq_true rfl) (fun H h => hR _ _ ⟨congrArg (fun z => some (Value.long z)) (by rw [hv]; exact (if_pos (lc_eq.mp c20)).symm), h⟩)
        · have hq : ¬ q = 0 := fun z => c20 (lc_eq.mpr z)
          refine g_lload hF dX2_commonDivisor_23 25 rfl rfl ?_
          refine g_lload hF dX2_commonDivisor_25 27 rfl rfl ?_
          refine g_lrem hF dX2_commonDivisor_27 28 rfl (hq) ?_
          refine g_lstore hF dX2_commonDivisor_28 30 rfl (lo' := [_, _, _, _, _, _, _, _, _, _, _]) (Nat.le_of_ble_eq_true rfl) rfl ?_
          refine g_lload hF dX2_commonDivisor_30 32 rfl rfl ?_
          refine g_lstore hF dX2_commonDivisor_32 34 rfl (lo' := [_, _, _, _, _, _, _, _, _, _, _]) (Nat.le_of_ble_eq_true rfl) rfl ?_
          refine g_lload hF dX2_commonDivisor_34 36 rfl rfl ?_
          refine g_lstore hF dX2_commonDivisor_36 38 rfl (lo' := [_, _, _, _, _, _, _, _, _, _, _]) (Nat.le_of_ble_eq_true rfl) rfl ?_
          refine g_iinc hF dX2_commonDivisor_38 41 rfl (1) rfl (lo' := [_, _, _, _, _, _, _, _, _, _, _]) rfl rfl ?_
          refine g_goto hF dX2_commonDivisor_41 9 (by decide) ?_
          refine g_cut [true, true, true, true, true, true, true, true, true, false, false] (lo' := [_, _, _, _, _, _, _, _, _, _, _]) rfl ?_
          exact ih (j + 1) _ _ _ (by omega) (by omega) (nI_succ j).symm (hv.trans (if_neg hq))
  refine g_lload_n hF dX2_commonDivisor_0 1 rfl rfl ?_
  refine g_lstore hF dX2_commonDivisor_1 3 rfl (lo' := [_, _, _, _, _, _, _, _, _, _, _]) (Nat.le_of_ble_eq_true rfl) rfl ?_
  refine g_lload_n hF dX2_commonDivisor_3 4 rfl rfl ?_
  refine g_lstore hF dX2_commonDivisor_4 6 rfl (lo' := [_, _, _, _, _, _, _, _, _, _, _]) (Nat.le_of_ble_eq_true rfl) rfl ?_
  refine g_iconst hF (0) dX2_commonDivisor_6 7 rfl rfl ?_
  refine g_istore hF dX2_commonDivisor_7 9 rfl (lo' := [_, _, _, _, _, _, _, _, _, _, _]) (Nat.le_of_ble_eq_true rfl) rfl ?_
  exact loop 101 0 0 _ _ (by omega) (by omega) nI_0.symm rfl
def bcm (x y : Int64) : Int64 × Int64 := if y = 0 ∨ cd64 100 (ab64 x) (ab64 y) = 0 then (0, 1) else if y < 0 then (x / -cd64 100 (ab64 x) (ab64 y), y / -cd64 100 (ab64 x) (ab64 y)) else (x / cd64 100 (ab64 x) (ab64 y), y / cd64 100 (ab64 x) (ab64 y))
def Fp (E : Ev) (a : Nat) (x y : Int64) (H : Heap) : Prop := ob E 2 a [.long x, .long y] H
theorem neg64_ne {z : Int64} (h : ¬ z = 0) : ¬ -z = 0 := fun e => h (by have := congrArg (fun w => -w) e; simpa using this)
set_option maxRecDepth 100000 in
set_option maxHeartbeats 8000000 in
theorem c_F_become (l : Launch) (E : Ev) (a : Nat) (f g x0 y0 : Int64) : Ct l E yX2_become cX2_become 9 none (rm 2) [.ref a, .long x0, .long y0] (Fp E a f g) (rV none (Fp E a (bcm x0 y0).1 (bcm x0 y0).2)) (fun q => q = a) := by
  refine ct_start (by decide) [some (.ref a), some (.long x0), none, some (.long y0), none, none, none, none, none] rfl (Nat.le_of_ble_eq_true rfl) ?_
  intro x hF hN0 hA hR
  obtain ⟨dv, ed⟩ : ∃ d, d = cd64 100 (ab64 x0) (ab64 y0) := ⟨_, rfl⟩
  unfold bcm at hR
  rw [← ed] at hR
  refine g_lload_n hF dX2_become_0 1 rfl rfl ?_
  refine g_callS hF cs_X2_13 (c_absL l E x0 (Fp E a f g)) dX2_become_1 4 rfl (st := []) rfl rfl ⟨Nat.le_of_ble_eq_true rfl, Nat.le_of_ble_eq_true rfl⟩ ⟨Nat.le_of_ble_eq_true rfl, Nat.le_of_ble_eq_true rfl⟩ rfl (Nat.le_of_ble_eq_true rfl) (Pr' := _) (fun _ h => h) (fun q z => z.elim) (fun _ _ _ h _ => by exact h) (st1 := [_]) rfl (k1 := 0) (n1 := 0) rfl rfl ?_
  refine g_lload_n hF dX2_become_4 5 rfl rfl ?_
  refine g_callS hF cs_X2_13 (c_absL l E y0 (Fp E a f g)) dX2_become_5 8 rfl (st := [_]) rfl rfl ⟨Nat.le_of_ble_eq_true rfl, Nat.le_of_ble_eq_true rfl⟩ ⟨Nat.le_of_ble_eq_true rfl, Nat.le_of_ble_eq_true rfl⟩ rfl (Nat.le_of_ble_eq_true rfl) (Pr' := _) (fun _ h => h) (fun q z => z.elim) (fun _ _ _ h _ => by exact h) (st1 := [_, _]) rfl (k1 := 0) (n1 := 0) rfl rfl ?_
  refine g_callS hF cs_X2_19 (c_F_commonDivisor l E (ab64 x0) (ab64 y0) (Fp E a f g)) dX2_become_8 11 rfl (st := []) rfl rfl ⟨Nat.le_of_ble_eq_true rfl, Nat.le_of_ble_eq_true rfl⟩ ⟨Nat.le_of_ble_eq_true rfl, Nat.le_of_ble_eq_true rfl⟩ rfl (Nat.le_of_ble_eq_true rfl) (Pr' := _) (fun _ h => h) (fun q z => z.elim) (fun _ _ _ h _ => by exact h) (st1 := [_]) rfl (k1 := 0) (n1 := 0) rfl rfl ?_
  rw [← ed]
  refine g_lstore hF dX2_become_11 13 rfl (lo' := [_, _, _, _, _, _, _, _, _]) (Nat.le_of_ble_eq_true rfl) rfl ?_
  refine g_lload_n hF dX2_become_13 14 rfl rfl ?_
  refine g_lconst hF (0) dX2_become_14 15 rfl rfl ?_
  refine g_lcmp hF dX2_become_15 16 rfl ?_
  refine g_if_eq hF dX2_become_16 19 rfl 26 (by decide) (fun c16 => ?_) (fun c16 => ?_)
  · refine g_aload_n hF dX2_become_26 27 rfl rfl ?_
    refine g_lconst hF (0) dX2_become_27 28 rfl rfl ?_
    refine g_put hF pl_X2_23 dX2_become_28 31 rfl (by intro H h; exact h) (Nat.le_of_ble_eq_true rfl) rfl rfl (hA _ rfl) (Pr' := Fp E a 0 g) (fun H H' h h1 h2 => by exact h1) ?_
    refine g_aload_n hF dX2_become_31 32 rfl rfl ?_
    refine g_lconst hF (1) dX2_become_32 33 rfl rfl ?_
    refine g_put hF pl_X2_7 dX2_become_33 36 rfl (by intro H h; exact h) (Nat.le_of_ble_eq_true rfl) rfl rfl (hA _ rfl) (Pr' := Fp E a 0 1) (fun H H' h h1 h2 => by exact h1) ?_
    exact g_vret hF dX2_become_36 (Nat.le_of_ble_eq_true rfl) (Nat.le_of_ble_eq_true rfl) (fun H h => hR _ _ ⟨rfl, by rw [if_pos (Or.inl (lc_eq.mp c16))]; exact h⟩)
  · refine g_lload hF dX2_become_19 21 rfl rfl ?_
    refine g_lconst hF (0) dX2_become_21 22 rfl rfl ?_
    refine g_lcmp hF dX2_become_22 23 rfl ?_
    refine g_if_ne hF dX2_become_23 26 rfl 37 (by decide) (fun c23 => ?_) (fun c23 => ?_)
    · have hd : ¬ dv = 0 := fun z => c23 (lc_eq.mpr z)
      rw [if_neg (fun z => z.elim (fun q => c16 (lc_eq.mpr q)) hd)] at hR
      refine g_lload_n hF dX2_become_37 38 rfl rfl ?_
      refine g_lconst hF (0) dX2_become_38 39 rfl rfl ?_
      refine g_lcmp hF dX2_become_39 40 rfl ?_
      refine g_if_ge hF dX2_become_40 43 rfl 49 (by decide) (fun c40 => ?_) (fun c40 => ?_)
      · refine g_lload hF dX2_become_49 51 rfl rfl ?_
        refine g_lstore hF dX2_become_51 53 rfl (lo' := [_, _, _, _, _, _, _, _, _]) (Nat.le_of_ble_eq_true rfl) rfl ?_
        refine g_aload_n hF dX2_become_53 54 rfl rfl ?_
        refine g_lload_n hF dX2_become_54 55 rfl rfl ?_
        refine g_lload hF dX2_become_55 57 rfl rfl ?_
        refine g_ldiv hF dX2_become_57 58 rfl (hd) ?_
        refine g_put hF pl_X2_23 dX2_become_58 61 rfl (by intro H h; exact h) (Nat.le_of_ble_eq_true rfl) rfl rfl (hA _ rfl) (Pr' := Fp E a (x0 / dv) g) (fun H H' h h1 h2 => by exact h1) ?_
        refine g_aload_n hF dX2_become_61 62 rfl rfl ?_
        refine g_lload_n hF dX2_become_62 63 rfl rfl ?_
        refine g_lload hF dX2_become_63 65 rfl rfl ?_
        refine g_ldiv hF dX2_become_65 66 rfl (hd) ?_
        refine g_put hF pl_X2_7 dX2_become_66 69 rfl (by intro H h; exact h) (Nat.le_of_ble_eq_true rfl) rfl rfl (hA _ rfl) (Pr' := Fp E a (x0 / dv) (y0 / dv)) (fun H H' h h1 h2 => by exact h1) ?_
        exact g_vret hF dX2_become_69 (Nat.le_of_ble_eq_true rfl) (Nat.le_of_ble_eq_true rfl) (fun H h => hR _ _ ⟨rfl, by rw [if_neg (lc_ge.mp c40)]; exact h⟩)
      · refine g_lload hF dX2_become_43 45 rfl rfl ?_
        refine g_lneg hF dX2_become_45 46 rfl ?_
        refine g_goto hF dX2_become_46 51 (by decide) ?_
        refine g_lstore hF dX2_become_51 53 rfl (lo' := [_, _, _, _, _, _, _, _, _]) (Nat.le_of_ble_eq_true rfl) rfl ?_
        refine g_aload_n hF dX2_become_53 54 rfl rfl ?_
        refine g_lload_n hF dX2_become_54 55 rfl rfl ?_
        refine g_lload hF dX2_become_55 57 rfl rfl ?_
        refine g_ldiv hF dX2_become_57 58 rfl (neg64_ne hd) ?_
        refine g_put hF pl_X2_23 dX2_become_58 61 rfl (by intro H h; exact h) (Nat.le_of_ble_eq_true rfl) rfl rfl (hA _ rfl) (Pr' := Fp E a (x0 / -dv) g) (fun H H' h h1 h2 => by exact h1) ?_
        refine g_aload_n hF dX2_become_61 62 rfl rfl ?_
        refine g_lload_n hF dX2_become_62 63 rfl rfl ?_
        refine g_lload hF dX2_become_63 65 rfl rfl ?_
        refine g_ldiv hF dX2_become_65 66 rfl (neg64_ne hd) ?_
        refine g_put hF pl_X2_7 dX2_become_66 69 rfl (by intro H h; exact h) (Nat.le_of_ble_eq_true rfl) rfl rfl (hA _ rfl) (Pr' := Fp E a (x0 / -dv) (y0 / -dv)) (fun H H' h h1 h2 => by exact h1) ?_
        exact g_vret hF dX2_become_69 (Nat.le_of_ble_eq_true rfl) (Nat.le_of_ble_eq_true rfl) (fun H h => hR _ _ ⟨rfl, by rw [if_pos (Classical.byContradiction fun z => c40 (lc_ge.mpr z))]; exact h⟩)
    · refine g_aload_n hF dX2_become_26 27 rfl rfl ?_
      refine g_lconst hF (0) dX2_become_27 28 rfl rfl ?_
      refine g_put hF pl_X2_23 dX2_become_28 31 rfl (by intro H h; exact h) (Nat.le_of_ble_eq_true rfl) rfl rfl (hA _ rfl) (Pr' := Fp E a 0 g) (fun H H' h h1 h2 => by exact h1) ?_
      refine g_aload_n hF dX2_become_31 32 rfl rfl ?_
      refine g_lconst hF (1) dX2_become_32 33 rfl rfl ?_
      refine g_put hF pl_X2_7 dX2_become_33 36 rfl (by intro H h; exact h) (Nat.le_of_ble_eq_true rfl) rfl rfl (hA _ rfl) (Pr' := Fp E a 0 1) (fun H H' h h1 h2 => by exact h1) ?_
      exact g_vret hF dX2_become_36 (Nat.le_of_ble_eq_true rfl) (Nat.le_of_ble_eq_true rfl) (fun H h => hR _ _ ⟨rfl, by rw [if_pos (Or.inr (lc_eq.mp c23))]; exact h⟩)
set_option maxRecDepth 100000 in
set_option maxHeartbeats 8000000 in
theorem c_F_part (l : Launch) (E : Ev) (a : Nat) (f g : Int64) (z : Int32) : Ct l E yX2_part cX2_part 2 (some .long) (rm 1) [.ref a, .int z] (Fp E a f g) (rV (some (.long (if z = 0 then f else g))) (Fp E a f g)) (fun _ => False) := by
  refine ct_start (by decide) [some (.ref a), some (.int z)] rfl (Nat.le_of_ble_eq_true rfl) ?_
  intro x hF hN0 hA hR
  refine g_iload_n hF dX2_part_0 1 rfl rfl ?_
  refine g_if_ne hF dX2_part_1 4 rfl 11 (by decide) (fun c1 => ?_) (fun c1 => ?_)
  · refine g_aload_n hF dX2_part_11 12 rfl rfl ?_
    refine g_get hF fl_X2_7 dX2_part_12 15 rfl (by intro H h; exact h) rfl ?_
    exact g_lret hF dX2_part_15 (Nat.le_of_ble_eq_true rfl) (Nat.le_of_ble_eq_true rfl) (fun H h => hR _ _ ⟨congrArg (fun z => some (Value.long z)) ((if_neg c1).symm), h⟩)
  · refine g_aload_n hF dX2_part_4 5 rfl rfl ?_
    refine g_get hF fl_X2_23 dX2_part_5 8 rfl (by intro H h; exact h) rfl ?_
    refine g_goto hF dX2_part_8 15 (by decide) ?_
    exact g_lret hF dX2_part_15 (Nat.le_of_ble_eq_true rfl) (Nat.le_of_ble_eq_true rfl) (fun H h => hR _ _ ⟨congrArg (fun z => some (Value.long z)) ((if_pos c1).symm), h⟩)
/-- the spread's fraction out of the mean's -/
def spr (m q : Int64) (n a : Int32) : Int64 × Int64 := bcm (m * ((q - m) * ((n + 1 - a).toInt64 * q + m) + a.toInt64 * q * q)) (q * q * ((n + 1 - a).toInt64 * q + m))
set_option maxRecDepth 100000 in
set_option maxHeartbeats 8000000 in
theorem c_F_spreadFromMean (l : Launch) (E : Ev) (a : Nat) (f g : Int64) (n c : Int32) : Ct l E yX2_spreadFromMean cX2_spreadFromMean 9 none (rm 3) [.ref a, .int n, .int c] (Fp E a f g) (rV none (Fp E a (spr f g n c).1 (spr f g n c).2)) (fun q => q = a) := by
  refine ct_start (by decide) [some (.ref a), some (.int n), some (.int c), none, none, none, none, none, none] rfl (Nat.le_of_ble_eq_true rfl) ?_
  intro x hF hN0 hA hR
  refine g_aload_n hF dX2_spreadFromMean_0 1 rfl rfl ?_
  refine g_get hF fl_X2_23 dX2_spreadFromMean_1 4 rfl (by intro H h; exact h) rfl ?_
  refine g_lstore_n hF dX2_spreadFromMean_4 5 rfl (lo' := [_, _, _, _, _, _, _, _, _]) (Nat.le_of_ble_eq_true rfl) rfl ?_
  refine g_aload_n hF dX2_spreadFromMean_5 6 rfl rfl ?_
  refine g_get hF fl_X2_7 dX2_spreadFromMean_6 9 rfl (by intro H h; exact h) rfl ?_
  refine g_lstore hF dX2_spreadFromMean_9 11 rfl (lo' := [_, _, _, _, _, _, _, _, _]) (Nat.le_of_ble_eq_true rfl) rfl ?_
  refine g_iload_n hF dX2_spreadFromMean_11 12 rfl rfl ?_
  refine g_iconst hF (1) dX2_spreadFromMean_12 13 rfl rfl ?_
  refine g_iadd hF dX2_spreadFromMean_13 14 rfl ?_
  refine g_iload_n hF dX2_spreadFromMean_14 15 rfl rfl ?_
  refine g_isub hF dX2_spreadFromMean_15 16 rfl ?_
  refine g_i2l hF dX2_spreadFromMean_16 17 rfl ?_
  refine g_lload hF dX2_spreadFromMean_17 19 rfl rfl ?_
  refine g_lmul hF dX2_spreadFromMean_19 20 rfl ?_
  refine g_lload_n hF dX2_spreadFromMean_20 21 rfl rfl ?_
  refine g_ladd hF dX2_spreadFromMean_21 22 rfl ?_
  refine g_lstore hF dX2_spreadFromMean_22 24 rfl (lo' := [_, _, _, _, _, _, _, _, _]) (Nat.le_of_ble_eq_true rfl) rfl ?_
  refine g_aload_n hF dX2_spreadFromMean_24 25 rfl rfl ?_
  refine g_lload_n hF dX2_spreadFromMean_25 26 rfl rfl ?_
  refine g_lload hF dX2_spreadFromMean_26 28 rfl rfl ?_
  refine g_lload_n hF dX2_spreadFromMean_28 29 rfl rfl ?_
  refine g_lsub hF dX2_spreadFromMean_29 30 rfl ?_
  refine g_lload hF dX2_spreadFromMean_30 32 rfl rfl ?_
  refine g_lmul hF dX2_spreadFromMean_32 33 rfl ?_
  refine g_iload_n hF dX2_spreadFromMean_33 34 rfl rfl ?_
  refine g_i2l hF dX2_spreadFromMean_34 35 rfl ?_
  refine g_lload hF dX2_spreadFromMean_35 37 rfl rfl ?_
  refine g_lmul hF dX2_spreadFromMean_37 38 rfl ?_
  refine g_lload hF dX2_spreadFromMean_38 40 rfl rfl ?_
  refine g_lmul hF dX2_spreadFromMean_40 41 rfl ?_
  refine g_ladd hF dX2_spreadFromMean_41 42 rfl ?_
  refine g_lmul hF dX2_spreadFromMean_42 43 rfl ?_
  refine g_lload hF dX2_spreadFromMean_43 45 rfl rfl ?_
  refine g_lload hF dX2_spreadFromMean_45 47 rfl rfl ?_
  refine g_lmul hF dX2_spreadFromMean_47 48 rfl ?_
  refine g_lload hF dX2_spreadFromMean_48 50 rfl rfl ?_
  refine g_lmul hF dX2_spreadFromMean_50 51 rfl ?_
  refine g_callV hF cv_X2_26 (c_F_become l E a f g _ _) dX2_spreadFromMean_51 54 rfl (st := []) rfl rfl ⟨Nat.le_of_ble_eq_true rfl, Nat.le_of_ble_eq_true rfl⟩ ⟨Nat.le_of_ble_eq_true rfl, Nat.le_of_ble_eq_true rfl⟩ rfl (Nat.le_of_ble_eq_true rfl) 2 rfl (by intro H h; exact h) (Pr' := _) (fun _ h => h) (hA) (fun _ _ _ h _ => by exact h) (st1 := []) rfl (k1 := 0) (n1 := 0) rfl rfl ?_
  exact g_vret hF dX2_spreadFromMean_54 (Nat.le_of_ble_eq_true rfl) (Nat.le_of_ble_eq_true rfl) (fun H h => hR _ _ ⟨rfl, h⟩)
end
section
/-! Together: all groups at once -/
def nN (gv : Nat → Int32) : Nat := (gv 0).toNatClampNeg
def nA (gv : Nat → Int32) : Nat := (gv 1).toNatClampNeg
def nR (gv : Nat → Int32) : Nat := (gv 2).toNatClampNeg
/-- P of a group with so much over, in thousandths -/
def pPn (N A R b : Nat) : Nat := 1000 * wt 1000000 1000 N A R b N / sW (wt 1000000 1000 N A R b) (N + 1)
def pP (gv : Nat → Int32) (b : Nat) : Nat := pPn (nN gv) (nA gv) (nR gv) b
/-- what the first k groups send over h -/
def sn (gs : Nat → Nat → Int32) (ls : Nat → Nat) : Nat → Nat → Nat
  | 0, _ => 0
  | k + 1, h => sn gs ls k h + if gs k 3 = nI h then nA (gs k) * ls k else 0
/-- B round by round -/
def Bt (gs : Nat → Nat → Int32) (G : Nat) : Nat → Nat → Nat
  | 0, _ => 0
  | t + 1, h => sn gs (fun g => pP (gs g) (Bt gs G t g)) G h
def stl (gs : Nat → Nat → Int32) (G : Nat) : Nat → Nat → Nat
  | 0, t => t
  | d + 1, t => if ∀ g, g < 4 → Bt gs G (t + 1) g = Bt gs G t g then t + 1 else stl gs G d (t + 1)
theorem sW_ge (w : Nat → Nat) : ∀ k j, j < k → w j ≤ sW w k
  | k + 1, j, h => by
    unfold sW
    by_cases e : j = k
    · subst e; omega
    · have := sW_ge w k j (by omega)
      omega
theorem pPn_le (N A R b : Nat) : pPn N A R b ≤ 1000 := by
  unfold pPn
  have h := sW_ge (wt 1000000 1000 N A R b) (N + 1) N (by omega)
  have h0 := sW_ge (wt 1000000 1000 N A R b) (N + 1) 0 (by omega)
  have h1 : wt 1000000 1000 N A R b 0 = 1000000 := rfl
  rw [h1] at h0
  calc 1000 * wt 1000000 1000 N A R b N / sW (wt 1000000 1000 N A R b) (N + 1) ≤ 1000 * sW (wt 1000000 1000 N A R b) (N + 1) / sW (wt 1000000 1000 N A R b) (N + 1) := Nat.div_le_div_right (Nat.mul_le_mul_left _ h)
    _ = 1000 := Nat.mul_div_cancel _ (by omega)
theorem sn_le {gs : Nat → Nat → Int32} {ls : Nat → Nat} {G T : Nat} (hG : G ≤ 4) (ho : ∀ g, g < 4 → okG G T g (gs g)) (hl : ∀ g, ls g ≤ 1000) (h : Nat) (hh : h < 2 ^ 31) : ∀ k, k ≤ 4 → sn gs ls k h ≤ 6000 * k ∧ (h < k → sn gs ls k h + 6000 ≤ 6000 * k)
  | 0, _ => ⟨Nat.le_refl 0, fun z => absurd z (by omega)⟩
  | k + 1, hk => by
    obtain ⟨h1, h2⟩ := sn_le hG ho hl h hh k (by omega)
    obtain ⟨-, ⟨A, a6, ha⟩, hov, -⟩ := ho k (by omega)
    have ht : nA (gs k) * ls k ≤ 6 * 1000 := Nat.mul_le_mul (by unfold nA; rw [ha, nI_clamp (by omega)]; exact a6) (hl k)
    unfold sn
    refine ⟨by split <;> omega, fun z => ?_⟩
    by_cases e : h = k
    · subst e
      have : ¬ gs h 3 = nI h := fun q => by
        rcases hov with q2 | ⟨o, o1, o2, q2⟩
        · exact nI_nm1 hh (q.symm.trans q2)
        · exact o2 ((nI_eq (by omega) (by omega)).mp (q2.symm.trans q))
      rw [if_neg this]
      omega
    · have := h2 (by omega)
      split <;> omega
theorem Bt_le {gs : Nat → Nat → Int32} {G T : Nat} (hG : G ≤ 4) (ho : ∀ g, g < 4 → okG G T g (gs g)) (t h : Nat) (hh : h < 4) : Bt gs G t h ≤ 18000 := by
  cases t with
  | zero => exact Nat.zero_le _
  | succ t =>
    unfold Bt
    have hs := sn_le hG ho (ls := fun g => pP (gs g) (Bt gs G t g)) (fun g => pPn_le _ _ _ _) h (by omega)
    rcases Nat.lt_or_ge G 4 with q | q
    · have := (hs G hG).1; omega
    · have := (hs G hG).2 (by omega); omega
def Tp (E : Ev) (a : Nat) (tl tn ts : Nat → Int32) (r : Int32) (H : Heap) : Prop := ob E 7 a [.ref (a + 1), .ref (a + 2), .ref (a + 3), .int r] H ∧ ai E (a + 1) 4 tl H ∧ ai E (a + 2) 4 tn H ∧ ai E (a + 3) 4 ts H
theorem Tp.kept {E : Ev} {a : Nat} {tl tn ts : Nat → Int32} {r : Int32} {H H' : Heap} (h : Tp E a tl tn ts r H) (hq : ∀ q, rg a 4 q → H'[q]? = H[q]?) : Tp E a tl tn ts r H' :=
  ⟨ob_kept h.1 (hq _ ⟨by omega, by omega⟩), ai_kept h.2.1 (hq _ ⟨by omega, by omega⟩), ai_kept h.2.2.1 (hq _ ⟨by omega, by omega⟩), ai_kept h.2.2.2 (hq _ ⟨by omega, by omega⟩)⟩
theorem Tp.le {E : Ev} {a : Nat} {tl tn ts : Nat → Int32} {r : Int32} {H : Heap} (h : Tp E a tl tn ts r H) : a + 4 ≤ H.size := va_at.lt h.2.2.2
theorem Tp.out {E : Ev} {a : Nat} {tl tn ts : Nat → Int32} {r : Int32} {A : Nat → Prop} {H H' : Heap} (h : Tp E a tl tn ts r H) (ho : out A H H') (hA : ∀ q, rg a 4 q → ¬ A q) : Tp E a tl tn ts r H' := h.kept (fun q hq => ho.2 q (Nat.lt_of_lt_of_le hq.2 h.le) (hA q hq))
theorem Wp.out {E : Ev} {a : Nat} {wf : Nat → Int64} {x y : Int32} {A : Nat → Prop} {H H' : Heap} (h : Wp E a wf x y H) (ho : out A H H') (hA : ∀ q, rg a 2 q → ¬ A q) : Wp E a wf x y H' := h.kept (fun q hq => ho.2 q (Nat.lt_of_lt_of_le hq.2 h.le) (hA q hq))
theorem Np.out {E : Ev} {a : Nat} {v : NV} {fss : Nat → Nat → Int32} {A : Nat → Prop} {H H' : Heap} (h : Np E a v fss H) (ho : out A H H') (hA : ∀ q, rg a 22 q → ¬ A q) : Np E a v fss H' := h.kept (fun q hq => ho.2 q (Nat.lt_of_lt_of_le hq.2 (np_le h)) (hA q hq))
theorem out_no {H H' : Heap} (h : out (fun _ => False) H H') {b : Nat} (hb : b < H.size) : H'[b]? = H[b]? := h.2 b hb (fun z => z)
set_option maxRecDepth 100000 in
set_option maxHeartbeats 8000000 in
theorem c_T_loadOver (l : Launch) (E : Ev) (a g : Nat) (tl tn ts : Nat → Int32) (r : Int32) (hg : g < 4) : Ct l E yX7_loadOver cX7_loadOver 2 (some .int) (rm 1) [.ref a, .int (nI g)] (Tp E a tl tn ts r) (rV (some (.int (tl g))) (Tp E a tl tn ts r)) (fun _ => False) := by
  refine ct_start (by decide) [some (.ref a), some (.int (nI g))] rfl (Nat.le_of_ble_eq_true rfl) ?_
  intro x hF hN0 hA hR
  refine g_iload_n hF dX7_loadOver_0 1 rfl rfl ?_
  refine g_if_lt hF dX7_loadOver_1 4 rfl 18 (by decide) (fun c => absurd c (nI_pos (by omega))) (fun _ => ?_)
  refine g_iload_n hF dX7_loadOver_4 5 rfl rfl ?_
  refine g_iconst hF (4) dX7_loadOver_5 6 rfl rfl ?_
  refine g_icmp_ge hF dX7_loadOver_6 9 rfl 18 (by decide) (fun c => absurd c (fun z => absurd (i_le (a := 4) z (by omega) (by omega)) (by omega))) (fun _ => ?_)
  refine g_aload_n hF dX7_loadOver_9 10 rfl rfl ?_
  refine g_get hF fl_X7_9 dX7_loadOver_10 13 rfl (by intro H h; first | exact h.1 | exact h.2.1 | exact h.2.2.1 | exact h.2.2.2) rfl ?_
  refine g_iload_n hF dX7_loadOver_13 14 rfl rfl ?_
  refine g_iald hF dX7_loadOver_14 15 rfl (by intro H h; first | exact h.1 | exact h.2.1 | exact h.2.2.1 | exact h.2.2.2) (vp_in_nI hg (by omega)) ?_
  rw [nI_clamp (by omega)]
  refine g_goto hF dX7_loadOver_15 19 (by decide) ?_
  exact g_iret hF dX7_loadOver_19 (Nat.le_of_ble_eq_true rfl) (Nat.le_of_ble_eq_true rfl) (fun H h => hR _ _ ⟨congrArg (fun z => some (Value.int z)) (rfl), h⟩)
set_option maxRecDepth 100000 in
set_option maxHeartbeats 8000000 in
theorem c_T_lossOf (l : Launch) (E : Ev) (a g : Nat) (tl tn ts : Nat → Int32) (r : Int32) (hg : g < 4) : Ct l E yX7_lossOf cX7_lossOf 2 (some .int) (rm 1) [.ref a, .int (nI g)] (Tp E a tl tn ts r) (rV (some (.int (ts g))) (Tp E a tl tn ts r)) (fun _ => False) := by
  refine ct_start (by decide) [some (.ref a), some (.int (nI g))] rfl (Nat.le_of_ble_eq_true rfl) ?_
  intro x hF hN0 hA hR
  refine g_iload_n hF dX7_lossOf_0 1 rfl rfl ?_
  refine g_if_lt hF dX7_lossOf_1 4 rfl 18 (by decide) (fun c => absurd c (nI_pos (by omega))) (fun _ => ?_)
  refine g_iload_n hF dX7_lossOf_4 5 rfl rfl ?_
  refine g_iconst hF (4) dX7_lossOf_5 6 rfl rfl ?_
  refine g_icmp_ge hF dX7_lossOf_6 9 rfl 18 (by decide) (fun c => absurd c (fun z => absurd (i_le (a := 4) z (by omega) (by omega)) (by omega))) (fun _ => ?_)
  refine g_aload_n hF dX7_lossOf_9 10 rfl rfl ?_
  refine g_get hF fl_X7_18 dX7_lossOf_10 13 rfl (by intro H h; first | exact h.1 | exact h.2.1 | exact h.2.2.1 | exact h.2.2.2) rfl ?_
  refine g_iload_n hF dX7_lossOf_13 14 rfl rfl ?_
  refine g_iald hF dX7_lossOf_14 15 rfl (by intro H h; first | exact h.1 | exact h.2.1 | exact h.2.2.1 | exact h.2.2.2) (vp_in_nI hg (by omega)) ?_
  rw [nI_clamp (by omega)]
  refine g_goto hF dX7_lossOf_15 19 (by decide) ?_
  exact g_iret hF dX7_lossOf_19 (Nat.le_of_ble_eq_true rfl) (Nat.le_of_ble_eq_true rfl) (fun H h => hR _ _ ⟨congrArg (fun z => some (Value.int z)) (rfl), h⟩)
set_option maxRecDepth 100000 in
set_option maxHeartbeats 8000000 in
theorem c_T_takeNewLoads (l : Launch) (E : Ev) (a : Nat) (tl tn ts : Nat → Int32) (r z : Int32) (hz : (z = 0 ∧ ∀ g, g < 4 → tl g = tn g) ∨ (z = 1 ∧ ∃ g, g < 4 ∧ ¬ tl g = tn g)) : Ct l E yX7_takeNewLoads cX7_takeNewLoads 3 (some .boolean) (rm 1) [.ref a] (Tp E a tl tn ts r) (rV (some (.int z)) (Tp E a tn tn ts r)) (rg a 4) := by
  refine ct_start (by decide) [some (.ref a), none, none] rfl (Nat.le_of_ble_eq_true rfl) ?_
  intro x hF hN0 hA hR
  have loop : ∀ (n j : Nat) (i ch : Int32) (tl' : Nat → Int32), 4 - j < n → j ≤ 4 → i = nI j → (∀ g, g < j → tl' g = tn g) → (∀ g, j ≤ g → tl' g = tl g) → ((ch = 0 ∧ ∀ g, g < j → tl g = tn g) ∨ (ch = 1 ∧ ∃ g, g < j ∧ ¬ tl g = tn g)) → go l (rm 1) E x 0 0 (Tp E a tl' tn ts r) [some (.ref a), some (.int ch), some (.int i)] 4 [] := by
    intro n
    induction n with
    | zero => intro j i ch tl' h; omega
    | succ n ih =>
      intro j i ch tl' hn0 hj hi h1 h2 hch
      subst hi
      have hcl : (nI j).toNatClampNeg = j := nI_clamp (by omega)
      have hup : ∀ g, g < j + 1 → upd tl' j (tn j) g = tn g := fun g hg => if e : g = j then by rw [e, pk_us] else by rw [pk_un e]; exact h1 g (by omega)
      have hup2 : ∀ g, j + 1 ≤ g → upd tl' j (tn j) g = tl g := fun g hg => by rw [pk_un (by omega)]; exact h2 g (by omega)
      refine g_iload_n hF dX7_takeNewLoads_4 5 rfl rfl ?_
      refine g_iconst hF (4) dX7_takeNewLoads_5 6 rfl rfl ?_
      refine g_icmp_ge hF dX7_takeNewLoads_6 9 rfl 50 (by decide) (fun c6 => ?_) (fun c6 => ?_)
      · have e4 := i_le (a := 4) c6 (by omega) (by omega)
        have hzz : ch = z := by
          rcases hch with ⟨q1, q2⟩ | ⟨q1, g, q2, q3⟩
          · exact q1.trans (hz.elim (fun q => q.1) (fun ⟨_, g, g1, g2⟩ => absurd (q2 g (by omega)) g2)).symm
          · exact q1.trans (hz.elim (fun q => absurd (q.2 g (by omega)) q3) (fun q => q.1)).symm
        refine g_iload_n hF dX7_takeNewLoads_50 51 rfl rfl ?_
        exact g_zret hF (by rcases hch with ⟨q1, -⟩ | ⟨q1, -⟩ <;> subst q1 <;> rfl) dX7_takeNewLoads_51 (Nat.le_of_ble_eq_true rfl) (Nat.le_of_ble_eq_true rfl) (fun H h => hR _ _ ⟨congrArg (fun z => some (Value.int z)) (hzz), ⟨h.1, ai_congr (fun g hg => h1 g (by omega)) h.2.1, h.2.2⟩⟩)
      · have hlt : j < 4 := i_nle (a := 4) c6 (by omega) (by omega)
        refine g_iload_n hF dX7_takeNewLoads_9 10 rfl rfl ?_
        refine g_aload_n hF dX7_takeNewLoads_10 11 rfl rfl ?_
        refine g_get hF fl_X7_9 dX7_takeNewLoads_11 14 rfl (by intro H h; first | exact h.1 | exact h.2.1 | exact h.2.2.1 | exact h.2.2.2) rfl ?_
        refine g_iload_n hF dX7_takeNewLoads_14 15 rfl rfl ?_
        refine g_iald hF dX7_takeNewLoads_15 16 rfl (by intro H h; first | exact h.1 | exact h.2.1 | exact h.2.2.1 | exact h.2.2.2) (vp_in_nI hlt (by omega)) ?_
        refine g_aload_n hF dX7_takeNewLoads_16 17 rfl rfl ?_
        refine g_get hF fl_X7_15 dX7_takeNewLoads_17 20 rfl (by intro H h; first | exact h.1 | exact h.2.1 | exact h.2.2.1 | exact h.2.2.2) rfl ?_
        refine g_iload_n hF dX7_takeNewLoads_20 21 rfl rfl ?_
        refine g_iald hF dX7_takeNewLoads_21 22 rfl (by intro H h; first | exact h.1 | exact h.2.1 | exact h.2.2.1 | exact h.2.2.2) (vp_in_nI hlt (by omega)) ?_
        rw [hcl, h2 j (by omega)]
        refine g_icmp_eq hF dX7_takeNewLoads_22 25 rfl 29 (by decide) (fun c22 => ?_) (fun c22 => ?_)
        · refine g_iconst hF (0) dX7_takeNewLoads_29 30 rfl rfl ?_
          refine g_ior hF dX7_takeNewLoads_30 31 rfl ?_
          refine g_istore_n hF dX7_takeNewLoads_31 32 rfl (lo' := [_, _, _]) (Nat.le_of_ble_eq_true rfl) rfl ?_
          refine g_aload_n hF dX7_takeNewLoads_32 33 rfl rfl ?_
          refine g_get hF fl_X7_9 dX7_takeNewLoads_33 36 rfl (by intro H h; first | exact h.1 | exact h.2.1 | exact h.2.2.1 | exact h.2.2.2) rfl ?_
          refine g_iload_n hF dX7_takeNewLoads_36 37 rfl rfl ?_
          refine g_aload_n hF dX7_takeNewLoads_37 38 rfl rfl ?_
          refine g_get hF fl_X7_15 dX7_takeNewLoads_38 41 rfl (by intro H h; first | exact h.1 | exact h.2.1 | exact h.2.2.1 | exact h.2.2.2) rfl ?_
          refine g_iload_n hF dX7_takeNewLoads_41 42 rfl rfl ?_
          refine g_iald hF dX7_takeNewLoads_42 43 rfl (by intro H h; first | exact h.1 | exact h.2.1 | exact h.2.2.1 | exact h.2.2.2) (vp_in_nI hlt (by omega)) ?_
          rw [hcl]
          refine g_iast hF dX7_takeNewLoads_43 44 rfl (by intro H h; first | exact h.1 | exact h.2.1 | exact h.2.2.1 | exact h.2.2.2) (vp_in_nI hlt (by omega)) (hA _ ⟨by omega, by omega⟩) (Pr' := Tp E a (upd tl' j (tn j)) tn ts r) (fun H H' h h1 h2 => by rw [hcl] at h1; exact ⟨ob_kept h.1 (h2.2 _ (by omega)), h1, ai_kept h.2.2.1 (h2.2 _ (by omega)), ai_kept h.2.2.2 (h2.2 _ (by omega))⟩) ?_
          refine g_iinc hF dX7_takeNewLoads_44 47 rfl (1) rfl (lo' := [_, _, _]) rfl rfl ?_
          refine g_goto hF dX7_takeNewLoads_47 4 (by decide) ?_
          refine ih (j + 1) _ _ _ (by omega) (by omega) (nI_succ j).symm hup hup2 ?_
          rcases hch with ⟨q1, q2⟩ | ⟨q1, g, q2, q3⟩
          · subst q1
            exact Or.inl ⟨by decide, fun g hg => if e : g = j then e ▸ c22 else q2 g (by omega)⟩
          · subst q1
            exact Or.inr ⟨by decide, g, by omega, q3⟩
        · refine g_iconst hF (1) dX7_takeNewLoads_25 26 rfl rfl ?_
          refine g_goto hF dX7_takeNewLoads_26 30 (by decide) ?_
          refine g_ior hF dX7_takeNewLoads_30 31 rfl ?_
          refine g_istore_n hF dX7_takeNewLoads_31 32 rfl (lo' := [_, _, _]) (Nat.le_of_ble_eq_true rfl) rfl ?_
          refine g_aload_n hF dX7_takeNewLoads_32 33 rfl rfl ?_
          refine g_get hF fl_X7_9 dX7_takeNewLoads_33 36 rfl (by intro H h; first | exact h.1 | exact h.2.1 | exact h.2.2.1 | exact h.2.2.2) rfl ?_
          refine g_iload_n hF dX7_takeNewLoads_36 37 rfl rfl ?_
          refine g_aload_n hF dX7_takeNewLoads_37 38 rfl rfl ?_
          refine g_get hF fl_X7_15 dX7_takeNewLoads_38 41 rfl (by intro H h; first | exact h.1 | exact h.2.1 | exact h.2.2.1 | exact h.2.2.2) rfl ?_
          refine g_iload_n hF dX7_takeNewLoads_41 42 rfl rfl ?_
          refine g_iald hF dX7_takeNewLoads_42 43 rfl (by intro H h; first | exact h.1 | exact h.2.1 | exact h.2.2.1 | exact h.2.2.2) (vp_in_nI hlt (by omega)) ?_
          rw [hcl]
          refine g_iast hF dX7_takeNewLoads_43 44 rfl (by intro H h; first | exact h.1 | exact h.2.1 | exact h.2.2.1 | exact h.2.2.2) (vp_in_nI hlt (by omega)) (hA _ ⟨by omega, by omega⟩) (Pr' := Tp E a (upd tl' j (tn j)) tn ts r) (fun H H' h h1 h2 => by rw [hcl] at h1; exact ⟨ob_kept h.1 (h2.2 _ (by omega)), h1, ai_kept h.2.2.1 (h2.2 _ (by omega)), ai_kept h.2.2.2 (h2.2 _ (by omega))⟩) ?_
          refine g_iinc hF dX7_takeNewLoads_44 47 rfl (1) rfl (lo' := [_, _, _]) rfl rfl ?_
          refine g_goto hF dX7_takeNewLoads_47 4 (by decide) ?_
          refine ih (j + 1) _ _ _ (by omega) (by omega) (nI_succ j).symm hup hup2 ?_
          refine Or.inr ⟨?_, j, by omega, c22⟩
          rcases hch with ⟨q1, -⟩ | ⟨q1, -⟩ <;> subst q1 <;> decide
  refine g_iconst hF (0) dX7_takeNewLoads_0 1 rfl rfl ?_
  refine g_istore_n hF dX7_takeNewLoads_1 2 rfl (lo' := [_, _, _]) (Nat.le_of_ble_eq_true rfl) rfl ?_
  refine g_iconst hF (0) dX7_takeNewLoads_2 3 rfl rfl ?_
  refine g_istore_n hF dX7_takeNewLoads_3 4 rfl (lo' := [_, _, _]) (Nat.le_of_ble_eq_true rfl) rfl ?_
  exact loop 5 0 0 0 tl (by omega) (by omega) nI_0.symm (fun g hg => by omega) (fun g _ => rfl) (Or.inl ⟨rfl, fun g hg => by omega⟩)
end
section
/-! Together: a round, all rounds -/
def TNW (E : Ev) (a c w : Nat) (tl tn ts : Nat → Int32) (r : Int32) (v : NV) (fss : Nat → Nat → Int32) (wf : Nat → Int64) (x y : Int32) (H : Heap) : Prop := Tp E a tl tn ts r H ∧ Np E c v fss H ∧ Wp E w wf x y H
theorem sW_le7 {w : Nat → Nat} {B : Nat} (h : ∀ k, k < 7 → w k ≤ B) : ∀ k, k ≤ 7 → sW w k ≤ k * B
  | 0, _ => Nat.zero_le _
  | k + 1, hk => by
    have := sW_le7 h k (by omega)
    have := h k (by omega)
    unfold sW
    rw [Nat.succ_mul]
    omega
theorem TNW.no {E : Ev} {a c w : Nat} {tl tn ts : Nat → Int32} {r : Int32} {v : NV} {fss : Nat → Nat → Int32} {wf : Nat → Int64} {x y : Int32} {H H' : Heap} (h : TNW E a c w tl tn ts r v fss wf x y H) (ho : out (fun _ => False) H H') : TNW E a c w tl tn ts r v fss wf x y H' :=
  ⟨h.1.out ho (fun _ _ z => z), h.2.1.out ho (fun _ _ z => z), h.2.2.out ho (fun _ _ z => z)⟩
theorem TNW.ts {E : Ev} {a c w : Nat} {tl tn ts ts' : Nat → Int32} {r : Int32} {v : NV} {fss : Nat → Nat → Int32} {wf : Nat → Int64} {x y : Int32} {H H' : Heap} (hac : a + 4 ≤ c ∨ c + 22 ≤ a) (haw : a + 4 ≤ w ∨ w + 2 ≤ a) (h : TNW E a c w tl tn ts r v fss wf x y H) (h1 : ai E (a + 3) 4 ts' H') (h2 : but (a + 3) H H') : TNW E a c w tl tn ts' r v fss wf x y H' :=
  ⟨⟨ob_kept h.1.1 (h2.2 _ (by omega)), ai_kept h.1.2.1 (h2.2 _ (by omega)), ai_kept h.1.2.2.1 (h2.2 _ (by omega)), h1⟩, h.2.1.kept (fun q hq => h2.2 q (by have := hq.1; have := hq.2; omega)), h.2.2.kept (fun q hq => h2.2 q (by have := hq.1; have := hq.2; omega))⟩
set_option maxRecDepth 100000 in
set_option maxHeartbeats 8000000 in
theorem c_T_loseEach (l : Launch) (E : Ev) (a c w : Nat) (tl tn ts0 : Nat → Int32) (r : Int32) (v : NV) (fss : Nat → Nat → Int32) (wf0 : Nat → Int64) (x0 y0 : Int32) (G T : Nat) (b : Nat → Nat) (hG : v.1 = nI G) (hG4 : G ≤ 4) (ho : ∀ g, g < 4 → okG G T g (v.2.2.2 g)) (hb : ∀ g, g < 4 → tl g = nI (b g) ∧ b g ≤ 18000) (hac : a + 4 ≤ c ∨ c + 22 ≤ a) (haw : a + 4 ≤ w ∨ w + 2 ≤ a) (hcw : c + 22 ≤ w ∨ w + 2 ≤ c) : Ct l E yX7_loseEach cX7_loseEach 7 none (rm 3) [.ref a, .ref c, .ref w] (TNW E a c w tl tn ts0 r v fss wf0 x0 y0) (rV none (fun H => ∃ ts wf x y, (∀ g, g < G → ts g = nI (pP (v.2.2.2 g) (b g))) ∧ TNW E a c w tl tn ts r v fss wf x y H)) (fun q => rg a 4 q ∨ rg w 2 q) := by
  refine ct_start (by decide) [some (.ref a), some (.ref c), some (.ref w), none, none, none, none] rfl (Nat.le_of_ble_eq_true rfl) ?_
  intro x hF hN0 hA hR
  have e6 : (1000000 : Int64) = lN 1000000 := by decide
  have e3 : (1000 : Int32) = nI 1000 := by decide
  have e3l : (1000 : Int64) = lN 1000 := by decide
  have loop : ∀ (n j : Nat) (i : Int32) (ts : Nat → Int32) (wf : Nat → Int64) (x1 y1 : Int32), G - j < n → j ≤ G → i = nI j → (∀ g, g < j → ts g = nI (pP (v.2.2.2 g) (b g))) → go l (rm 3) E x 0 0 (TNW E a c w tl tn ts r v fss wf x1 y1) [some (.ref a), some (.ref c), some (.ref w), some (.int i), none, none, none] 2 [] := by
    intro n
    induction n with
    | zero => intro j i ts wf x1 y1 h; omega
    | succ n ih =>
      intro j i ts wf x1 y1 hn0 hj hi hts
      subst hi
      have hcl : j < 4 → (nI j).toNatClampNeg = j := fun h => nI_clamp (by omega)
      refine g_iload_n hF dX7_loseEach_2 3 rfl rfl ?_
      refine g_aload_n hF dX7_loseEach_3 4 rfl rfl ?_
      refine g_get hF fl_X7_43 dX7_loseEach_4 7 rfl (by intro H h; first | exact h.1.1 | exact h.1.2.1 | exact h.1.2.2.1 | exact h.1.2.2.2 | exact h.2.1.1 | exact h.2.1.2.1 | exact h.2.2.1 | exact h.2.2.2 | exact (h.2.1.2.2 j hj4).1) rfl ?_
      refine g_icmp_ge hF dX7_loseEach_7 10 rfl 90 (by decide) (fun c7 => ?_) (fun c7 => ?_)
      · exact g_vret hF dX7_loseEach_90 (Nat.le_of_ble_eq_true rfl) (Nat.le_of_ble_eq_true rfl) (fun H h => hR _ _ ⟨rfl, ⟨ts, wf, x1, y1, fun g hg => hts g (by have := i_le (hG ▸ c7) (by omega) (by omega); omega), h⟩⟩)
      · have hlt : j < G := i_nle (hG ▸ c7) (by omega) (by omega)
        have hj4 : j < 4 := by omega
        obtain ⟨⟨N, n1, n6, n0, R, rN, r0⟩, ⟨A, a6, ha⟩, -⟩ := ho j hj4
        obtain ⟨hb1, hb2⟩ := hb j hj4
        have ep : pP (v.2.2.2 j) (b j) = 1000 * wt 1000000 1000 N A R (b j) N / sW (wt 1000000 1000 N A R (b j)) (N + 1) := by unfold pP pPn nN nA nR; rw [n0, ha, r0, nI_clamp (by omega), nI_clamp (by omega), nI_clamp (by omega)]
        have hwN := wt_lt (first := 1000000) (parts := 1000) (N := N) (R := R) (k := N) (by omega) (by omega) a6 (show b j ≤ 18 * 1000 by omega) n6
        have hs0 : 1000000 ≤ sW (wt 1000000 1000 N A R (b j)) (N + 1) := sW_ge (wt 1000000 1000 N A R (b j)) (N + 1) 0 (by omega)
        have hs1 := sW_le7 (w := wt 1000000 1000 N A R (b j)) (B := 191102976000000) (fun k hk => wt_lt (by omega) (by omega) a6 (show b j ≤ 18 * 1000 by omega) (show k ≤ 6 by omega)) (N + 1) (show N + 1 ≤ 7 by omega)
        have hs2 : (N + 1) * 191102976000000 ≤ 7 * 191102976000000 := Nat.mul_le_mul_right _ (by omega)
        refine g_aload_n hF dX7_loseEach_10 11 rfl rfl ?_
        refine g_get hF fl_X7_48 dX7_loseEach_11 14 rfl (by intro H h; first | exact h.1.1 | exact h.1.2.1 | exact h.1.2.2.1 | exact h.1.2.2.2 | exact h.2.1.1 | exact h.2.1.2.1 | exact h.2.2.1 | exact h.2.2.2 | exact (h.2.1.2.2 j hj4).1) rfl ?_
        refine g_iload_n hF dX7_loseEach_14 15 rfl rfl ?_
        refine g_aald hF 3 dX7_loseEach_15 16 rfl rfl (by intro H h; first | exact h.1.1 | exact h.1.2.1 | exact h.1.2.2.1 | exact h.1.2.2.2 | exact h.2.1.1 | exact h.2.1.2.1 | exact h.2.2.1 | exact h.2.2.2 | exact (h.2.1.2.2 j hj4).1) (vp_in_nI hj4 (by omega)) (n_aa hj4) ?_
        refine g_astore hF dX7_loseEach_16 18 rfl (lo' := [_, _, _, _, _, _, _]) (Nat.le_of_ble_eq_true rfl) rfl ?_
        refine g_aload_n hF dX7_loseEach_18 19 rfl rfl ?_
        refine g_ldc2 hF kc_X7_52 dX7_loseEach_19 22 rfl ?_
        refine g_sipush hF (1000) dX7_loseEach_22 25 rfl rfl ?_
        refine g_aload hF dX7_loseEach_25 27 rfl rfl ?_
        refine g_get hF fl_X7_54 dX7_loseEach_27 30 rfl (by intro H h; first | exact h.1.1 | exact h.1.2.1 | exact h.1.2.2.1 | exact h.1.2.2.2 | exact h.2.1.1 | exact h.2.1.2.1 | exact h.2.2.1 | exact h.2.2.2 | exact (h.2.1.2.2 j hj4).1) rfl ?_
        refine g_aload hF dX7_loseEach_30 32 rfl rfl ?_
        refine g_get hF fl_X7_59 dX7_loseEach_32 35 rfl (by intro H h; first | exact h.1.1 | exact h.1.2.1 | exact h.1.2.2.1 | exact h.1.2.2.2 | exact h.2.1.1 | exact h.2.1.2.1 | exact h.2.2.1 | exact h.2.2.2 | exact (h.2.1.2.2 j hj4).1) rfl ?_
        refine g_aload hF dX7_loseEach_35 37 rfl rfl ?_
        refine g_get hF fl_X7_62 dX7_loseEach_37 40 rfl (by intro H h; first | exact h.1.1 | exact h.1.2.1 | exact h.1.2.2.1 | exact h.1.2.2.2 | exact h.2.1.1 | exact h.2.1.2.1 | exact h.2.2.1 | exact h.2.2.2 | exact (h.2.1.2.2 j hj4).1) rfl ?_
        refine g_aload_n hF dX7_loseEach_40 41 rfl rfl ?_
        refine g_get hF fl_X7_9 dX7_loseEach_41 44 rfl (by intro H h; first | exact h.1.1 | exact h.1.2.1 | exact h.1.2.2.1 | exact h.1.2.2.2 | exact h.2.1.1 | exact h.2.1.2.1 | exact h.2.2.1 | exact h.2.2.2 | exact (h.2.1.2.2 j hj4).1) rfl ?_
        refine g_iload_n hF dX7_loseEach_44 45 rfl rfl ?_
        refine g_iald hF dX7_loseEach_45 46 rfl (by intro H h; first | exact h.1.1 | exact h.1.2.1 | exact h.1.2.2.1 | exact h.1.2.2.2 | exact h.2.1.1 | exact h.2.1.2.1 | exact h.2.2.1 | exact h.2.2.2 | exact (h.2.1.2.2 j hj4).1) (vp_in_nI hj4 (by omega)) ?_
        rw [hcl hj4, hb1, n0, ha, r0, e3, e6]
        refine g_callV hF cv_X7_65 (c_W_weigh l E w 1000000 1000 N A R (b j) wf x1 y1 (by omega) (by omega) (by omega) n6 a6 (by omega) (by omega)) dX7_loseEach_46 49 rfl (st := []) rfl rfl ⟨Nat.le_of_ble_eq_true rfl, Nat.le_of_ble_eq_true rfl⟩ ⟨Nat.le_of_ble_eq_true rfl, Nat.le_of_ble_eq_true rfl⟩ rfl (Nat.le_of_ble_eq_true rfl) 8 rfl (by intro H h; first | exact h.1.1 | exact h.1.2.1 | exact h.1.2.2.1 | exact h.1.2.2.2 | exact h.2.1.1 | exact h.2.1.2.1 | exact h.2.2.1 | exact h.2.2.2 | exact (h.2.1.2.2 j hj4).1) (Pr' := fun H => ∃ wf', (∀ k, k ≤ N → wf' k = lN (wt 1000000 1000 N A R (b j) k)) ∧ TNW E a c w tl tn ts r v fss wf' (nI N) (nI R) H) (fun H h => h.2.2) (fun q hq => hA q (Or.inr hq)) (fun H H' h h1 h2 => by obtain ⟨wf', q1, q2⟩ := h1; exact ⟨wf', q1, h.1.out h2 (fun q z y => by have := z.1; have := z.2; have := y.1; have := y.2; omega), h.2.1.out h2 (fun q z y => by have := z.1; have := z.2; have := y.1; have := y.2; omega), q2⟩) (st1 := []) rfl (k1 := 0) (n1 := 0) rfl rfl ?_
        refine g_ex (fun wf' => ?_)
        refine g_pure (fun H h => h.1) (fun hw => ?_)
        refine g_pr (fun H h => h.2) ?_
        refine g_aload_n hF dX7_loseEach_49 50 rfl rfl ?_
        refine g_callV hF cv_X7_71 (c_W_all l E w N R (wt 1000000 1000 N A R (b j)) wf' n6 hw) dX7_loseEach_50 53 rfl (st := []) rfl rfl ⟨Nat.le_of_ble_eq_true rfl, Nat.le_of_ble_eq_true rfl⟩ ⟨Nat.le_of_ble_eq_true rfl, Nat.le_of_ble_eq_true rfl⟩ rfl (Nat.le_of_ble_eq_true rfl) 8 rfl (by intro H h; first | exact h.1.1 | exact h.1.2.1 | exact h.1.2.2.1 | exact h.1.2.2.2 | exact h.2.1.1 | exact h.2.1.2.1 | exact h.2.2.1 | exact h.2.2.2 | exact (h.2.1.2.2 j hj4).1) (Pr' := TNW E a c w tl tn ts r v fss wf' (nI N) (nI R)) (fun H h => h.2.2) (fun q z => z.elim) (fun H H' h h1 h2 => by exact h.no h2) (st1 := [_]) rfl (k1 := 0) (n1 := 0) rfl rfl ?_
        refine g_lstore hF dX7_loseEach_53 55 rfl (lo' := [_, _, _, _, _, _, _]) (Nat.le_of_ble_eq_true rfl) rfl ?_
        refine g_aload_n hF dX7_loseEach_55 56 rfl rfl ?_
        refine g_get hF fl_X7_18 dX7_loseEach_56 59 rfl (by intro H h; first | exact h.1.1 | exact h.1.2.1 | exact h.1.2.2.1 | exact h.1.2.2.2 | exact h.2.1.1 | exact h.2.1.2.1 | exact h.2.2.1 | exact h.2.2.2 | exact (h.2.1.2.2 j hj4).1) rfl ?_
        refine g_iload_n hF dX7_loseEach_59 60 rfl rfl ?_
        refine g_lload hF dX7_loseEach_60 62 rfl rfl ?_
        refine g_lconst hF (0) dX7_loseEach_62 63 rfl rfl ?_
        refine g_lcmp hF dX7_loseEach_63 64 rfl ?_
        refine g_if_le hF dX7_loseEach_64 67 rfl 82 (by decide) (fun c => absurd c (fun z => lc_le.mp z ((pk_lLT (a := 0) (by omega) (by omega)).mpr (by omega)))) (fun _ => ?_)
        refine g_ldc2 hF kc_X7_75 dX7_loseEach_67 70 rfl ?_
        refine g_aload_n hF dX7_loseEach_70 71 rfl rfl ?_
        refine g_callV hF cv_X7_77 (c_W_ofAllHeld l E w N R (wt 1000000 1000 N A R (b j)) wf' n6 hw) dX7_loseEach_71 74 rfl (st := [_, _, _]) rfl rfl ⟨Nat.le_of_ble_eq_true rfl, Nat.le_of_ble_eq_true rfl⟩ ⟨Nat.le_of_ble_eq_true rfl, Nat.le_of_ble_eq_true rfl⟩ rfl (Nat.le_of_ble_eq_true rfl) 8 rfl (by intro H h; first | exact h.1.1 | exact h.1.2.1 | exact h.1.2.2.1 | exact h.1.2.2.2 | exact h.2.1.1 | exact h.2.1.2.1 | exact h.2.2.1 | exact h.2.2.2 | exact (h.2.1.2.2 j hj4).1) (Pr' := TNW E a c w tl tn ts r v fss wf' (nI N) (nI R)) (fun H h => h.2.2) (fun q z => z.elim) (fun H H' h h1 h2 => by exact h.no h2) (st1 := [_, _, _, _]) rfl (k1 := 0) (n1 := 0) rfl rfl ?_
        refine g_lmul hF dX7_loseEach_74 75 rfl ?_
        rw [e3l, lN_mul]
        refine g_lload hF dX7_loseEach_75 77 rfl rfl ?_
        refine g_ldiv hF dX7_loseEach_77 78 rfl (fun z => absurd ((pk_lEQ (b := 0) (by omega) (by omega)).mp z) (by omega)) ?_
        rw [pk_lDiv (by omega) (by omega) (by omega)]
        refine g_l2i hF dX7_loseEach_78 79 rfl ?_
        rw [lN_i, ← ep]
        refine g_goto hF dX7_loseEach_79 83 (by decide) ?_
        refine g_iast hF dX7_loseEach_83 84 rfl (by intro H h; first | exact h.1.1 | exact h.1.2.1 | exact h.1.2.2.1 | exact h.1.2.2.2 | exact h.2.1.1 | exact h.2.1.2.1 | exact h.2.2.1 | exact h.2.2.2 | exact (h.2.1.2.2 j hj4).1) (vp_in_nI hj4 (by omega)) (hA _ (Or.inl ⟨by omega, by omega⟩)) (Pr' := TNW E a c w tl tn (upd ts j (nI (pP (v.2.2.2 j) (b j)))) r v fss wf' (nI N) (nI R)) (fun H H' h h1 h2 => by rw [hcl hj4] at h1; exact TNW.ts hac haw h h1 h2) ?_
        refine g_iinc hF dX7_loseEach_84 87 rfl (1) rfl (lo' := [_, _, _, _, _, _, _]) rfl rfl ?_
        refine g_goto hF dX7_loseEach_87 2 (by decide) ?_
        refine g_cut [true, true, true, true, false, false, false] (lo' := [_, _, _, _, _, _, _]) rfl ?_
        exact ih (j + 1) _ _ _ _ _ (by omega) (by omega) (nI_succ j).symm (fun g hg => if e : g = j then by rw [e, pk_us] else by rw [pk_un e]; exact hts g (by omega))
  refine g_iconst hF (0) dX7_loseEach_0 1 rfl rfl ?_
  refine g_istore_n hF dX7_loseEach_1 2 rfl (lo' := [_, _, _, _, _, _, _]) (Nat.le_of_ble_eq_true rfl) rfl ?_
  exact loop (G + 1) 0 0 _ _ _ _ (by omega) (by omega) nI_0.symm (fun g hg => by omega)
def TN (E : Ev) (a c : Nat) (tl tn ts : Nat → Int32) (r : Int32) (v : NV) (fss : Nat → Nat → Int32) (H : Heap) : Prop := Tp E a tl tn ts r H ∧ Np E c v fss H
set_option maxRecDepth 100000 in
set_option maxHeartbeats 8000000 in
theorem c_T_sendOver (l : Launch) (E : Ev) (a c : Nat) (tl tn0 ts : Nat → Int32) (r : Int32) (v : NV) (fss : Nat → Nat → Int32) (G T : Nat) (ls : Nat → Nat) (hG : v.1 = nI G) (hG4 : G ≤ 4) (ho : ∀ g, g < 4 → okG G T g (v.2.2.2 g)) (hl : ∀ g, g < G → ts g = nI (ls g)) (hac : a + 4 ≤ c ∨ c + 22 ≤ a) : Ct l E yX7_sendOver cX7_sendOver 4 none (rm 2) [.ref a, .ref c] (TN E a c tl tn0 ts r v fss) (rV none (fun H => ∃ tn, (∀ h, h < 4 → tn h = nI (sn v.2.2.2 ls G h)) ∧ TN E a c tl tn ts r v fss H)) (rg a 4) := by
  refine ct_start (by decide) [some (.ref a), some (.ref c), none, none] rfl (Nat.le_of_ble_eq_true rfl) ?_
  intro x hF hN0 hA hR
  have loop : ∀ (n j : Nat) (i : Int32) (tn : Nat → Int32), G - j < n → j ≤ G → i = nI j → (∀ h, h < 4 → tn h = nI (sn v.2.2.2 ls j h)) → go l (rm 2) E x 0 0 (TN E a c tl tn ts r v fss) [some (.ref a), some (.ref c), some (.int i), none] 10 [] := by
    intro n
    induction n with
    | zero => intro j i tn h; omega
    | succ n ih =>
      intro j i tn hn0 hj hi htn
      subst hi
      have hcl : j < 4 → (nI j).toNatClampNeg = j := fun h => nI_clamp (by omega)
      by_cases hlt : j < G
      · have hj4 : j < 4 := by omega
        obtain ⟨-, ⟨A, a6, ha⟩, hov, -⟩ := ho j hj4
        rcases hov with ho3 | ⟨o, o1, o2, o3⟩
        · refine g_iload_n hF dX7_sendOver_10 11 rfl rfl ?_
          refine g_aload_n hF dX7_sendOver_11 12 rfl rfl ?_
          refine g_get hF fl_X7_43 dX7_sendOver_12 15 rfl (by intro H h; first | exact h.1.1 | exact h.1.2.1 | exact h.1.2.2.1 | exact h.1.2.2.2 | exact h.2.1 | exact h.2.2.1 | exact (h.2.2.2 j hj4).1) rfl ?_
          refine g_icmp_ge hF dX7_sendOver_15 18 rfl 65 (by decide) (fun c => absurd c (fun z => absurd (i_le (hG ▸ z) (by omega) (by omega)) (by omega))) (fun _ => ?_)
          refine g_aload_n hF dX7_sendOver_18 19 rfl rfl ?_
          refine g_get hF fl_X7_48 dX7_sendOver_19 22 rfl (by intro H h; first | exact h.1.1 | exact h.1.2.1 | exact h.1.2.2.1 | exact h.1.2.2.2 | exact h.2.1 | exact h.2.2.1 | exact (h.2.2.2 j hj4).1) rfl ?_
          refine g_iload_n hF dX7_sendOver_22 23 rfl rfl ?_
          refine g_aald hF 3 dX7_sendOver_23 24 rfl rfl (by intro H h; first | exact h.1.1 | exact h.1.2.1 | exact h.1.2.2.1 | exact h.1.2.2.2 | exact h.2.1 | exact h.2.2.1 | exact (h.2.2.2 j hj4).1) (vp_in_nI hj4 (by omega)) (n_aa hj4) ?_
          refine g_astore_n hF dX7_sendOver_24 25 rfl (lo' := [_, _, _, _]) (Nat.le_of_ble_eq_true rfl) rfl ?_
          refine g_aload_n hF dX7_sendOver_25 26 rfl rfl ?_
          refine g_aload_n hF dX7_sendOver_26 27 rfl rfl ?_
          refine g_get hF fl_X7_80 dX7_sendOver_27 30 rfl (by intro H h; first | exact h.1.1 | exact h.1.2.1 | exact h.1.2.2.1 | exact h.1.2.2.2 | exact h.2.1 | exact h.2.2.1 | exact (h.2.2.2 j hj4).1) rfl ?_
          rw [ho3]
          refine g_callV hF cv_X7_83 (c_N_groupAtN l E c v fss (-1) (Or.inl (by decide))) dX7_sendOver_30 33 rfl (st := []) rfl rfl ⟨Nat.le_of_ble_eq_true rfl, Nat.le_of_ble_eq_true rfl⟩ ⟨Nat.le_of_ble_eq_true rfl, Nat.le_of_ble_eq_true rfl⟩ rfl (Nat.le_of_ble_eq_true rfl) 6 rfl (by intro H h; first | exact h.1.1 | exact h.1.2.1 | exact h.1.2.2.1 | exact h.1.2.2.2 | exact h.2.1 | exact h.2.2.1 | exact (h.2.2.2 j hj4).1) (Pr' := TN E a c tl tn ts r v fss) (fun H h => h.2) (fun q z => z.elim) (fun H H' h h1 h2 => by exact ⟨h.1.out h2 (fun _ _ z => z), h1⟩) (st1 := [_]) rfl (k1 := 0) (n1 := 0) rfl rfl ?_
          refine g_ifnullN hF dX7_sendOver_33 59 (by decide) ?_
          refine g_iinc hF dX7_sendOver_59 62 rfl (1) rfl (lo' := [_, _, _, _]) rfl rfl ?_
          refine g_goto hF dX7_sendOver_62 10 (by decide) ?_
          refine g_cut [true, true, true, false] (lo' := [_, _, _, _]) rfl ?_
          exact ih (j + 1) _ _ (by omega) (by omega) (nI_succ j).symm (fun h hh => by rw [htn h hh]; show _ = nI (sn v.2.2.2 ls j h + _); rw [if_neg (fun q => nI_nm1 (by omega) (q.symm.trans ho3)), Nat.add_zero])
        · have ho4 : o < 4 := by omega
          have hco : (nI o).toNatClampNeg = o := nI_clamp (by omega)
          have hna : nA (v.2.2.2 j) = A := by unfold nA; rw [ha, nI_clamp (by omega)]
          refine g_iload_n hF dX7_sendOver_10 11 rfl rfl ?_
          refine g_aload_n hF dX7_sendOver_11 12 rfl rfl ?_
          refine g_get hF fl_X7_43 dX7_sendOver_12 15 rfl (by intro H h; first | exact h.1.1 | exact h.1.2.1 | exact h.1.2.2.1 | exact h.1.2.2.2 | exact h.2.1 | exact h.2.2.1 | exact (h.2.2.2 j hj4).1) rfl ?_
          refine g_icmp_ge hF dX7_sendOver_15 18 rfl 65 (by decide) (fun c => absurd c (fun z => absurd (i_le (hG ▸ z) (by omega) (by omega)) (by omega))) (fun _ => ?_)
          refine g_aload_n hF dX7_sendOver_18 19 rfl rfl ?_
          refine g_get hF fl_X7_48 dX7_sendOver_19 22 rfl (by intro H h; first | exact h.1.1 | exact h.1.2.1 | exact h.1.2.2.1 | exact h.1.2.2.2 | exact h.2.1 | exact h.2.2.1 | exact (h.2.2.2 j hj4).1) rfl ?_
          refine g_iload_n hF dX7_sendOver_22 23 rfl rfl ?_
          refine g_aald hF 3 dX7_sendOver_23 24 rfl rfl (by intro H h; first | exact h.1.1 | exact h.1.2.1 | exact h.1.2.2.1 | exact h.1.2.2.2 | exact h.2.1 | exact h.2.2.1 | exact (h.2.2.2 j hj4).1) (vp_in_nI hj4 (by omega)) (n_aa hj4) ?_
          refine g_astore_n hF dX7_sendOver_24 25 rfl (lo' := [_, _, _, _]) (Nat.le_of_ble_eq_true rfl) rfl ?_
          refine g_aload_n hF dX7_sendOver_25 26 rfl rfl ?_
          refine g_aload_n hF dX7_sendOver_26 27 rfl rfl ?_
          refine g_get hF fl_X7_80 dX7_sendOver_27 30 rfl (by intro H h; first | exact h.1.1 | exact h.1.2.1 | exact h.1.2.2.1 | exact h.1.2.2.2 | exact h.2.1 | exact h.2.2.1 | exact (h.2.2.2 j hj4).1) rfl ?_
          rw [o3]
          refine g_callV hF cv_X7_83 (c_N_groupAt l E c v fss G o hG hG4 o1) dX7_sendOver_30 33 rfl (st := []) rfl rfl ⟨Nat.le_of_ble_eq_true rfl, Nat.le_of_ble_eq_true rfl⟩ ⟨Nat.le_of_ble_eq_true rfl, Nat.le_of_ble_eq_true rfl⟩ rfl (Nat.le_of_ble_eq_true rfl) 6 rfl (by intro H h; first | exact h.1.1 | exact h.1.2.1 | exact h.1.2.2.1 | exact h.1.2.2.2 | exact h.2.1 | exact h.2.2.1 | exact (h.2.2.2 j hj4).1) (Pr' := TN E a c tl tn ts r v fss) (fun H h => h.2) (fun q z => z.elim) (fun H H' h h1 h2 => by exact ⟨h.1.out h2 (fun _ _ z => z), h1⟩) (st1 := [_]) rfl (k1 := 0) (n1 := 0) rfl rfl ?_
          refine g_ifnull hF dX7_sendOver_33 36 rfl ?_
          refine g_aload_n hF dX7_sendOver_36 37 rfl rfl ?_
          refine g_get hF fl_X7_15 dX7_sendOver_37 40 rfl (by intro H h; first | exact h.1.1 | exact h.1.2.1 | exact h.1.2.2.1 | exact h.1.2.2.2 | exact h.2.1 | exact h.2.2.1 | exact (h.2.2.2 j hj4).1) rfl ?_
          refine g_aload_n hF dX7_sendOver_40 41 rfl rfl ?_
          refine g_get hF fl_X7_80 dX7_sendOver_41 44 rfl (by intro H h; first | exact h.1.1 | exact h.1.2.1 | exact h.1.2.2.1 | exact h.1.2.2.2 | exact h.2.1 | exact h.2.2.1 | exact (h.2.2.2 j hj4).1) rfl ?_
          rw [o3]
          refine g_dup2 hF dX7_sendOver_44 45 rfl rfl rfl ?_
          refine g_iald hF dX7_sendOver_45 46 rfl (by intro H h; first | exact h.1.1 | exact h.1.2.1 | exact h.1.2.2.1 | exact h.1.2.2.2 | exact h.2.1 | exact h.2.2.1 | exact (h.2.2.2 j hj4).1) (vp_in_nI ho4 (by omega)) ?_
          refine g_aload_n hF dX7_sendOver_46 47 rfl rfl ?_
          refine g_get hF fl_X7_59 dX7_sendOver_47 50 rfl (by intro H h; first | exact h.1.1 | exact h.1.2.1 | exact h.1.2.2.1 | exact h.1.2.2.2 | exact h.2.1 | exact h.2.2.1 | exact (h.2.2.2 j hj4).1) rfl ?_
          refine g_aload_n hF dX7_sendOver_50 51 rfl rfl ?_
          refine g_get hF fl_X7_18 dX7_sendOver_51 54 rfl (by intro H h; first | exact h.1.1 | exact h.1.2.1 | exact h.1.2.2.1 | exact h.1.2.2.2 | exact h.2.1 | exact h.2.2.1 | exact (h.2.2.2 j hj4).1) rfl ?_
          refine g_iload_n hF dX7_sendOver_54 55 rfl rfl ?_
          refine g_iald hF dX7_sendOver_55 56 rfl (by intro H h; first | exact h.1.1 | exact h.1.2.1 | exact h.1.2.2.1 | exact h.1.2.2.2 | exact h.2.1 | exact h.2.2.1 | exact (h.2.2.2 j hj4).1) (vp_in_nI hj4 (by omega)) ?_
          rw [hcl hj4, hco, hl j hlt, ha, htn o ho4]
          refine g_imul hF dX7_sendOver_56 57 rfl ?_
          rw [pk_mul]
          refine g_iadd hF dX7_sendOver_57 58 rfl ?_
          rw [nI_add]
          refine g_iast hF dX7_sendOver_58 59 rfl (by intro H h; first | exact h.1.1 | exact h.1.2.1 | exact h.1.2.2.1 | exact h.1.2.2.2 | exact h.2.1 | exact h.2.2.1 | exact (h.2.2.2 j hj4).1) (vp_in_nI ho4 (by omega)) (hA _ ⟨by omega, by omega⟩) (Pr' := TN E a c tl (upd tn o (nI (sn v.2.2.2 ls j o + A * ls j))) ts r v fss) (fun H H' h h1 h2 => by rw [hco] at h1; exact ⟨⟨ob_kept h.1.1 (h2.2 _ (by omega)), ai_kept h.1.2.1 (h2.2 _ (by omega)), h1, ai_kept h.1.2.2.2 (h2.2 _ (by omega))⟩, h.2.kept (fun q hq => h2.2 q (by have := hq.1; have := hq.2; omega))⟩) ?_
          refine g_iinc hF dX7_sendOver_59 62 rfl (1) rfl (lo' := [_, _, _, _]) rfl rfl ?_
          refine g_goto hF dX7_sendOver_62 10 (by decide) ?_
          refine g_cut [true, true, true, false] (lo' := [_, _, _, _]) rfl ?_
          refine ih (j + 1) _ _ (by omega) (by omega) (nI_succ j).symm (fun h hh => ?_)
          show _ = nI (sn v.2.2.2 ls j h + _)
          by_cases e : h = o
          · rw [e, pk_us, if_pos o3, hna]
          · rw [pk_un e, htn h hh, if_neg (fun q => e ((nI_eq (by omega) (by omega)).mp (q.symm.trans o3))), Nat.add_zero]
      · refine g_iload_n hF dX7_sendOver_10 11 rfl rfl ?_
        refine g_aload_n hF dX7_sendOver_11 12 rfl rfl ?_
        refine g_get hF fl_X7_43 dX7_sendOver_12 15 rfl (by intro H h; first | exact h.1.1 | exact h.1.2.1 | exact h.1.2.2.1 | exact h.1.2.2.2 | exact h.2.1 | exact h.2.2.1 | exact (h.2.2.2 j hj4).1) rfl ?_
        refine g_icmp_ge hF dX7_sendOver_15 18 rfl 65 (by decide) (fun _ => ?_) (fun c => absurd (hG ▸ nI_le (by omega) (by omega)) c)
        exact g_vret hF dX7_sendOver_65 (Nat.le_of_ble_eq_true rfl) (Nat.le_of_ble_eq_true rfl) (fun H h => hR _ _ ⟨rfl, ⟨tn, fun h hh => by rw [htn h hh, show j = G by omega], h⟩⟩)
  refine g_aload_n hF dX7_sendOver_0 1 rfl rfl ?_
  refine g_get hF fl_X7_15 dX7_sendOver_1 4 rfl (by intro H h; first | exact h.1.1 | exact h.1.2.1 | exact h.1.2.2.1 | exact h.1.2.2.2 | exact h.2.1 | exact h.2.2.1 | exact (h.2.2.2 j hj4).1) rfl ?_
  refine g_iconst hF (0) dX7_sendOver_4 5 rfl rfl ?_
  refine g_callS hF cs_X7_21 (c_fill l E (a + 2) 4 tn0 0 (by decide)) dX7_sendOver_5 8 rfl (st := []) rfl rfl ⟨Nat.le_of_ble_eq_true rfl, Nat.le_of_ble_eq_true rfl⟩ ⟨Nat.le_of_ble_eq_true rfl, Nat.le_of_ble_eq_true rfl⟩ rfl (Nat.le_of_ble_eq_true rfl) (Pr' := TN E a c tl (fun _ => 0) ts r v fss) (fun H h => h.1.2.2.1) (fun q hq => hA q (by subst hq; exact ⟨by omega, by omega⟩)) (fun H H' h h1 h2 => by exact ⟨⟨ob_kept h.1.1 (out_at h2 h.1.1 (by show ¬ a = a + 2; omega)), ai_kept h.1.2.1 (out_at h2 h.1.2.1 (by show ¬ a + 1 = a + 2; omega)), h1, ai_kept h.1.2.2.2 (out_at h2 h.1.2.2.2 (by show ¬ a + 3 = a + 2; omega))⟩, h.2.out h2 (fun q z y => by have := z.1; have := z.2; omega)⟩) (st1 := []) rfl (k1 := 0) (n1 := 0) rfl rfl ?_
  refine g_iconst hF (0) dX7_sendOver_8 9 rfl rfl ?_
  refine g_istore_n hF dX7_sendOver_9 10 rfl (lo' := [_, _, _, _]) (Nat.le_of_ble_eq_true rfl) rfl ?_
  exact loop (G + 1) 0 0 _ (by omega) (by omega) nI_0.symm (fun h _ => nI_0.symm)
/-- the rounds of TOGETHER -/
def sRd (v : NV) : Nat := stl v.2.2.2 v.1.toNatClampNeg 30 0
def sB (v : NV) (g : Nat) : Nat := Bt v.2.2.2 v.1.toNatClampNeg (sRd v) g
def sP (v : NV) (g : Nat) : Nat := pP (v.2.2.2 g) (sB v g)
/-- it stands still within 30 rounds -/
def still (v : NV) : Prop := ∀ g, g < 4 → Bt v.2.2.2 v.1.toNatClampNeg (sRd v - 1) g = sB v g
set_option maxRecDepth 100000 in
set_option maxHeartbeats 8000000 in
theorem c_T_settle (l : Launch) (E : Ev) (a c w : Nat) (tl0 tn0 ts0 : Nat → Int32) (r0 : Int32) (v : NV) (fss : Nat → Nat → Int32) (wf0 : Nat → Int64) (x0 y0 : Int32) (T : Nat) (hv : okV T v) (hst : still v) (hac : a + 4 ≤ c ∨ c + 22 ≤ a) (haw : a + 4 ≤ w ∨ w + 2 ≤ a) (hcw : c + 22 ≤ w ∨ w + 2 ≤ c) : Ct l E yX7_settle cX7_settle 5 none (rm 4) [.ref a, .ref c, .ref w] (TNW E a c w tl0 tn0 ts0 r0 v fss wf0 x0 y0) (rV none (fun H => ∃ tl tn ts wf x y, (∀ g, g < 4 → tl g = nI (sB v g)) ∧ (∀ g, g < v.1.toNatClampNeg → ts g = nI (sP v g)) ∧ TNW E a c w tl tn ts (nI (sRd v)) v fss wf x y H)) (fun q => rg a 4 q ∨ rg w 2 q) := by
  refine ct_start (by decide) [some (.ref a), some (.ref c), some (.ref w), none, none] rfl (Nat.le_of_ble_eq_true rfl) ?_
  intro x hF hN0 hA hR
  obtain ⟨hT, G, G1, hG4, hG, -, ho⟩ := id hv
  have hGc : v.1.toNatClampNeg = G := by rw [hG]; exact nI_clamp (by omega)
  unfold still sB sRd at hst
  unfold sP sB sRd at hR
  rw [hGc] at hst hR
  obtain ⟨tR, eR⟩ : ∃ t, t = stl v.2.2.2 G 30 0 := ⟨_, rfl⟩
  rw [← eR] at hst hR
  have fin : ∀ (t : Nat) (tl tn ts : Nat → Int32) (wf : Nat → Int64) (x1 y1 i ch : Int32), t = tR → 1 ≤ t → (∀ g, g < 4 → tl g = nI (Bt v.2.2.2 G t g)) → (∀ g, g < G → ts g = nI (pP (v.2.2.2 g) (Bt v.2.2.2 G (t - 1) g))) → go l (rm 4) E x 0 0 (TNW E a c w tl tn ts (nI t) v fss wf x1 y1) [some (.ref a), some (.ref c), some (.ref w), some (.int ch), some (.int i)] 52 [] := by
    intro t tl tn ts wf x1 y1 i ch ht h1 h2 h3
    subst ht
    exact g_vret hF dX7_settle_52 (Nat.le_of_ble_eq_true rfl) (Nat.le_of_ble_eq_true rfl) (fun H h => hR _ _ ⟨rfl, ⟨tl, tn, ts, wf, x1, y1, h2, fun g hg => by rw [h3 g hg, hst g (by omega)], h⟩⟩)
  have stop : ∀ (t : Nat) (tl tn ts : Nat → Int32) (wf : Nat → Int64) (x1 y1 : Int32), t = tR → 1 ≤ t → t ≤ 30 → (∀ g, g < 4 → tl g = nI (Bt v.2.2.2 G t g)) → (∀ g, g < G → ts g = nI (pP (v.2.2.2 g) (Bt v.2.2.2 G (t - 1) g))) → go l (rm 4) E x 0 0 (TNW E a c w tl tn ts (nI t) v fss wf x1 y1) [some (.ref a), some (.ref c), some (.ref w), some (.int 0), some (.int (nI t + 1))] 13 [] := by
    intro t tl tn ts wf x1 y1 ht h1 h30 h2 h3
    refine g_iload hF dX7_settle_13 15 rfl rfl ?_
    refine g_bipush hF (30) dX7_settle_15 17 rfl rfl ?_
    refine g_icmp_gt hF dX7_settle_17 20 rfl 52 (by decide) (fun c17 => ?_) (fun c17 => ?_)
    · exact fin t tl tn ts wf x1 y1 _ _ ht h1 h2 h3
    · refine g_iload_n hF dX7_settle_20 21 rfl rfl ?_
      refine g_if_eq hF dX7_settle_21 24 rfl 52 (by decide) (fun _ => ?_) (fun c => absurd (rfl) c)
      exact fin t tl tn ts wf x1 y1 _ _ ht h1 h2 h3
  have loop : ∀ (n t : Nat) (tl tn ts : Nat → Int32) (r : Int32) (wf : Nat → Int64) (x1 y1 i : Int32), 30 - t < n → t ≤ 30 → i = nI (t + 1) → (∀ g, g < 4 → tl g = nI (Bt v.2.2.2 G t g)) → (1 ≤ t → r = nI t ∧ ∀ g, g < G → ts g = nI (pP (v.2.2.2 g) (Bt v.2.2.2 G (t - 1) g))) → tR = stl v.2.2.2 G (30 - t) t → go l (rm 4) E x 0 0 (TNW E a c w tl tn ts r v fss wf x1 y1) [some (.ref a), some (.ref c), some (.ref w), some (.int 1), some (.int i)] 13 [] := by
    intro n
    induction n with
    | zero => intro t tl tn ts r wf x1 y1 i h; omega
    | succ n ih =>
      intro t tl tn ts r wf x1 y1 i hn0 ht hi htl hts htR
      subst hi
      by_cases h30 : t = 30
      · subst h30
        obtain ⟨rfl, hts2⟩ := hts (by omega)
        refine g_iload hF dX7_settle_13 15 rfl rfl ?_
        refine g_bipush hF (30) dX7_settle_15 17 rfl rfl ?_
        refine g_icmp_gt hF dX7_settle_17 20 rfl 52 (by decide) (fun _ => ?_) (fun c => absurd ((by decide)) c)
        exact fin 30 tl tn ts wf x1 y1 _ _ htR.symm (by omega) htl hts2
      · have hd : 30 - t = (30 - (t + 1)) + 1 := by omega
        rw [hd] at htR
        by_cases hch : ∀ g, g < 4 → Bt v.2.2.2 G (t + 1) g = Bt v.2.2.2 G t g
        · have htR : tR = t + 1 := htR.trans (if_pos hch)
          refine g_iload hF dX7_settle_13 15 rfl rfl ?_
          refine g_bipush hF (30) dX7_settle_15 17 rfl rfl ?_
          refine g_icmp_gt hF dX7_settle_17 20 rfl 52 (by decide) (fun c => absurd c (fun z => absurd (i_lt (a := 30) z (by omega) (by omega)) (by omega))) (fun _ => ?_)
          refine g_iload_n hF dX7_settle_20 21 rfl rfl ?_
          refine g_if_eq hF dX7_settle_21 24 rfl 52 (by decide) (fun c => absurd c ((by decide))) (fun _ => ?_)
          refine g_aload_n hF dX7_settle_24 25 rfl rfl ?_
          refine g_iload hF dX7_settle_25 27 rfl rfl ?_
          refine g_put hF pl_X7_27 dX7_settle_27 30 rfl (by intro H h; first | exact h.1.1 | exact h.1.2.1) (Nat.le_of_ble_eq_true rfl) rfl rfl (hA _ (Or.inl ⟨by omega, by omega⟩)) (Pr' := TNW E a c w tl tn ts (nI (t + 1)) v fss wf x1 y1) (fun H H' h h1 h2 => by exact ⟨⟨h1, ai_kept h.1.2.1 (h2.2 _ (by omega)), ai_kept h.1.2.2.1 (h2.2 _ (by omega)), ai_kept h.1.2.2.2 (h2.2 _ (by omega))⟩, h.2.1.kept (fun q hq => h2.2 q (by have := hq.1; have := hq.2; omega)), h.2.2.kept (fun q hq => h2.2 q (by have := hq.1; have := hq.2; omega))⟩) ?_
          refine g_aload_n hF dX7_settle_30 31 rfl rfl ?_
          refine g_aload_n hF dX7_settle_31 32 rfl rfl ?_
          refine g_aload_n hF dX7_settle_32 33 rfl rfl ?_
          refine g_callV hF cv_X7_31 (c_T_loseEach l E a c w tl tn ts (nI (t + 1)) v fss wf x1 y1 G T (Bt v.2.2.2 G t) hG hG4 ho (fun g hg => ⟨htl g hg, Bt_le hG4 ho t g hg⟩) hac haw hcw) dX7_settle_33 36 rfl (st := []) rfl rfl ⟨Nat.le_of_ble_eq_true rfl, Nat.le_of_ble_eq_true rfl⟩ ⟨Nat.le_of_ble_eq_true rfl, Nat.le_of_ble_eq_true rfl⟩ rfl (Nat.le_of_ble_eq_true rfl) 7 rfl (by intro H h; first | exact h.1.1 | exact h.1.2.1) (Pr' := fun H => ∃ ts2 wf2 x2 y2, (∀ g, g < G → ts2 g = nI (pP (v.2.2.2 g) (Bt v.2.2.2 G t g))) ∧ TNW E a c w tl tn ts2 (nI (t + 1)) v fss wf2 x2 y2 H) (fun _ h => h) (hA) (fun _ _ _ h _ => by exact h) (st1 := []) rfl (k1 := 0) (n1 := 0) rfl rfl ?_
          refine g_ex (fun ts2 => ?_)
          refine g_ex (fun wf2 => ?_)
          refine g_ex (fun x2 => ?_)
          refine g_ex (fun y2 => ?_)
          refine g_pure (fun H h => h.1) (fun hts2 => ?_)
          refine g_pr (fun H h => h.2) ?_
          refine g_aload_n hF dX7_settle_36 37 rfl rfl ?_
          refine g_aload_n hF dX7_settle_37 38 rfl rfl ?_
          refine g_callV hF cv_X7_35 (c_T_sendOver l E a c tl tn ts2 (nI (t + 1)) v fss G T (fun g => pP (v.2.2.2 g) (Bt v.2.2.2 G t g)) hG hG4 ho hts2 hac) dX7_settle_38 41 rfl (st := []) rfl rfl ⟨Nat.le_of_ble_eq_true rfl, Nat.le_of_ble_eq_true rfl⟩ ⟨Nat.le_of_ble_eq_true rfl, Nat.le_of_ble_eq_true rfl⟩ rfl (Nat.le_of_ble_eq_true rfl) 7 rfl (by intro H h; first | exact h.1.1 | exact h.1.2.1) (Pr' := fun H => ∃ tn2, (∀ h, h < 4 → tn2 h = nI (Bt v.2.2.2 G (t + 1) h)) ∧ TNW E a c w tl tn2 ts2 (nI (t + 1)) v fss wf2 x2 y2 H) (fun H h => ⟨h.1, h.2.1⟩) (fun q hq => hA q (Or.inl hq)) (fun H H' h h1 h2 => by obtain ⟨tn2, q1, q2⟩ := h1; exact ⟨tn2, q1, q2.1, q2.2, h.2.2.out h2 (fun q z y => by have := z.1; have := z.2; have := y.1; have := y.2; omega)⟩) (st1 := []) rfl (k1 := 0) (n1 := 0) rfl rfl ?_
          refine g_ex (fun tn2 => ?_)
          refine g_pure (fun H h => h.1) (fun htn2 => ?_)
          refine g_pr (fun H h => h.2) ?_
          refine g_aload_n hF dX7_settle_41 42 rfl rfl ?_
          refine g_callV hF cv_X7_39 (c_T_takeNewLoads l E a tl tn2 ts2 (nI (t + 1)) 0 (Or.inl ⟨rfl, fun g hg => by rw [htl g hg, htn2 g hg, hch g hg]⟩)) dX7_settle_42 45 rfl (st := []) rfl rfl ⟨Nat.le_of_ble_eq_true rfl, Nat.le_of_ble_eq_true rfl⟩ ⟨Nat.le_of_ble_eq_true rfl, Nat.le_of_ble_eq_true rfl⟩ rfl (Nat.le_of_ble_eq_true rfl) 7 rfl (by intro H h; first | exact h.1.1 | exact h.1.2.1) (Pr' := TNW E a c w tn2 tn2 ts2 (nI (t + 1)) v fss wf2 x2 y2) (fun H h => h.1) (fun q hq => hA q (Or.inl hq)) (fun H H' h h1 h2 => by exact ⟨h1, h.2.1.out h2 (fun q z y => by have := z.1; have := z.2; have := y.1; have := y.2; omega), h.2.2.out h2 (fun q z y => by have := z.1; have := z.2; have := y.1; have := y.2; omega)⟩) (st1 := [_]) rfl (k1 := 0) (n1 := 0) rfl rfl ?_
          refine g_istore_n hF dX7_settle_45 46 rfl (lo' := [_, _, _, _, _]) (Nat.le_of_ble_eq_true rfl) rfl ?_
          refine g_iinc hF dX7_settle_46 49 rfl (1) rfl (lo' := [_, _, _, _, _]) rfl rfl ?_
          refine g_goto hF dX7_settle_49 13 (by decide) ?_
          exact stop (t + 1) _ _ _ _ _ _ htR.symm (by omega) (by omega) htn2 (fun g hg => hts2 g hg)
        · have htR2 : tR = stl v.2.2.2 G (30 - (t + 1)) (t + 1) := htR.trans (if_neg hch)
          obtain ⟨g0', q1, q2⟩ : ∃ g, g < 4 ∧ ¬ Bt v.2.2.2 G (t + 1) g = Bt v.2.2.2 G t g := Classical.byContradiction fun z => hch (fun g hg => Classical.byContradiction fun y => z ⟨g, hg, y⟩)
          refine g_iload hF dX7_settle_13 15 rfl rfl ?_
          refine g_bipush hF (30) dX7_settle_15 17 rfl rfl ?_
          refine g_icmp_gt hF dX7_settle_17 20 rfl 52 (by decide) (fun c => absurd c (fun z => absurd (i_lt (a := 30) z (by omega) (by omega)) (by omega))) (fun _ => ?_)
          refine g_iload_n hF dX7_settle_20 21 rfl rfl ?_
          refine g_if_eq hF dX7_settle_21 24 rfl 52 (by decide) (fun c => absurd c ((by decide))) (fun _ => ?_)
          refine g_aload_n hF dX7_settle_24 25 rfl rfl ?_
          refine g_iload hF dX7_settle_25 27 rfl rfl ?_
          refine g_put hF pl_X7_27 dX7_settle_27 30 rfl (by intro H h; first | exact h.1.1 | exact h.1.2.1) (Nat.le_of_ble_eq_true rfl) rfl rfl (hA _ (Or.inl ⟨by omega, by omega⟩)) (Pr' := TNW E a c w tl tn ts (nI (t + 1)) v fss wf x1 y1) (fun H H' h h1 h2 => by exact ⟨⟨h1, ai_kept h.1.2.1 (h2.2 _ (by omega)), ai_kept h.1.2.2.1 (h2.2 _ (by omega)), ai_kept h.1.2.2.2 (h2.2 _ (by omega))⟩, h.2.1.kept (fun q hq => h2.2 q (by have := hq.1; have := hq.2; omega)), h.2.2.kept (fun q hq => h2.2 q (by have := hq.1; have := hq.2; omega))⟩) ?_
          refine g_aload_n hF dX7_settle_30 31 rfl rfl ?_
          refine g_aload_n hF dX7_settle_31 32 rfl rfl ?_
          refine g_aload_n hF dX7_settle_32 33 rfl rfl ?_
          refine g_callV hF cv_X7_31 (c_T_loseEach l E a c w tl tn ts (nI (t + 1)) v fss wf x1 y1 G T (Bt v.2.2.2 G t) hG hG4 ho (fun g hg => ⟨htl g hg, Bt_le hG4 ho t g hg⟩) hac haw hcw) dX7_settle_33 36 rfl (st := []) rfl rfl ⟨Nat.le_of_ble_eq_true rfl, Nat.le_of_ble_eq_true rfl⟩ ⟨Nat.le_of_ble_eq_true rfl, Nat.le_of_ble_eq_true rfl⟩ rfl (Nat.le_of_ble_eq_true rfl) 7 rfl (by intro H h; first | exact h.1.1 | exact h.1.2.1) (Pr' := fun H => ∃ ts2 wf2 x2 y2, (∀ g, g < G → ts2 g = nI (pP (v.2.2.2 g) (Bt v.2.2.2 G t g))) ∧ TNW E a c w tl tn ts2 (nI (t + 1)) v fss wf2 x2 y2 H) (fun _ h => h) (hA) (fun _ _ _ h _ => by exact h) (st1 := []) rfl (k1 := 0) (n1 := 0) rfl rfl ?_
          refine g_ex (fun ts2 => ?_)
          refine g_ex (fun wf2 => ?_)
          refine g_ex (fun x2 => ?_)
          refine g_ex (fun y2 => ?_)
          refine g_pure (fun H h => h.1) (fun hts2 => ?_)
          refine g_pr (fun H h => h.2) ?_
          refine g_aload_n hF dX7_settle_36 37 rfl rfl ?_
          refine g_aload_n hF dX7_settle_37 38 rfl rfl ?_
          refine g_callV hF cv_X7_35 (c_T_sendOver l E a c tl tn ts2 (nI (t + 1)) v fss G T (fun g => pP (v.2.2.2 g) (Bt v.2.2.2 G t g)) hG hG4 ho hts2 hac) dX7_settle_38 41 rfl (st := []) rfl rfl ⟨Nat.le_of_ble_eq_true rfl, Nat.le_of_ble_eq_true rfl⟩ ⟨Nat.le_of_ble_eq_true rfl, Nat.le_of_ble_eq_true rfl⟩ rfl (Nat.le_of_ble_eq_true rfl) 7 rfl (by intro H h; first | exact h.1.1 | exact h.1.2.1) (Pr' := fun H => ∃ tn2, (∀ h, h < 4 → tn2 h = nI (Bt v.2.2.2 G (t + 1) h)) ∧ TNW E a c w tl tn2 ts2 (nI (t + 1)) v fss wf2 x2 y2 H) (fun H h => ⟨h.1, h.2.1⟩) (fun q hq => hA q (Or.inl hq)) (fun H H' h h1 h2 => by obtain ⟨tn2, q1, q2⟩ := h1; exact ⟨tn2, q1, q2.1, q2.2, h.2.2.out h2 (fun q z y => by have := z.1; have := z.2; have := y.1; have := y.2; omega)⟩) (st1 := []) rfl (k1 := 0) (n1 := 0) rfl rfl ?_
          refine g_ex (fun tn2 => ?_)
          refine g_pure (fun H h => h.1) (fun htn2 => ?_)
          refine g_pr (fun H h => h.2) ?_
          refine g_aload_n hF dX7_settle_41 42 rfl rfl ?_
          refine g_callV hF cv_X7_39 (c_T_takeNewLoads l E a tl tn2 ts2 (nI (t + 1)) 1 (Or.inr ⟨rfl, g0', q1, fun z => q2 ((nI_eq (by have := Bt_le hG4 ho (t + 1) g0' q1; omega) (by have := Bt_le hG4 ho t g0' q1; omega)).mp (by rw [← htn2 g0' q1, ← htl g0' q1, z]))⟩)) dX7_settle_42 45 rfl (st := []) rfl rfl ⟨Nat.le_of_ble_eq_true rfl, Nat.le_of_ble_eq_true rfl⟩ ⟨Nat.le_of_ble_eq_true rfl, Nat.le_of_ble_eq_true rfl⟩ rfl (Nat.le_of_ble_eq_true rfl) 7 rfl (by intro H h; first | exact h.1.1 | exact h.1.2.1) (Pr' := TNW E a c w tn2 tn2 ts2 (nI (t + 1)) v fss wf2 x2 y2) (fun H h => h.1) (fun q hq => hA q (Or.inl hq)) (fun H H' h h1 h2 => by exact ⟨h1, h.2.1.out h2 (fun q z y => by have := z.1; have := z.2; have := y.1; have := y.2; omega), h.2.2.out h2 (fun q z y => by have := z.1; have := z.2; have := y.1; have := y.2; omega)⟩) (st1 := [_]) rfl (k1 := 0) (n1 := 0) rfl rfl ?_
          refine g_istore_n hF dX7_settle_45 46 rfl (lo' := [_, _, _, _, _]) (Nat.le_of_ble_eq_true rfl) rfl ?_
          refine g_iinc hF dX7_settle_46 49 rfl (1) rfl (lo' := [_, _, _, _, _]) rfl rfl ?_
          refine g_goto hF dX7_settle_49 13 (by decide) ?_
          exact ih (t + 1) _ _ _ _ _ _ _ _ (by omega) (by omega) (nI_succ (t + 1)).symm htn2 (fun _ => ⟨rfl, fun g hg => hts2 g hg⟩) htR2
  refine g_aload_n hF dX7_settle_0 1 rfl rfl ?_
  refine g_get hF fl_X7_9 dX7_settle_1 4 rfl (by intro H h; first | exact h.1.1 | exact h.1.2.1) rfl ?_
  refine g_iconst hF (0) dX7_settle_4 5 rfl rfl ?_
  refine g_callS hF cs_X7_21 (c_fill l E (a + 1) 4 tl0 0 (by decide)) dX7_settle_5 8 rfl (st := []) rfl rfl ⟨Nat.le_of_ble_eq_true rfl, Nat.le_of_ble_eq_true rfl⟩ ⟨Nat.le_of_ble_eq_true rfl, Nat.le_of_ble_eq_true rfl⟩ rfl (Nat.le_of_ble_eq_true rfl) (Pr' := TNW E a c w (fun _ => 0) tn0 ts0 r0 v fss wf0 x0 y0) (fun H h => h.1.2.1) (fun q hq => hA q (Or.inl (by subst hq; exact ⟨by omega, by omega⟩))) (fun H H' h h1 h2 => by exact ⟨⟨ob_kept h.1.1 (out_at h2 h.1.1 (by show ¬ a = a + 1; omega)), h1, ai_kept h.1.2.2.1 (out_at h2 h.1.2.2.1 (by show ¬ a + 2 = a + 1; omega)), ai_kept h.1.2.2.2 (out_at h2 h.1.2.2.2 (by show ¬ a + 3 = a + 1; omega))⟩, h.2.1.out h2 (fun q z y => by have := z.1; have := z.2; omega), h.2.2.out h2 (fun q z y => by have := z.1; have := z.2; omega)⟩) (st1 := []) rfl (k1 := 0) (n1 := 0) rfl rfl ?_
  refine g_iconst hF (1) dX7_settle_8 9 rfl rfl ?_
  refine g_istore_n hF dX7_settle_9 10 rfl (lo' := [_, _, _, _, _]) (Nat.le_of_ble_eq_true rfl) rfl ?_
  refine g_iconst hF (1) dX7_settle_10 11 rfl rfl ?_
  refine g_istore hF dX7_settle_11 13 rfl (lo' := [_, _, _, _, _]) (Nat.le_of_ble_eq_true rfl) rfl ?_
  exact loop 31 0 _ _ _ _ _ _ _ _ (by omega) (by omega) (by decide) (fun g _ => nI_0.symm) (fun z => absurd z (by omega)) eR
end
section
/-! The class TrunkReserve: its whole picture -/
theorem Fp.out {E : Ev} {a : Nat} {x y : Int64} {A : Nat → Prop} {H H' : Heap} (h : Fp E a x y H) (ho : out A H H') (hA : ¬ A a) : Fp E a x y H' := ob_kept (show ob E 2 a [.long x, .long y] H from h) (out_at ho (show ob E 2 a [.long x, .long y] H from h) hA)
def cfs (b : Nat) : List Value := [.ref (b + 1), .ref (b + 23), .ref (b + 465), .ref (b + 512), .ref (b + 516), .ref (b + 517), .ref (b + 519), .ref (b + 520)]
def Sx (E : Ev) (b : Nat) (v : NV) (rv : Nat → NV) (p d : Nat) (iv : Nat → NV) (isd : Nat → Nat) (ik bg bl bs : Nat → Int32) (nb sd : Nat) (wf : Nat → Int64) (wx wy : Int32) (fa fb : Int64) (tl tn ts : Nat → Int32) (tr : Int32) (H : Heap) : Prop := ob E 9 b (cfs b) H ∧ Nq E (b + 1) v H ∧ Hq E (b + 23) rv p d H ∧ aq E E.2.2.2.2.2.2 (b + 465) 2 (fun j => some (b + 466 + 23 * j)) H ∧ (∀ j, j < 2 → Iq E (b + 466 + 23 * j) (iv j) (isd j) (ik j) H) ∧ Bp E (b + 512) bg bl bs nb H ∧ Dp E (b + 516) sd H ∧ Wp E (b + 517) wf wx wy H ∧ Fp E (b + 519) fa fb H ∧ Tp E (b + 520) tl tn ts tr H
theorem Sx.no {E : Ev} {b : Nat} {v : NV} {rv : Nat → NV} {p d : Nat} {iv : Nat → NV} {isd : Nat → Nat} {ik bg bl bs : Nat → Int32} {nb sd : Nat} {wf : Nat → Int64} {wx wy : Int32} {fa fb : Int64} {tl tn ts : Nat → Int32} {tr : Int32} {A : Nat → Prop} {H H' : Heap} (h : Sx E b v rv p d iv isd ik bg bl bs nb sd wf wx wy fa fb tl tn ts tr H) (ho : out A H H') (hA : ∀ q, A q → (b + 0 ≤ q ∧ q < b + 0) ∨ (b + 0 ≤ q ∧ q < b + 0)) : Sx E b v rv p d iv isd ik bg bl bs nb sd wf wx wy fa fb tl tn ts tr H' :=
  ⟨ob_kept h.1 (out_at ho h.1 (fun z => absurd (hA _ z) (by dsimp only; omega))), h.2.1.out ho (fun q y z => absurd (hA _ z) (by have := y.1; have := y.2; omega)), h.2.2.1.out ho (fun q y z => absurd (hA _ z) (by have := y.1; have := y.2; omega)), aq_kept h.2.2.2.1 (out_at ho h.2.2.2.1 (fun z => absurd (hA _ z) (by dsimp only; omega))), fun j hj => (h.2.2.2.2.1 j hj).out ho (fun q y z => absurd (hA _ z) (by have := y.1; have := y.2; omega)), h.2.2.2.2.2.1.kept (fun q y => ho.2 q (Nat.lt_of_lt_of_le y.2 h.2.2.2.2.2.1.le) (fun z => absurd (hA _ z) (by have := y.1; have := y.2; omega))), ob_kept h.2.2.2.2.2.2.1 (out_at ho h.2.2.2.2.2.2.1 (fun z => absurd (hA _ z) (by dsimp only; omega))), h.2.2.2.2.2.2.2.1.out ho (fun q y z => absurd (hA _ z) (by have := y.1; have := y.2; omega)), h.2.2.2.2.2.2.2.2.1.out ho (fun z => absurd (hA _ z) (by omega)), h.2.2.2.2.2.2.2.2.2.out ho (fun q y z => absurd (hA _ z) (by have := y.1; have := y.2; omega))⟩
theorem Sx.n {E : Ev} {b : Nat} {v : NV} {rv : Nat → NV} {p d : Nat} {iv : Nat → NV} {isd : Nat → Nat} {ik bg bl bs : Nat → Int32} {nb sd : Nat} {wf : Nat → Int64} {wx wy : Int32} {fa fb : Int64} {tl tn ts : Nat → Int32} {tr : Int32} {v' : NV} {A : Nat → Prop} {H H' : Heap} (h : Sx E b v rv p d iv isd ik bg bl bs nb sd wf wx wy fa fb tl tn ts tr H) (ho : out A H H') (hA : ∀ q, A q → (b + 1 ≤ q ∧ q < b + 23) ∨ (b + 0 ≤ q ∧ q < b + 0)) (n_net : Nq E (b + 1) v' H') : Sx E b v' rv p d iv isd ik bg bl bs nb sd wf wx wy fa fb tl tn ts tr H' :=
  ⟨ob_kept h.1 (out_at ho h.1 (fun z => absurd (hA _ z) (by dsimp only; omega))), n_net, h.2.2.1.out ho (fun q y z => absurd (hA _ z) (by have := y.1; have := y.2; omega)), aq_kept h.2.2.2.1 (out_at ho h.2.2.2.1 (fun z => absurd (hA _ z) (by dsimp only; omega))), fun j hj => (h.2.2.2.2.1 j hj).out ho (fun q y z => absurd (hA _ z) (by have := y.1; have := y.2; omega)), h.2.2.2.2.2.1.kept (fun q y => ho.2 q (Nat.lt_of_lt_of_le y.2 h.2.2.2.2.2.1.le) (fun z => absurd (hA _ z) (by have := y.1; have := y.2; omega))), ob_kept h.2.2.2.2.2.2.1 (out_at ho h.2.2.2.2.2.2.1 (fun z => absurd (hA _ z) (by dsimp only; omega))), h.2.2.2.2.2.2.2.1.out ho (fun q y z => absurd (hA _ z) (by have := y.1; have := y.2; omega)), h.2.2.2.2.2.2.2.2.1.out ho (fun z => absurd (hA _ z) (by omega)), h.2.2.2.2.2.2.2.2.2.out ho (fun q y z => absurd (hA _ z) (by have := y.1; have := y.2; omega))⟩
theorem Sx.h {E : Ev} {b : Nat} {v : NV} {rv : Nat → NV} {p d : Nat} {iv : Nat → NV} {isd : Nat → Nat} {ik bg bl bs : Nat → Int32} {nb sd : Nat} {wf : Nat → Int64} {wx wy : Int32} {fa fb : Int64} {tl tn ts : Nat → Int32} {tr : Int32} {rv' : Nat → NV} {p' : Nat} {d' : Nat} {A : Nat → Prop} {H H' : Heap} (h : Sx E b v rv p d iv isd ik bg bl bs nb sd wf wx wy fa fb tl tn ts tr H) (ho : out A H H') (hA : ∀ q, A q → (b + 23 ≤ q ∧ q < b + 465) ∨ (b + 0 ≤ q ∧ q < b + 0)) (n_hist : Hq E (b + 23) rv' p' d' H') : Sx E b v rv' p' d' iv isd ik bg bl bs nb sd wf wx wy fa fb tl tn ts tr H' :=
  ⟨ob_kept h.1 (out_at ho h.1 (fun z => absurd (hA _ z) (by dsimp only; omega))), h.2.1.out ho (fun q y z => absurd (hA _ z) (by have := y.1; have := y.2; omega)), n_hist, aq_kept h.2.2.2.1 (out_at ho h.2.2.2.1 (fun z => absurd (hA _ z) (by dsimp only; omega))), fun j hj => (h.2.2.2.2.1 j hj).out ho (fun q y z => absurd (hA _ z) (by have := y.1; have := y.2; omega)), h.2.2.2.2.2.1.kept (fun q y => ho.2 q (Nat.lt_of_lt_of_le y.2 h.2.2.2.2.2.1.le) (fun z => absurd (hA _ z) (by have := y.1; have := y.2; omega))), ob_kept h.2.2.2.2.2.2.1 (out_at ho h.2.2.2.2.2.2.1 (fun z => absurd (hA _ z) (by dsimp only; omega))), h.2.2.2.2.2.2.2.1.out ho (fun q y z => absurd (hA _ z) (by have := y.1; have := y.2; omega)), h.2.2.2.2.2.2.2.2.1.out ho (fun z => absurd (hA _ z) (by omega)), h.2.2.2.2.2.2.2.2.2.out ho (fun q y z => absurd (hA _ z) (by have := y.1; have := y.2; omega))⟩
theorem Sx.nh {E : Ev} {b : Nat} {v : NV} {rv : Nat → NV} {p d : Nat} {iv : Nat → NV} {isd : Nat → Nat} {ik bg bl bs : Nat → Int32} {nb sd : Nat} {wf : Nat → Int64} {wx wy : Int32} {fa fb : Int64} {tl tn ts : Nat → Int32} {tr : Int32} {v' : NV} {rv' : Nat → NV} {p' : Nat} {d' : Nat} {A : Nat → Prop} {H H' : Heap} (h : Sx E b v rv p d iv isd ik bg bl bs nb sd wf wx wy fa fb tl tn ts tr H) (ho : out A H H') (hA : ∀ q, A q → (b + 1 ≤ q ∧ q < b + 465) ∨ (b + 0 ≤ q ∧ q < b + 0)) (n_net : Nq E (b + 1) v' H') (n_hist : Hq E (b + 23) rv' p' d' H') : Sx E b v' rv' p' d' iv isd ik bg bl bs nb sd wf wx wy fa fb tl tn ts tr H' :=
  ⟨ob_kept h.1 (out_at ho h.1 (fun z => absurd (hA _ z) (by dsimp only; omega))), n_net, n_hist, aq_kept h.2.2.2.1 (out_at ho h.2.2.2.1 (fun z => absurd (hA _ z) (by dsimp only; omega))), fun j hj => (h.2.2.2.2.1 j hj).out ho (fun q y z => absurd (hA _ z) (by have := y.1; have := y.2; omega)), h.2.2.2.2.2.1.kept (fun q y => ho.2 q (Nat.lt_of_lt_of_le y.2 h.2.2.2.2.2.1.le) (fun z => absurd (hA _ z) (by have := y.1; have := y.2; omega))), ob_kept h.2.2.2.2.2.2.1 (out_at ho h.2.2.2.2.2.2.1 (fun z => absurd (hA _ z) (by dsimp only; omega))), h.2.2.2.2.2.2.2.1.out ho (fun q y z => absurd (hA _ z) (by have := y.1; have := y.2; omega)), h.2.2.2.2.2.2.2.2.1.out ho (fun z => absurd (hA _ z) (by omega)), h.2.2.2.2.2.2.2.2.2.out ho (fun q y z => absurd (hA _ z) (by have := y.1; have := y.2; omega))⟩
theorem Sx.b {E : Ev} {b : Nat} {v : NV} {rv : Nat → NV} {p d : Nat} {iv : Nat → NV} {isd : Nat → Nat} {ik bg bl bs : Nat → Int32} {nb sd : Nat} {wf : Nat → Int64} {wx wy : Int32} {fa fb : Int64} {tl tn ts : Nat → Int32} {tr : Int32} {bg' : Nat → Int32} {bl' : Nat → Int32} {bs' : Nat → Int32} {nb' : Nat} {A : Nat → Prop} {H H' : Heap} (h : Sx E b v rv p d iv isd ik bg bl bs nb sd wf wx wy fa fb tl tn ts tr H) (ho : out A H H') (hA : ∀ q, A q → (b + 512 ≤ q ∧ q < b + 516) ∨ (b + 0 ≤ q ∧ q < b + 0)) (n_book : Bp E (b + 512) bg' bl' bs' nb' H') : Sx E b v rv p d iv isd ik bg' bl' bs' nb' sd wf wx wy fa fb tl tn ts tr H' :=
  ⟨ob_kept h.1 (out_at ho h.1 (fun z => absurd (hA _ z) (by dsimp only; omega))), h.2.1.out ho (fun q y z => absurd (hA _ z) (by have := y.1; have := y.2; omega)), h.2.2.1.out ho (fun q y z => absurd (hA _ z) (by have := y.1; have := y.2; omega)), aq_kept h.2.2.2.1 (out_at ho h.2.2.2.1 (fun z => absurd (hA _ z) (by dsimp only; omega))), fun j hj => (h.2.2.2.2.1 j hj).out ho (fun q y z => absurd (hA _ z) (by have := y.1; have := y.2; omega)), n_book, ob_kept h.2.2.2.2.2.2.1 (out_at ho h.2.2.2.2.2.2.1 (fun z => absurd (hA _ z) (by dsimp only; omega))), h.2.2.2.2.2.2.2.1.out ho (fun q y z => absurd (hA _ z) (by have := y.1; have := y.2; omega)), h.2.2.2.2.2.2.2.2.1.out ho (fun z => absurd (hA _ z) (by omega)), h.2.2.2.2.2.2.2.2.2.out ho (fun q y z => absurd (hA _ z) (by have := y.1; have := y.2; omega))⟩
theorem Sx.d {E : Ev} {b : Nat} {v : NV} {rv : Nat → NV} {p d : Nat} {iv : Nat → NV} {isd : Nat → Nat} {ik bg bl bs : Nat → Int32} {nb sd : Nat} {wf : Nat → Int64} {wx wy : Int32} {fa fb : Int64} {tl tn ts : Nat → Int32} {tr : Int32} {sd' : Nat} {A : Nat → Prop} {H H' : Heap} (h : Sx E b v rv p d iv isd ik bg bl bs nb sd wf wx wy fa fb tl tn ts tr H) (ho : out A H H') (hA : ∀ q, A q → (b + 516 ≤ q ∧ q < b + 517) ∨ (b + 0 ≤ q ∧ q < b + 0)) (n_draws : Dp E (b + 516) sd' H') : Sx E b v rv p d iv isd ik bg bl bs nb sd' wf wx wy fa fb tl tn ts tr H' :=
  ⟨ob_kept h.1 (out_at ho h.1 (fun z => absurd (hA _ z) (by dsimp only; omega))), h.2.1.out ho (fun q y z => absurd (hA _ z) (by have := y.1; have := y.2; omega)), h.2.2.1.out ho (fun q y z => absurd (hA _ z) (by have := y.1; have := y.2; omega)), aq_kept h.2.2.2.1 (out_at ho h.2.2.2.1 (fun z => absurd (hA _ z) (by dsimp only; omega))), fun j hj => (h.2.2.2.2.1 j hj).out ho (fun q y z => absurd (hA _ z) (by have := y.1; have := y.2; omega)), h.2.2.2.2.2.1.kept (fun q y => ho.2 q (Nat.lt_of_lt_of_le y.2 h.2.2.2.2.2.1.le) (fun z => absurd (hA _ z) (by have := y.1; have := y.2; omega))), n_draws, h.2.2.2.2.2.2.2.1.out ho (fun q y z => absurd (hA _ z) (by have := y.1; have := y.2; omega)), h.2.2.2.2.2.2.2.2.1.out ho (fun z => absurd (hA _ z) (by omega)), h.2.2.2.2.2.2.2.2.2.out ho (fun q y z => absurd (hA _ z) (by have := y.1; have := y.2; omega))⟩
theorem Sx.nd {E : Ev} {b : Nat} {v : NV} {rv : Nat → NV} {p d : Nat} {iv : Nat → NV} {isd : Nat → Nat} {ik bg bl bs : Nat → Int32} {nb sd : Nat} {wf : Nat → Int64} {wx wy : Int32} {fa fb : Int64} {tl tn ts : Nat → Int32} {tr : Int32} {v' : NV} {sd' : Nat} {A : Nat → Prop} {H H' : Heap} (h : Sx E b v rv p d iv isd ik bg bl bs nb sd wf wx wy fa fb tl tn ts tr H) (ho : out A H H') (hA : ∀ q, A q → (b + 1 ≤ q ∧ q < b + 23) ∨ (b + 516 ≤ q ∧ q < b + 517)) (n_net : Nq E (b + 1) v' H') (n_draws : Dp E (b + 516) sd' H') : Sx E b v' rv p d iv isd ik bg bl bs nb sd' wf wx wy fa fb tl tn ts tr H' :=
  ⟨ob_kept h.1 (out_at ho h.1 (fun z => absurd (hA _ z) (by dsimp only; omega))), n_net, h.2.2.1.out ho (fun q y z => absurd (hA _ z) (by have := y.1; have := y.2; omega)), aq_kept h.2.2.2.1 (out_at ho h.2.2.2.1 (fun z => absurd (hA _ z) (by dsimp only; omega))), fun j hj => (h.2.2.2.2.1 j hj).out ho (fun q y z => absurd (hA _ z) (by have := y.1; have := y.2; omega)), h.2.2.2.2.2.1.kept (fun q y => ho.2 q (Nat.lt_of_lt_of_le y.2 h.2.2.2.2.2.1.le) (fun z => absurd (hA _ z) (by have := y.1; have := y.2; omega))), n_draws, h.2.2.2.2.2.2.2.1.out ho (fun q y z => absurd (hA _ z) (by have := y.1; have := y.2; omega)), h.2.2.2.2.2.2.2.2.1.out ho (fun z => absurd (hA _ z) (by omega)), h.2.2.2.2.2.2.2.2.2.out ho (fun q y z => absurd (hA _ z) (by have := y.1; have := y.2; omega))⟩
theorem Sx.w {E : Ev} {b : Nat} {v : NV} {rv : Nat → NV} {p d : Nat} {iv : Nat → NV} {isd : Nat → Nat} {ik bg bl bs : Nat → Int32} {nb sd : Nat} {wf : Nat → Int64} {wx wy : Int32} {fa fb : Int64} {tl tn ts : Nat → Int32} {tr : Int32} {wf' : Nat → Int64} {wx' : Int32} {wy' : Int32} {A : Nat → Prop} {H H' : Heap} (h : Sx E b v rv p d iv isd ik bg bl bs nb sd wf wx wy fa fb tl tn ts tr H) (ho : out A H H') (hA : ∀ q, A q → (b + 517 ≤ q ∧ q < b + 519) ∨ (b + 0 ≤ q ∧ q < b + 0)) (n_wts : Wp E (b + 517) wf' wx' wy' H') : Sx E b v rv p d iv isd ik bg bl bs nb sd wf' wx' wy' fa fb tl tn ts tr H' :=
  ⟨ob_kept h.1 (out_at ho h.1 (fun z => absurd (hA _ z) (by dsimp only; omega))), h.2.1.out ho (fun q y z => absurd (hA _ z) (by have := y.1; have := y.2; omega)), h.2.2.1.out ho (fun q y z => absurd (hA _ z) (by have := y.1; have := y.2; omega)), aq_kept h.2.2.2.1 (out_at ho h.2.2.2.1 (fun z => absurd (hA _ z) (by dsimp only; omega))), fun j hj => (h.2.2.2.2.1 j hj).out ho (fun q y z => absurd (hA _ z) (by have := y.1; have := y.2; omega)), h.2.2.2.2.2.1.kept (fun q y => ho.2 q (Nat.lt_of_lt_of_le y.2 h.2.2.2.2.2.1.le) (fun z => absurd (hA _ z) (by have := y.1; have := y.2; omega))), ob_kept h.2.2.2.2.2.2.1 (out_at ho h.2.2.2.2.2.2.1 (fun z => absurd (hA _ z) (by dsimp only; omega))), n_wts, h.2.2.2.2.2.2.2.2.1.out ho (fun z => absurd (hA _ z) (by omega)), h.2.2.2.2.2.2.2.2.2.out ho (fun q y z => absurd (hA _ z) (by have := y.1; have := y.2; omega))⟩
theorem Sx.f {E : Ev} {b : Nat} {v : NV} {rv : Nat → NV} {p d : Nat} {iv : Nat → NV} {isd : Nat → Nat} {ik bg bl bs : Nat → Int32} {nb sd : Nat} {wf : Nat → Int64} {wx wy : Int32} {fa fb : Int64} {tl tn ts : Nat → Int32} {tr : Int32} {fa' : Int64} {fb' : Int64} {A : Nat → Prop} {H H' : Heap} (h : Sx E b v rv p d iv isd ik bg bl bs nb sd wf wx wy fa fb tl tn ts tr H) (ho : out A H H') (hA : ∀ q, A q → (b + 519 ≤ q ∧ q < b + 520) ∨ (b + 0 ≤ q ∧ q < b + 0)) (n_frac : Fp E (b + 519) fa' fb' H') : Sx E b v rv p d iv isd ik bg bl bs nb sd wf wx wy fa' fb' tl tn ts tr H' :=
  ⟨ob_kept h.1 (out_at ho h.1 (fun z => absurd (hA _ z) (by dsimp only; omega))), h.2.1.out ho (fun q y z => absurd (hA _ z) (by have := y.1; have := y.2; omega)), h.2.2.1.out ho (fun q y z => absurd (hA _ z) (by have := y.1; have := y.2; omega)), aq_kept h.2.2.2.1 (out_at ho h.2.2.2.1 (fun z => absurd (hA _ z) (by dsimp only; omega))), fun j hj => (h.2.2.2.2.1 j hj).out ho (fun q y z => absurd (hA _ z) (by have := y.1; have := y.2; omega)), h.2.2.2.2.2.1.kept (fun q y => ho.2 q (Nat.lt_of_lt_of_le y.2 h.2.2.2.2.2.1.le) (fun z => absurd (hA _ z) (by have := y.1; have := y.2; omega))), ob_kept h.2.2.2.2.2.2.1 (out_at ho h.2.2.2.2.2.2.1 (fun z => absurd (hA _ z) (by dsimp only; omega))), h.2.2.2.2.2.2.2.1.out ho (fun q y z => absurd (hA _ z) (by have := y.1; have := y.2; omega)), n_frac, h.2.2.2.2.2.2.2.2.2.out ho (fun q y z => absurd (hA _ z) (by have := y.1; have := y.2; omega))⟩
theorem Sx.tw {E : Ev} {b : Nat} {v : NV} {rv : Nat → NV} {p d : Nat} {iv : Nat → NV} {isd : Nat → Nat} {ik bg bl bs : Nat → Int32} {nb sd : Nat} {wf : Nat → Int64} {wx wy : Int32} {fa fb : Int64} {tl tn ts : Nat → Int32} {tr : Int32} {wf' : Nat → Int64} {wx' : Int32} {wy' : Int32} {tl' : Nat → Int32} {tn' : Nat → Int32} {ts' : Nat → Int32} {tr' : Int32} {A : Nat → Prop} {H H' : Heap} (h : Sx E b v rv p d iv isd ik bg bl bs nb sd wf wx wy fa fb tl tn ts tr H) (ho : out A H H') (hA : ∀ q, A q → (b + 517 ≤ q ∧ q < b + 519) ∨ (b + 520 ≤ q ∧ q < b + 524)) (n_wts : Wp E (b + 517) wf' wx' wy' H') (n_tog : Tp E (b + 520) tl' tn' ts' tr' H') : Sx E b v rv p d iv isd ik bg bl bs nb sd wf' wx' wy' fa fb tl' tn' ts' tr' H' :=
  ⟨ob_kept h.1 (out_at ho h.1 (fun z => absurd (hA _ z) (by dsimp only; omega))), h.2.1.out ho (fun q y z => absurd (hA _ z) (by have := y.1; have := y.2; omega)), h.2.2.1.out ho (fun q y z => absurd (hA _ z) (by have := y.1; have := y.2; omega)), aq_kept h.2.2.2.1 (out_at ho h.2.2.2.1 (fun z => absurd (hA _ z) (by dsimp only; omega))), fun j hj => (h.2.2.2.2.1 j hj).out ho (fun q y z => absurd (hA _ z) (by have := y.1; have := y.2; omega)), h.2.2.2.2.2.1.kept (fun q y => ho.2 q (Nat.lt_of_lt_of_le y.2 h.2.2.2.2.2.1.le) (fun z => absurd (hA _ z) (by have := y.1; have := y.2; omega))), ob_kept h.2.2.2.2.2.2.1 (out_at ho h.2.2.2.2.2.2.1 (fun z => absurd (hA _ z) (by dsimp only; omega))), n_wts, h.2.2.2.2.2.2.2.2.1.out ho (fun z => absurd (hA _ z) (by omega)), n_tog⟩
theorem Sx.i {E : Ev} {b j : Nat} {v : NV} {rv : Nat → NV} {p d : Nat} {iv : Nat → NV} {isd : Nat → Nat} {ik bg bl bs : Nat → Int32} {nb sd : Nat} {wf : Nat → Int64} {wx wy : Int32} {fa fb : Int64} {tl tn ts : Nat → Int32} {tr : Int32} {v' : NV} {s' : Nat} {k' : Int32} {A : Nat → Prop} {H H' : Heap} (hj : j < 2) (h : Sx E b v rv p d iv isd ik bg bl bs nb sd wf wx wy fa fb tl tn ts tr H) (ho : out A H H') (hA : ∀ q, A q → b + 466 + 23 * j ≤ q ∧ q < b + 489 + 23 * j) (n_img : Iq E (b + 466 + 23 * j) v' s' k' H') : Sx E b v rv p d (va_up iv j v') (va_up isd j s') (va_up ik j k') bg bl bs nb sd wf wx wy fa fb tl tn ts tr H' :=
  ⟨ob_kept h.1 (out_at ho h.1 (fun z => absurd (hA _ z) (by dsimp only; omega))), h.2.1.out ho (fun q y z => absurd (hA _ z) (by have := y.1; have := y.2; omega)), h.2.2.1.out ho (fun q y z => absurd (hA _ z) (by have := y.1; have := y.2; omega)), aq_kept h.2.2.2.1 (out_at ho h.2.2.2.1 (fun z => absurd (hA _ z) (by dsimp only; omega))), fun i hi => if e : i = j then by subst e; rw [va_up_self, va_up_self, va_up_self]; exact n_img else by rw [va_up_ne _ _ e, va_up_ne _ _ e, va_up_ne _ _ e]; exact (h.2.2.2.2.1 i hi).out ho (fun q y z => absurd (hA _ z) (by have := y.1; have := y.2; omega)), h.2.2.2.2.2.1.kept (fun q y => ho.2 q (Nat.lt_of_lt_of_le y.2 h.2.2.2.2.2.1.le) (fun z => absurd (hA _ z) (by have := y.1; have := y.2; omega))), ob_kept h.2.2.2.2.2.2.1 (out_at ho h.2.2.2.2.2.2.1 (fun z => absurd (hA _ z) (by dsimp only; omega))), h.2.2.2.2.2.2.2.1.out ho (fun q y z => absurd (hA _ z) (by have := y.1; have := y.2; omega)), h.2.2.2.2.2.2.2.2.1.out ho (fun z => absurd (hA _ z) (by omega)), h.2.2.2.2.2.2.2.2.2.out ho (fun q y z => absurd (hA _ z) (by have := y.1; have := y.2; omega))⟩
/-- the ring of rows, and what was, the oldest first -/
def rel (rv : Nat → NV) (p : Nat) (hv : Nat → NV) (d : Nat) : Prop := p < 20 ∧ d ≤ 20 ∧ ∀ j, j < d → rv ((p + 20 - d + j) % 20) = hv j
def pushH (hv : Nat → NV) (d : Nat) (v : NV) : Nat → NV := if d < 20 then va_up hv d v else fun j => if j = 19 then v else hv (j + 1)
def pushD (d : Nat) : Nat := if d < 20 then d + 1 else d
theorem rel.push {rv : Nat → NV} {p : Nat} {hv : Nat → NV} {d : Nat} (h : rel rv p hv d) (v : NV) : rel (va_up rv p v) ((p + 1) % 20) (pushH hv d v) (pushD d) := by
  obtain ⟨h1, h2, h3⟩ := h
  unfold pushH pushD
  by_cases hd : d < 20
  · rw [if_pos hd, if_pos hd]
    refine ⟨Nat.mod_lt _ (by omega), by omega, fun j hj => ?_⟩
    by_cases e : j = d
    · subst e
      rw [va_up_self, show ((p + 1) % 20 + 20 - (j + 1) + j) % 20 = p by omega, va_up_self]
    · rw [va_up_ne _ _ e, show ((p + 1) % 20 + 20 - (d + 1) + j) % 20 = (p + 20 - d + j) % 20 by omega, va_up_ne _ _ (by omega)]
      exact h3 j (by omega)
  · rw [if_neg hd, if_neg hd]
    obtain rfl : d = 20 := by omega
    refine ⟨Nat.mod_lt _ (by omega), by omega, fun j hj => ?_⟩
    dsimp only
    by_cases e : j = 19
    · subst e
      rw [if_pos rfl, show ((p + 1) % 20 + 20 - 20 + 19) % 20 = p by omega, va_up_self]
    · rw [if_neg e, va_up_ne _ _ (by omega), ← h3 (j + 1) (by omega)]
      congr 1
      omega
theorem rel.back {rv : Nat → NV} {p : Nat} {hv : Nat → NV} {d n : Nat} (h : rel rv p hv d) (hn : n ≤ d) : rel rv ((p + 20 - n) % 20) hv (d - n) ∧ (1 ≤ n → rv ((p + 20 - n) % 20) = hv (d - n)) := by
  obtain ⟨h1, h2, h3⟩ := h
  refine ⟨⟨Nat.mod_lt _ (by omega), by omega, fun j hj => ?_⟩, fun hn1 => ?_⟩
  · rw [← h3 j (by omega)]
    congr 1
    omega
  · rw [← h3 (d - n) (by omega)]
    congr 1
    omega
theorem rel.zero {rv : Nat → NV} {p : Nat} {hv : Nat → NV} {d : Nat} (h : rel rv p hv d) : rel rv p hv 0 := ⟨h.1, by omega, fun j hj => by omega⟩
/-- the class, its scratch rows hidden -/
def Cs (E : Ev) (b : Nat) (v : NV) (hv : Nat → NV) (d : Nat) (iv : Nat → NV) (isd : Nat → Nat) (ik bg bl bs : Nat → Int32) (nb sd : Nat) (H : Heap) : Prop := ∃ (rv : Nat → NV) (p : Nat) (wf : Nat → Int64) (wx wy : Int32) (fa fb : Int64) (tl tn ts : Nat → Int32) (tr : Int32), rel rv p hv d ∧ Sx E b v rv p d iv isd ik bg bl bs nb sd wf wx wy fa fb tl tn ts tr H
theorem g_open {l : Launch} {R : Room} {E : Ev} {x : Cx} {k n : Nat} {lo : List (Option Value)} {pc : Nat} {st : List Value} {b : Nat} {v : NV} {hv : Nat → NV} {d : Nat} {iv : Nat → NV} {isd : Nat → Nat} {ik bg bl bs : Nat → Int32} {nb sd : Nat}
    (h : ∀ (rv : Nat → NV) (p : Nat) (wf : Nat → Int64) (wx wy : Int32) (fa fb : Int64) (tl tn ts : Nat → Int32) (tr : Int32), rel rv p hv d → go l R E x k n (Sx E b v rv p d iv isd ik bg bl bs nb sd wf wx wy fa fb tl tn ts tr) lo pc st) : go l R E x k n (Cs E b v hv d iv isd ik bg bl bs nb sd) lo pc st := by
  obtain ⟨p0, e, s, m, args, below, meth, c, A, Rt⟩ := x
  intro H ls locs hP hl hS
  obtain ⟨rv, p, wf, wx, wy, fa, fb, tl, tn, ts, tr, hr, hP⟩ := hP
  exact h rv p wf wx wy fa fb tl tn ts tr hr H ls locs hP hl hS
theorem Cs.mk {E : Ev} {b : Nat} {hv : Nat → NV} {v : NV} {rv : Nat → NV} {p d : Nat} {iv : Nat → NV} {isd : Nat → Nat} {ik bg bl bs : Nat → Int32} {nb sd : Nat} {wf : Nat → Int64} {wx wy : Int32} {fa fb : Int64} {tl tn ts : Nat → Int32} {tr : Int32} {H : Heap} (hr : rel rv p hv d) (h : Sx E b v rv p d iv isd ik bg bl bs nb sd wf wx wy fa fb tl tn ts tr H) : Cs E b v hv d iv isd ik bg bl bs nb sd H := ⟨rv, p, wf, wx, wy, fa, fb, tl, tn, ts, tr, hr, h⟩
end
