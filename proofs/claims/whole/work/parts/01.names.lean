-- ===== PART A: goes FIRST, ahead of the names: the tables' words, and 'selects' of the private methods out of them =====
/-- a private method of a class that the tables say can be made, by its rows of tables_1 -/
def lw_okq (q : MethodName × Nat) : Prop := (q.1.cls ≠ "java/lang/invoke/MethodHandle" ∧ q.1.cls ≠ "java/lang/invoke/VarHandle") ∧ Cond.instantiable q.1.cls q.2 ∈ tables_1 ∧ Cond.privateMethod q.1 ∈ tables_1 ∧ Cond.instanceMethod q.1 ∈ tables_1
theorem lw_p0 : lw_okq (⟨"TrunkReserveModel", "builds", "(I)V"⟩, 15) := ⟨⟨by decide +kernel, by decide +kernel⟩, List.mem_of_getElem? (i := 626) (by decide +kernel), List.mem_of_getElem? (i := 632) (by decide +kernel), List.mem_of_getElem? (i := 633) (by decide +kernel)⟩
theorem lw_p1 : lw_okq (⟨"TrunkReserveModel", "put", "(III)V"⟩, 15) := ⟨⟨by decide +kernel, by decide +kernel⟩, List.mem_of_getElem? (i := 626) (by decide +kernel), List.mem_of_getElem? (i := 636) (by decide +kernel), List.mem_of_getElem? (i := 637) (by decide +kernel)⟩
theorem lw_p2 : lw_okq (⟨"TrunkReserveModel", "frees", "(I)V"⟩, 15) := ⟨⟨by decide +kernel, by decide +kernel⟩, List.mem_of_getElem? (i := 626) (by decide +kernel), List.mem_of_getElem? (i := 640) (by decide +kernel), List.mem_of_getElem? (i := 641) (by decide +kernel)⟩
theorem lw_p3 : lw_okq (⟨"TrunkReserveModel", "putL", "(IIIIII)V"⟩, 15) := ⟨⟨by decide +kernel, by decide +kernel⟩, List.mem_of_getElem? (i := 626) (by decide +kernel), List.mem_of_getElem? (i := 644) (by decide +kernel), List.mem_of_getElem? (i := 645) (by decide +kernel)⟩
theorem lw_p4 : lw_okq (⟨"TrunkReserveModel", "held", "()I"⟩, 15) := ⟨⟨by decide +kernel, by decide +kernel⟩, List.mem_of_getElem? (i := 626) (by decide +kernel), List.mem_of_getElem? (i := 699) (by decide +kernel), List.mem_of_getElem? (i := 700) (by decide +kernel)⟩
theorem lw_p5 : lw_okq (⟨"TrunkReserveModel", "setOf", "(II)I"⟩, 15) := ⟨⟨by decide +kernel, by decide +kernel⟩, List.mem_of_getElem? (i := 626) (by decide +kernel), List.mem_of_getElem? (i := 703) (by decide +kernel), List.mem_of_getElem? (i := 704) (by decide +kernel)⟩
theorem lw_p6 : lw_okq (⟨"TrunkReserveModel", "of", "(II)I"⟩, 15) := ⟨⟨by decide +kernel, by decide +kernel⟩, List.mem_of_getElem? (i := 626) (by decide +kernel), List.mem_of_getElem? (i := 707) (by decide +kernel), List.mem_of_getElem? (i := 708) (by decide +kernel)⟩
theorem lw_p7 : lw_okq (⟨"TrunkReserveModel", "ofL", "(III)I"⟩, 15) := ⟨⟨by decide +kernel, by decide +kernel⟩, List.mem_of_getElem? (i := 626) (by decide +kernel), List.mem_of_getElem? (i := 711) (by decide +kernel), List.mem_of_getElem? (i := 712) (by decide +kernel)⟩
theorem lw_p8 : lw_okq (⟨"TrunkReserveModel", "lost", "()I"⟩, 15) := ⟨⟨by decide +kernel, by decide +kernel⟩, List.mem_of_getElem? (i := 626) (by decide +kernel), List.mem_of_getElem? (i := 718) (by decide +kernel), List.mem_of_getElem? (i := 719) (by decide +kernel)⟩
theorem lw_p9 : lw_okq (⟨"TrunkReserveModel", "together", "()V"⟩, 15) := ⟨⟨by decide +kernel, by decide +kernel⟩, List.mem_of_getElem? (i := 626) (by decide +kernel), List.mem_of_getElem? (i := 722) (by decide +kernel), List.mem_of_getElem? (i := 723) (by decide +kernel)⟩
theorem lw_p10 : lw_okq (⟨"TrunkReserveModel", "loses", "()V"⟩, 15) := ⟨⟨by decide +kernel, by decide +kernel⟩, List.mem_of_getElem? (i := 626) (by decide +kernel), List.mem_of_getElem? (i := 726) (by decide +kernel), List.mem_of_getElem? (i := 727) (by decide +kernel)⟩
theorem lw_p11 : lw_okq (⟨"TrunkReserveModel", "wrong", "()I"⟩, 15) := ⟨⟨by decide +kernel, by decide +kernel⟩, List.mem_of_getElem? (i := 626) (by decide +kernel), List.mem_of_getElem? (i := 732) (by decide +kernel), List.mem_of_getElem? (i := 733) (by decide +kernel)⟩
theorem lw_p12 : lw_okq (⟨"TrunkReserveModel", "isLine", "(II)Z"⟩, 15) := ⟨⟨by decide +kernel, by decide +kernel⟩, List.mem_of_getElem? (i := 626) (by decide +kernel), List.mem_of_getElem? (i := 736) (by decide +kernel), List.mem_of_getElem? (i := 737) (by decide +kernel)⟩
theorem lw_p13 : lw_okq (⟨"TrunkReserveModel", "isGroup", "(I)Z"⟩, 15) := ⟨⟨by decide +kernel, by decide +kernel⟩, List.mem_of_getElem? (i := 626) (by decide +kernel), List.mem_of_getElem? (i := 740) (by decide +kernel), List.mem_of_getElem? (i := 741) (by decide +kernel)⟩
theorem lw_p14 : lw_okq (⟨"TrunkReserveModel", "goesTo", "(I)I"⟩, 15) := ⟨⟨by decide +kernel, by decide +kernel⟩, List.mem_of_getElem? (i := 626) (by decide +kernel), List.mem_of_getElem? (i := 753) (by decide +kernel), List.mem_of_getElem? (i := 754) (by decide +kernel)⟩
theorem lw_p15 : lw_okq (⟨"TrunkReserveModel", "choice", "(I)I"⟩, 15) := ⟨⟨by decide +kernel, by decide +kernel⟩, List.mem_of_getElem? (i := 626) (by decide +kernel), List.mem_of_getElem? (i := 757) (by decide +kernel), List.mem_of_getElem? (i := 758) (by decide +kernel)⟩
def lw_privs_1 : List (MethodName × Nat) := [(⟨"TrunkReserveModel", "builds", "(I)V"⟩, 15), (⟨"TrunkReserveModel", "put", "(III)V"⟩, 15), (⟨"TrunkReserveModel", "frees", "(I)V"⟩, 15), (⟨"TrunkReserveModel", "putL", "(IIIIII)V"⟩, 15), (⟨"TrunkReserveModel", "held", "()I"⟩, 15), (⟨"TrunkReserveModel", "setOf", "(II)I"⟩, 15), (⟨"TrunkReserveModel", "of", "(II)I"⟩, 15), (⟨"TrunkReserveModel", "ofL", "(III)I"⟩, 15), (⟨"TrunkReserveModel", "lost", "()I"⟩, 15), (⟨"TrunkReserveModel", "together", "()V"⟩, 15), (⟨"TrunkReserveModel", "loses", "()V"⟩, 15), (⟨"TrunkReserveModel", "wrong", "()I"⟩, 15), (⟨"TrunkReserveModel", "isLine", "(II)Z"⟩, 15), (⟨"TrunkReserveModel", "isGroup", "(I)Z"⟩, 15), (⟨"TrunkReserveModel", "goesTo", "(I)I"⟩, 15), (⟨"TrunkReserveModel", "choice", "(I)I"⟩, 15)]
theorem lw_r1 : ∀ q ∈ lw_privs_1, lw_okq q := List.forall_mem_cons.mpr ⟨lw_p0, List.forall_mem_cons.mpr ⟨lw_p1, List.forall_mem_cons.mpr ⟨lw_p2, List.forall_mem_cons.mpr ⟨lw_p3, List.forall_mem_cons.mpr ⟨lw_p4, List.forall_mem_cons.mpr ⟨lw_p5, List.forall_mem_cons.mpr ⟨lw_p6, List.forall_mem_cons.mpr ⟨lw_p7, List.forall_mem_cons.mpr ⟨lw_p8, List.forall_mem_cons.mpr ⟨lw_p9, List.forall_mem_cons.mpr ⟨lw_p10, List.forall_mem_cons.mpr ⟨lw_p11, List.forall_mem_cons.mpr ⟨lw_p12, List.forall_mem_cons.mpr ⟨lw_p13, List.forall_mem_cons.mpr ⟨lw_p14, List.forall_mem_cons.mpr ⟨lw_p15, fun _ h => absurd h List.not_mem_nil⟩⟩⟩⟩⟩⟩⟩⟩⟩⟩⟩⟩⟩⟩⟩⟩
theorem lw_p16 : lw_okq (⟨"TrunkReserveModel", "notes", "()V"⟩, 15) := ⟨⟨by decide +kernel, by decide +kernel⟩, List.mem_of_getElem? (i := 626) (by decide +kernel), List.mem_of_getElem? (i := 769) (by decide +kernel), List.mem_of_getElem? (i := 770) (by decide +kernel)⟩
theorem lw_p17 : lw_okq (⟨"TrunkReserveModel", "comes", "(I)I"⟩, 15) := ⟨⟨by decide +kernel, by decide +kernel⟩, List.mem_of_getElem? (i := 626) (by decide +kernel), List.mem_of_getElem? (i := 781) (by decide +kernel), List.mem_of_getElem? (i := 782) (by decide +kernel)⟩
theorem lw_p18 : lw_okq (⟨"TrunkReserveModel", "ends", "(II)I"⟩, 15) := ⟨⟨by decide +kernel, by decide +kernel⟩, List.mem_of_getElem? (i := 626) (by decide +kernel), List.mem_of_getElem? (i := 790) (by decide +kernel), List.mem_of_getElem? (i := 791) (by decide +kernel)⟩
theorem lw_p19 : lw_okq (⟨"TrunkReserveModel", "drawOf", "(I)I"⟩, 15) := ⟨⟨by decide +kernel, by decide +kernel⟩, List.mem_of_getElem? (i := 626) (by decide +kernel), List.mem_of_getElem? (i := 806) (by decide +kernel), List.mem_of_getElem? (i := 807) (by decide +kernel)⟩
theorem lw_p20 : lw_okq (⟨"TrunkReserveModel", "weighs", "(IIII)V"⟩, 15) := ⟨⟨by decide +kernel, by decide +kernel⟩, List.mem_of_getElem? (i := 626) (by decide +kernel), List.mem_of_getElem? (i := 824) (by decide +kernel), List.mem_of_getElem? (i := 825) (by decide +kernel)⟩
def lw_privs_2 : List (MethodName × Nat) := [(⟨"TrunkReserveModel", "notes", "()V"⟩, 15), (⟨"TrunkReserveModel", "comes", "(I)I"⟩, 15), (⟨"TrunkReserveModel", "ends", "(II)I"⟩, 15), (⟨"TrunkReserveModel", "drawOf", "(I)I"⟩, 15), (⟨"TrunkReserveModel", "weighs", "(IIII)V"⟩, 15)]
theorem lw_r2 : ∀ q ∈ lw_privs_2, lw_okq q := List.forall_mem_cons.mpr ⟨lw_p16, List.forall_mem_cons.mpr ⟨lw_p17, List.forall_mem_cons.mpr ⟨lw_p18, List.forall_mem_cons.mpr ⟨lw_p19, List.forall_mem_cons.mpr ⟨lw_p20, fun _ h => absurd h List.not_mem_nil⟩⟩⟩⟩⟩
def lw_privs : List (MethodName × Nat) := lw_privs_1 ++ (lw_privs_2)
def lw_tbl : List Cond := k2_sels lw_privs ++ tables_1
theorem lw_privs_ok : ∀ q ∈ lw_privs, lw_okq q := by
  show ∀ q ∈ lw_privs_1 ++ (lw_privs_2), lw_okq q
  exact List.forall_mem_append.mpr ⟨lw_r1, lw_r2⟩
def RX0 : String := "TrunkReserve$Book"
def TX0 : u_T := fun k => match k with
  | 0 => ("TrunkReserve$Book", "groups", "[I", true)
  | 1 => ("TrunkReserve$Book", "lines", "[I", true)
  | 2 => ("TrunkReserve$Book", "states", "[I", true)
  | _ => ("TrunkReserve$Book", "size", "I", false)
def tyX0 : Nat → FieldType := fun k => match k with
  | 0 => .array .int
  | 1 => .array .int
  | 2 => .array .int
  | _ => .int
abbrev wsX00 : List Cond := u_ws RX0 TX0 4
theorem nmX0 : ∀ a, a < 4 → ∀ b, b < 4 → a ≠ b → (TX0 a).2.1 ≠ (TX0 b).2.1 := by decide +kernel
theorem tyX0_ok : ∀ k, k < 4 → parseFieldDescriptor (TX0 k).2.2.1 = some (tyX0 k) := by decide +kernel
abbrev cX0_init : ByteArray := prog_2_method_1_code
def yX0_init : MethodName := ⟨RX0, "<init>", "()V"⟩
abbrev cX0_enter : ByteArray := prog_2_method_2_code
def yX0_enter : MethodName := ⟨RX0, "enter", "(III)V"⟩
abbrev cX0_clear : ByteArray := prog_2_method_3_code
def yX0_clear : MethodName := ⟨RX0, "clear", "()V"⟩
abbrev cX0_firstWrong : ByteArray := prog_2_method_4_code
def yX0_firstWrong : MethodName := ⟨RX0, "firstWrong", "(LTrunkReserve$Net;)I"⟩
abbrev cX0_isWrong : ByteArray := prog_2_method_5_code
def yX0_isWrong : MethodName := ⟨RX0, "isWrong", "(ILTrunkReserve$Net;)Z"⟩
def RX1 : String := "TrunkReserve$Draws"
def TX1 : u_T := fun k => match k with
  | _ => ("TrunkReserve$Draws", "seedNow", "I", false)
def tyX1 : Nat → FieldType := fun k => match k with
  | _ => .int
abbrev wsX10 : List Cond := u_ws RX1 TX1 1
theorem nmX1 : ∀ a, a < 1 → ∀ b, b < 1 → a ≠ b → (TX1 a).2.1 ≠ (TX1 b).2.1 := by decide +kernel
theorem tyX1_ok : ∀ k, k < 1 → parseFieldDescriptor (TX1 k).2.2.1 = some (tyX1 k) := by decide +kernel
abbrev cX1_init : ByteArray := prog_3_method_1_code
def yX1_init : MethodName := ⟨RX1, "<init>", "()V"⟩
abbrev cX1_draw : ByteArray := prog_3_method_2_code
def yX1_draw : MethodName := ⟨RX1, "draw", "(I)I"⟩
abbrev cX1_driftOnce : ByteArray := prog_3_method_3_code
def yX1_driftOnce : MethodName := ⟨RX1, "driftOnce", "(LTrunkReserve$Net;)V"⟩
def RX2 : String := "TrunkReserve$Fraction"
def TX2 : u_T := fun k => match k with
  | 0 => ("TrunkReserve$Fraction", "above", "J", false)
  | _ => ("TrunkReserve$Fraction", "below", "J", false)
def tyX2 : Nat → FieldType := fun k => match k with
  | 0 => .long
  | _ => .long
abbrev wsX20 : List Cond := u_ws RX2 TX2 2
theorem nmX2 : ∀ a, a < 2 → ∀ b, b < 2 → a ≠ b → (TX2 a).2.1 ≠ (TX2 b).2.1 := by decide +kernel
theorem tyX2_ok : ∀ k, k < 2 → parseFieldDescriptor (TX2 k).2.2.1 = some (tyX2 k) := by decide +kernel
abbrev cX2_init : ByteArray := prog_4_method_1_code
def yX2_init : MethodName := ⟨RX2, "<init>", "()V"⟩
abbrev cX2_become : ByteArray := prog_4_method_2_code
def yX2_become : MethodName := ⟨RX2, "become", "(JJ)V"⟩
abbrev cX2_commonDivisor : ByteArray := prog_4_method_3_code
def yX2_commonDivisor : MethodName := ⟨RX2, "commonDivisor", "(JJ)J"⟩
abbrev cX2_part : ByteArray := prog_4_method_4_code
def yX2_part : MethodName := ⟨RX2, "part", "(I)J"⟩
abbrev cX2_spreadFromMean : ByteArray := prog_4_method_5_code
def yX2_spreadFromMean : MethodName := ⟨RX2, "spreadFromMean", "(II)V"⟩
def RX3 : String := "TrunkReserve$Group"
def TX3 : u_T := fun k => match k with
  | 0 => ("TrunkReserve$Group", "lines", "I", false)
  | 1 => ("TrunkReserve$Group", "load", "I", false)
  | 2 => ("TrunkReserve$Group", "reserve", "I", false)
  | 3 => ("TrunkReserve$Group", "goesOver", "I", false)
  | 4 => ("TrunkReserve$Group", "choice", "I", false)
  | 5 => ("TrunkReserve$Group", "offered", "I", false)
  | 6 => ("TrunkReserve$Group", "taken", "I", false)
  | 7 => ("TrunkReserve$Group", "wentOver", "I", false)
  | 8 => ("TrunkReserve$Group", "lost", "I", false)
  | 9 => ("TrunkReserve$Group", "ringStart", "I", false)
  | 10 => ("TrunkReserve$Group", "state", "[I", true)
  | 11 => ("TrunkReserve$Group", "holder", "[I", true)
  | 12 => ("TrunkReserve$Group", "cameFor", "[I", true)
  | _ => ("TrunkReserve$Group", "freeSince", "[I", true)
def tyX3 : Nat → FieldType := fun k => match k with
  | 0 => .int
  | 1 => .int
  | 2 => .int
  | 3 => .int
  | 4 => .int
  | 5 => .int
  | 6 => .int
  | 7 => .int
  | 8 => .int
  | 9 => .int
  | 10 => .array .int
  | 11 => .array .int
  | 12 => .array .int
  | _ => .array .int
abbrev wsX30 : List Cond := u_ws RX3 TX3 14
theorem nmX3 : ∀ a, a < 14 → ∀ b, b < 14 → a ≠ b → (TX3 a).2.1 ≠ (TX3 b).2.1 := by decide +kernel
theorem tyX3_ok : ∀ k, k < 14 → parseFieldDescriptor (TX3 k).2.2.1 = some (tyX3 k) := by decide +kernel
abbrev cX3_init : ByteArray := prog_5_method_1_code
def yX3_init : MethodName := ⟨RX3, "<init>", "()V"⟩
abbrev cX3_begin : ByteArray := prog_5_method_2_code
def yX3_begin : MethodName := ⟨RX3, "begin", "()V"⟩
abbrev cX3_freeAllLines : ByteArray := prog_5_method_3_code
def yX3_freeAllLines : MethodName := ⟨RX3, "freeAllLines", "()V"⟩
abbrev cX3_copyFrom : ByteArray := prog_5_method_4_code
def yX3_copyFrom : MethodName := ⟨RX3, "copyFrom", "(LTrunkReserve$Group;)V"⟩
abbrev cX3_hasLine : ByteArray := prog_5_method_5_code
def yX3_hasLine : MethodName := ⟨RX3, "hasLine", "(I)Z"⟩
abbrev cX3_setOf : ByteArray := prog_5_method_6_code
def yX3_setOf : MethodName := ⟨RX3, "setOf", "(I)I"⟩
abbrev cX3_count : ByteArray := prog_5_method_7_code
def yX3_count : MethodName := ⟨RX3, "count", "(I)I"⟩
abbrev cX3_chosenLine : ByteArray := prog_5_method_8_code
def yX3_chosenLine : MethodName := ⟨RX3, "chosenLine", "()I"⟩
abbrev cX3_firstFreeFrom : ByteArray := prog_5_method_9_code
def yX3_firstFreeFrom : MethodName := ⟨RX3, "firstFreeFrom", "(I)I"⟩
abbrev cX3_lastFree : ByteArray := prog_5_method_10_code
def yX3_lastFree : MethodName := ⟨RX3, "lastFree", "()I"⟩
abbrev cX3_longestFree : ByteArray := prog_5_method_11_code
def yX3_longestFree : MethodName := ⟨RX3, "longestFree", "()I"⟩
abbrev cX3_hold : ByteArray := prog_5_method_12_code
def yX3_hold : MethodName := ⟨RX3, "hold", "(III)V"⟩
abbrev cX3_letGo : ByteArray := prog_5_method_13_code
def yX3_letGo : MethodName := ⟨RX3, "letGo", "(III)V"⟩
def RX4 : String := "TrunkReserve$History"
def TX4 : u_T := fun k => match k with
  | 0 => ("TrunkReserve$History", "rows", "[LTrunkReserve$Net;", true)
  | 1 => ("TrunkReserve$History", "next", "I", false)
  | _ => ("TrunkReserve$History", "size", "I", false)
def tyX4 : Nat → FieldType := fun k => match k with
  | 0 => .array (.object "TrunkReserve$Net")
  | 1 => .int
  | _ => .int
abbrev wsX40 : List Cond := u_ws RX4 TX4 3
theorem nmX4 : ∀ a, a < 3 → ∀ b, b < 3 → a ≠ b → (TX4 a).2.1 ≠ (TX4 b).2.1 := by decide +kernel
theorem tyX4_ok : ∀ k, k < 3 → parseFieldDescriptor (TX4 k).2.2.1 = some (tyX4 k) := by decide +kernel
abbrev cX4_init : ByteArray := prog_6_method_1_code
def yX4_init : MethodName := ⟨RX4, "<init>", "()V"⟩
abbrev cX4_remember : ByteArray := prog_6_method_2_code
def yX4_remember : MethodName := ⟨RX4, "remember", "(LTrunkReserve$Net;)V"⟩
abbrev cX4_forget : ByteArray := prog_6_method_3_code
def yX4_forget : MethodName := ⟨RX4, "forget", "()V"⟩
abbrev cX4_takeBack : ByteArray := prog_6_method_4_code
def yX4_takeBack : MethodName := ⟨RX4, "takeBack", "(ILTrunkReserve$Net;)V"⟩
def RX5 : String := "TrunkReserve$Image"
def TX5 : u_T := fun k => match k with
  | 0 => ("TrunkReserve$Image", "net", "LTrunkReserve$Net;", true)
  | 1 => ("TrunkReserve$Image", "seedThen", "I", false)
  | _ => ("TrunkReserve$Image", "kept", "Z", false)
def tyX5 : Nat → FieldType := fun k => match k with
  | 0 => .object "TrunkReserve$Net"
  | 1 => .int
  | _ => .boolean
abbrev wsX50 : List Cond := u_ws RX5 TX5 3
theorem nmX5 : ∀ a, a < 3 → ∀ b, b < 3 → a ≠ b → (TX5 a).2.1 ≠ (TX5 b).2.1 := by decide +kernel
theorem tyX5_ok : ∀ k, k < 3 → parseFieldDescriptor (TX5 k).2.2.1 = some (tyX5 k) := by decide +kernel
abbrev cX5_init : ByteArray := prog_7_method_1_code
def yX5_init : MethodName := ⟨RX5, "<init>", "()V"⟩
abbrev cX5_take : ByteArray := prog_7_method_2_code
def yX5_take : MethodName := ⟨RX5, "take", "(LTrunkReserve$Net;LTrunkReserve$Draws;)V"⟩
abbrev cX5_give : ByteArray := prog_7_method_3_code
def yX5_give : MethodName := ⟨RX5, "give", "(LTrunkReserve$Net;LTrunkReserve$Draws;)V"⟩
def RX6 : String := "TrunkReserve$Net"
def TX6 : u_T := fun k => match k with
  | 0 => ("TrunkReserve$Net", "size", "I", false)
  | 1 => ("TrunkReserve$Net", "time", "I", false)
  | 2 => ("TrunkReserve$Net", "calls", "I", false)
  | _ => ("TrunkReserve$Net", "groups", "[LTrunkReserve$Group;", true)
def tyX6 : Nat → FieldType := fun k => match k with
  | 0 => .int
  | 1 => .int
  | 2 => .int
  | _ => .array (.object "TrunkReserve$Group")
abbrev wsX60 : List Cond := u_ws RX6 TX6 4
theorem nmX6 : ∀ a, a < 4 → ∀ b, b < 4 → a ≠ b → (TX6 a).2.1 ≠ (TX6 b).2.1 := by decide +kernel
theorem tyX6_ok : ∀ k, k < 4 → parseFieldDescriptor (TX6 k).2.2.1 = some (tyX6 k) := by decide +kernel
abbrev cX6_init : ByteArray := prog_8_method_1_code
def yX6_init : MethodName := ⟨RX6, "<init>", "()V"⟩
abbrev cX6_begin : ByteArray := prog_8_method_2_code
def yX6_begin : MethodName := ⟨RX6, "begin", "(I)V"⟩
abbrev cX6_copyFrom : ByteArray := prog_8_method_3_code
def yX6_copyFrom : MethodName := ⟨RX6, "copyFrom", "(LTrunkReserve$Net;)V"⟩
abbrev cX6_groupAt : ByteArray := prog_8_method_4_code
def yX6_groupAt : MethodName := ⟨RX6, "groupAt", "(I)LTrunkReserve$Group;"⟩
abbrev cX6_groupWithLine : ByteArray := prog_8_method_5_code
def yX6_groupWithLine : MethodName := ⟨RX6, "groupWithLine", "(II)LTrunkReserve$Group;"⟩
abbrev cX6_heldLines : ByteArray := prog_8_method_6_code
def yX6_heldLines : MethodName := ⟨RX6, "heldLines", "()I"⟩
abbrev cX6_lostCalls : ByteArray := prog_8_method_7_code
def yX6_lostCalls : MethodName := ⟨RX6, "lostCalls", "()I"⟩
abbrev cX6_nextPlace : ByteArray := prog_8_method_8_code
def yX6_nextPlace : MethodName := ⟨RX6, "nextPlace", "(I)I"⟩
abbrev cX6_placeCall : ByteArray := prog_8_method_9_code
def yX6_placeCall : MethodName := ⟨RX6, "placeCall", "(I)I"⟩
abbrev cX6_endCall : ByteArray := prog_8_method_10_code
def yX6_endCall : MethodName := ⟨RX6, "endCall", "(LTrunkReserve$Group;I)I"⟩
abbrev cX6_breakLine : ByteArray := prog_8_method_11_code
def yX6_breakLine : MethodName := ⟨RX6, "breakLine", "(LTrunkReserve$Group;I)I"⟩
abbrev cX6_mendLine : ByteArray := prog_8_method_12_code
def yX6_mendLine : MethodName := ⟨RX6, "mendLine", "(LTrunkReserve$Group;I)V"⟩
def RX7 : String := "TrunkReserve$Together"
def TX7 : u_T := fun k => match k with
  | 0 => ("TrunkReserve$Together", "loads", "[I", true)
  | 1 => ("TrunkReserve$Together", "newLoads", "[I", true)
  | 2 => ("TrunkReserve$Together", "losses", "[I", true)
  | _ => ("TrunkReserve$Together", "rounds", "I", false)
def tyX7 : Nat → FieldType := fun k => match k with
  | 0 => .array .int
  | 1 => .array .int
  | 2 => .array .int
  | _ => .int
abbrev wsX70 : List Cond := u_ws RX7 TX7 4
theorem nmX7 : ∀ a, a < 4 → ∀ b, b < 4 → a ≠ b → (TX7 a).2.1 ≠ (TX7 b).2.1 := by decide +kernel
theorem tyX7_ok : ∀ k, k < 4 → parseFieldDescriptor (TX7 k).2.2.1 = some (tyX7 k) := by decide +kernel
abbrev cX7_init : ByteArray := prog_9_method_1_code
def yX7_init : MethodName := ⟨RX7, "<init>", "()V"⟩
abbrev cX7_loadOver : ByteArray := prog_9_method_2_code
def yX7_loadOver : MethodName := ⟨RX7, "loadOver", "(I)I"⟩
abbrev cX7_lossOf : ByteArray := prog_9_method_3_code
def yX7_lossOf : MethodName := ⟨RX7, "lossOf", "(I)I"⟩
abbrev cX7_settle : ByteArray := prog_9_method_4_code
def yX7_settle : MethodName := ⟨RX7, "settle", "(LTrunkReserve$Net;LTrunkReserve$Weights;)V"⟩
abbrev cX7_loseEach : ByteArray := prog_9_method_5_code
def yX7_loseEach : MethodName := ⟨RX7, "loseEach", "(LTrunkReserve$Net;LTrunkReserve$Weights;)V"⟩
abbrev cX7_sendOver : ByteArray := prog_9_method_6_code
def yX7_sendOver : MethodName := ⟨RX7, "sendOver", "(LTrunkReserve$Net;)V"⟩
abbrev cX7_takeNewLoads : ByteArray := prog_9_method_7_code
def yX7_takeNewLoads : MethodName := ⟨RX7, "takeNewLoads", "()Z"⟩
def RX8 : String := "TrunkReserve$Weights"
def TX8 : u_T := fun k => match k with
  | 0 => ("TrunkReserve$Weights", "weight", "[J", true)
  | 1 => ("TrunkReserve$Weights", "lines", "I", false)
  | _ => ("TrunkReserve$Weights", "reserve", "I", false)
def tyX8 : Nat → FieldType := fun k => match k with
  | 0 => .array .long
  | 1 => .int
  | _ => .int
abbrev wsX80 : List Cond := u_ws RX8 TX8 3
theorem nmX8 : ∀ a, a < 3 → ∀ b, b < 3 → a ≠ b → (TX8 a).2.1 ≠ (TX8 b).2.1 := by decide +kernel
theorem tyX8_ok : ∀ k, k < 3 → parseFieldDescriptor (TX8 k).2.2.1 = some (tyX8 k) := by decide +kernel
abbrev cX8_init : ByteArray := prog_10_method_1_code
def yX8_init : MethodName := ⟨RX8, "<init>", "()V"⟩
abbrev cX8_weighExactly : ByteArray := prog_10_method_2_code
def yX8_weighExactly : MethodName := ⟨RX8, "weighExactly", "(IIII)V"⟩
abbrev cX8_weigh : ByteArray := prog_10_method_3_code
def yX8_weigh : MethodName := ⟨RX8, "weigh", "(JIIIII)V"⟩
abbrev cX8_takesOver : ByteArray := prog_10_method_4_code
def yX8_takesOver : MethodName := ⟨RX8, "takesOver", "(I)Z"⟩
abbrev cX8_all : ByteArray := prog_10_method_5_code
def yX8_all : MethodName := ⟨RX8, "all", "()J"⟩
abbrev cX8_ofAllHeld : ByteArray := prog_10_method_6_code
def yX8_ofAllHeld : MethodName := ⟨RX8, "ofAllHeld", "()J"⟩
abbrev cX8_ofRefusing : ByteArray := prog_10_method_7_code
def yX8_ofRefusing : MethodName := ⟨RX8, "ofRefusing", "()J"⟩
abbrev cX8_timesHeld : ByteArray := prog_10_method_8_code
def yX8_timesHeld : MethodName := ⟨RX8, "timesHeld", "()J"⟩
abbrev cX8_losesAtMost : ByteArray := prog_10_method_9_code
def yX8_losesAtMost : MethodName := ⟨RX8, "losesAtMost", "(I)Z"⟩
def RX9 : String := "TrunkReserve"
def TX9 : u_T := fun k => match k with
  | 0 => ("TrunkReserve", "net", "LTrunkReserve$Net;", true)
  | 1 => ("TrunkReserve", "history", "LTrunkReserve$History;", true)
  | 2 => ("TrunkReserve", "images", "[LTrunkReserve$Image;", true)
  | 3 => ("TrunkReserve", "book", "LTrunkReserve$Book;", true)
  | 4 => ("TrunkReserve", "draws", "LTrunkReserve$Draws;", true)
  | 5 => ("TrunkReserve", "weights", "LTrunkReserve$Weights;", true)
  | 6 => ("TrunkReserve", "fraction", "LTrunkReserve$Fraction;", true)
  | _ => ("TrunkReserve", "together", "LTrunkReserve$Together;", true)
def tyX9 : Nat → FieldType := fun k => match k with
  | 0 => .object "TrunkReserve$Net"
  | 1 => .object "TrunkReserve$History"
  | 2 => .array (.object "TrunkReserve$Image")
  | 3 => .object "TrunkReserve$Book"
  | 4 => .object "TrunkReserve$Draws"
  | 5 => .object "TrunkReserve$Weights"
  | 6 => .object "TrunkReserve$Fraction"
  | _ => .object "TrunkReserve$Together"
abbrev wsX90 : List Cond := u_ws RX9 TX9 8
theorem nmX9 : ∀ a, a < 8 → ∀ b, b < 8 → a ≠ b → (TX9 a).2.1 ≠ (TX9 b).2.1 := by decide +kernel
theorem tyX9_ok : ∀ k, k < 8 → parseFieldDescriptor (TX9 k).2.2.1 = some (tyX9 k) := by decide +kernel
abbrev cX9_init : ByteArray := prog_1_method_1_code
def yX9_init : MethodName := ⟨RX9, "<init>", "()V"⟩
abbrev cX9_told : ByteArray := prog_1_method_2_code
def yX9_told : MethodName := ⟨RX9, "told", "(I)I"⟩
abbrev cX9_group : ByteArray := prog_1_method_3_code
def yX9_group : MethodName := ⟨RX9, "group", "(II)I"⟩
abbrev cX9_line : ByteArray := prog_1_method_4_code
def yX9_line : MethodName := ⟨RX9, "line", "(III)I"⟩
abbrev cX9_build : ByteArray := prog_1_method_5_code
def yX9_build : MethodName := ⟨RX9, "build", "(I)I"⟩
abbrev cX9_shape : ByteArray := prog_1_method_6_code
def yX9_shape : MethodName := ⟨RX9, "shape", "(IIIIII)I"⟩
abbrev cX9_call : ByteArray := prog_1_method_7_code
def yX9_call : MethodName := ⟨RX9, "call", "(I)I"⟩
abbrev cX9_end : ByteArray := prog_1_method_8_code
def yX9_end : MethodName := ⟨RX9, "end", "(II)I"⟩
abbrev cX9_damage : ByteArray := prog_1_method_9_code
def yX9_damage : MethodName := ⟨RX9, "damage", "(II)I"⟩
abbrev cX9_mend : ByteArray := prog_1_method_10_code
def yX9_mend : MethodName := ⟨RX9, "mend", "(II)I"⟩
abbrev cX9_drift : ByteArray := prog_1_method_11_code
def yX9_drift : MethodName := ⟨RX9, "drift", "(I)I"⟩
abbrev cX9_undo : ByteArray := prog_1_method_12_code
def yX9_undo : MethodName := ⟨RX9, "undo", "(I)I"⟩
abbrev cX9_run : ByteArray := prog_1_method_13_code
def yX9_run : MethodName := ⟨RX9, "run", "(III)J"⟩
abbrev cX9_over : ByteArray := prog_1_method_14_code
def yX9_over : MethodName := ⟨RX9, "over", "(II)J"⟩
abbrev cX9_linesFor : ByteArray := prog_1_method_15_code
def yX9_linesFor : MethodName := ⟨RX9, "linesFor", "(III)I"⟩
abbrev cX9_bestReserve : ByteArray := prog_1_method_16_code
def yX9_bestReserve : MethodName := ⟨RX9, "bestReserve", "(III)I"⟩
abbrev cX9_write : ByteArray := prog_1_method_17_code
def yX9_write : MethodName := ⟨RX9, "write", "(III)I"⟩
abbrev cX9_tear : ByteArray := prog_1_method_18_code
def yX9_tear : MethodName := ⟨RX9, "tear", "()I"⟩
abbrev cX9_seed : ByteArray := prog_1_method_19_code
def yX9_seed : MethodName := ⟨RX9, "seed", "(I)I"⟩
abbrev cX9_keep : ByteArray := prog_1_method_20_code
def yX9_keep : MethodName := ⟨RX9, "keep", "(I)I"⟩
abbrev cX9_goBack : ByteArray := prog_1_method_21_code
def yX9_goBack : MethodName := ⟨RX9, "goBack", "(I)I"⟩
abbrev cX9_isWithin : ByteArray := prog_1_method_22_code
def yX9_isWithin : MethodName := ⟨RX9, "isWithin", "(III)Z"⟩
def RX10 : String := "TrunkReserveModel"
def TX10 : u_T := fun k => match k with
  | 0 => ("TrunkReserveModel", "now", "[I", true)
  | 1 => ("TrunkReserveModel", "past", "[I", true)
  | 2 => ("TrunkReserveModel", "deeds", "I", false)
  | 3 => ("TrunkReserveModel", "images", "[I", true)
  | 4 => ("TrunkReserveModel", "seeds", "[J", true)
  | 5 => ("TrunkReserveModel", "kept", "[Z", true)
  | 6 => ("TrunkReserveModel", "seed", "J", false)
  | 7 => ("TrunkReserveModel", "book", "[I", true)
  | 8 => ("TrunkReserveModel", "entries", "I", false)
  | 9 => ("TrunkReserveModel", "weights", "[J", true)
  | 10 => ("TrunkReserveModel", "whole", "J", false)
  | 11 => ("TrunkReserveModel", "coming", "[I", true)
  | 12 => ("TrunkReserveModel", "losing", "[I", true)
  | 13 => ("TrunkReserveModel", "next", "[I", true)
  | _ => ("TrunkReserveModel", "rounds", "I", false)
def tyX10 : Nat → FieldType := fun k => match k with
  | 0 => .array .int
  | 1 => .array .int
  | 2 => .int
  | 3 => .array .int
  | 4 => .array .long
  | 5 => .array .boolean
  | 6 => .long
  | 7 => .array .int
  | 8 => .int
  | 9 => .array .long
  | 10 => .long
  | 11 => .array .int
  | 12 => .array .int
  | 13 => .array .int
  | _ => .int
abbrev wsX100 : List Cond := u_ws RX10 TX10 15
theorem nmX10 : ∀ a, a < 15 → ∀ b, b < 15 → a ≠ b → (TX10 a).2.1 ≠ (TX10 b).2.1 := by decide +kernel
theorem tyX10_ok : ∀ k, k < 15 → parseFieldDescriptor (TX10 k).2.2.1 = some (tyX10 k) := by decide +kernel
abbrev cX10_init : ByteArray := prog_12_method_1_code
def yX10_init : MethodName := ⟨RX10, "<init>", "()V"⟩
abbrev cX10_in : ByteArray := prog_12_method_3_code
def yX10_in : MethodName := ⟨RX10, "in", "(III)Z"⟩
abbrev cX10_isGroup : ByteArray := prog_12_method_4_code
def yX10_isGroup : MethodName := ⟨RX10, "isGroup", "(I)Z"⟩
abbrev cX10_of : ByteArray := prog_12_method_5_code
def yX10_of : MethodName := ⟨RX10, "of", "(II)I"⟩
abbrev cX10_put : ByteArray := prog_12_method_6_code
def yX10_put : MethodName := ⟨RX10, "put", "(III)V"⟩
abbrev cX10_isLine : ByteArray := prog_12_method_7_code
def yX10_isLine : MethodName := ⟨RX10, "isLine", "(II)Z"⟩
abbrev cX10_ofL : ByteArray := prog_12_method_8_code
def yX10_ofL : MethodName := ⟨RX10, "ofL", "(III)I"⟩
abbrev cX10_putL : ByteArray := prog_12_method_9_code
def yX10_putL : MethodName := ⟨RX10, "putL", "(IIIIII)V"⟩
abbrev cX10_frees : ByteArray := prog_12_method_10_code
def yX10_frees : MethodName := ⟨RX10, "frees", "(I)V"⟩
abbrev cX10_builds : ByteArray := prog_12_method_11_code
def yX10_builds : MethodName := ⟨RX10, "builds", "(I)V"⟩
abbrev cX10_notes : ByteArray := prog_12_method_12_code
def yX10_notes : MethodName := ⟨RX10, "notes", "()V"⟩
abbrev cX10_setOf : ByteArray := prog_12_method_13_code
def yX10_setOf : MethodName := ⟨RX10, "setOf", "(II)I"⟩
abbrev cX10_ones : ByteArray := prog_12_method_14_code
def yX10_ones : MethodName := ⟨RX10, "ones", "(I)I"⟩
abbrev cX10_choice : ByteArray := prog_12_method_15_code
def yX10_choice : MethodName := ⟨RX10, "choice", "(I)I"⟩
abbrev cX10_goesTo : ByteArray := prog_12_method_16_code
def yX10_goesTo : MethodName := ⟨RX10, "goesTo", "(I)I"⟩
abbrev cX10_held : ByteArray := prog_12_method_17_code
def yX10_held : MethodName := ⟨RX10, "held", "()I"⟩
abbrev cX10_lost : ByteArray := prog_12_method_18_code
def yX10_lost : MethodName := ⟨RX10, "lost", "()I"⟩
abbrev cX10_wrong : ByteArray := prog_12_method_19_code
def yX10_wrong : MethodName := ⟨RX10, "wrong", "()I"⟩
abbrev cX10_loses : ByteArray := prog_12_method_20_code
def yX10_loses : MethodName := ⟨RX10, "loses", "()V"⟩
abbrev cX10_together : ByteArray := prog_12_method_21_code
def yX10_together : MethodName := ⟨RX10, "together", "()V"⟩
abbrev cX10_told : ByteArray := prog_12_method_22_code
def yX10_told : MethodName := ⟨RX10, "told", "(I)I"⟩
abbrev cX10_group : ByteArray := prog_12_method_23_code
def yX10_group : MethodName := ⟨RX10, "group", "(II)I"⟩
abbrev cX10_line : ByteArray := prog_12_method_24_code
def yX10_line : MethodName := ⟨RX10, "line", "(III)I"⟩
abbrev cX10_build : ByteArray := prog_12_method_25_code
def yX10_build : MethodName := ⟨RX10, "build", "(I)I"⟩
abbrev cX10_shape : ByteArray := prog_12_method_26_code
def yX10_shape : MethodName := ⟨RX10, "shape", "(IIIIII)I"⟩
abbrev cX10_comes : ByteArray := prog_12_method_27_code
def yX10_comes : MethodName := ⟨RX10, "comes", "(I)I"⟩
abbrev cX10_call : ByteArray := prog_12_method_28_code
def yX10_call : MethodName := ⟨RX10, "call", "(I)I"⟩
abbrev cX10_ends : ByteArray := prog_12_method_29_code
def yX10_ends : MethodName := ⟨RX10, "ends", "(II)I"⟩
abbrev cX10_end : ByteArray := prog_12_method_30_code
def yX10_end : MethodName := ⟨RX10, "end", "(II)I"⟩
abbrev cX10_damage : ByteArray := prog_12_method_31_code
def yX10_damage : MethodName := ⟨RX10, "damage", "(II)I"⟩
abbrev cX10_mend : ByteArray := prog_12_method_32_code
def yX10_mend : MethodName := ⟨RX10, "mend", "(II)I"⟩
abbrev cX10_drawOf : ByteArray := prog_12_method_33_code
def yX10_drawOf : MethodName := ⟨RX10, "drawOf", "(I)I"⟩
abbrev cX10_drift : ByteArray := prog_12_method_34_code
def yX10_drift : MethodName := ⟨RX10, "drift", "(I)I"⟩
abbrev cX10_undo : ByteArray := prog_12_method_35_code
def yX10_undo : MethodName := ⟨RX10, "undo", "(I)I"⟩
abbrev cX10_weighs : ByteArray := prog_12_method_36_code
def yX10_weighs : MethodName := ⟨RX10, "weighs", "(IIII)V"⟩
abbrev cX10_gcd : ByteArray := prog_12_method_37_code
def yX10_gcd : MethodName := ⟨RX10, "gcd", "(JJ)J"⟩
abbrev cX10_part : ByteArray := prog_12_method_38_code
def yX10_part : MethodName := ⟨RX10, "part", "(JJI)J"⟩
abbrev cX10_run : ByteArray := prog_12_method_39_code
def yX10_run : MethodName := ⟨RX10, "run", "(III)J"⟩
abbrev cX10_over : ByteArray := prog_12_method_40_code
def yX10_over : MethodName := ⟨RX10, "over", "(II)J"⟩
abbrev cX10_linesFor : ByteArray := prog_12_method_41_code
def yX10_linesFor : MethodName := ⟨RX10, "linesFor", "(III)I"⟩
abbrev cX10_bestReserve : ByteArray := prog_12_method_42_code
def yX10_bestReserve : MethodName := ⟨RX10, "bestReserve", "(III)I"⟩
abbrev cX10_write : ByteArray := prog_12_method_43_code
def yX10_write : MethodName := ⟨RX10, "write", "(III)I"⟩
abbrev cX10_tear : ByteArray := prog_12_method_44_code
def yX10_tear : MethodName := ⟨RX10, "tear", "()I"⟩
abbrev cX10_seed : ByteArray := prog_12_method_45_code
def yX10_seed : MethodName := ⟨RX10, "seed", "(I)I"⟩
abbrev cX10_keep : ByteArray := prog_12_method_46_code
def yX10_keep : MethodName := ⟨RX10, "keep", "(I)I"⟩
abbrev cX10_goBack : ByteArray := prog_12_method_47_code
def yX10_goBack : MethodName := ⟨RX10, "goBack", "(I)I"⟩
def RJ6 : String := "java/lang/Integer"
def TJ6 : u_T := fun k => match k with
  | _ => ("", "", "", false)
def tyJ6 : Nat → FieldType := fun k => match k with
  | _ => .int
abbrev wsJ60 : List Cond := u_ws RJ6 TJ6 0
theorem nmJ6 : ∀ a, a < 0 → ∀ b, b < 0 → a ≠ b → (TJ6 a).2.1 ≠ (TJ6 b).2.1 := by decide +kernel
theorem tyJ6_ok : ∀ k, k < 0 → parseFieldDescriptor (TJ6 k).2.2.1 = some (tyJ6 k) := by decide +kernel
abbrev cJ6_bitCount_0f7a4 : ByteArray := prog_13_method_49_code
def yJ6_bitCount_0f7a4 : MethodName := ⟨RJ6, "bitCount", "(I)I"⟩
def RJ9 : String := "java/lang/Math"
def TJ9 : u_T := fun k => match k with
  | _ => ("", "", "", false)
def tyJ9 : Nat → FieldType := fun k => match k with
  | _ => .int
abbrev wsJ90 : List Cond := u_ws RJ9 TJ9 0
theorem nmJ9 : ∀ a, a < 0 → ∀ b, b < 0 → a ≠ b → (TJ9 a).2.1 ≠ (TJ9 b).2.1 := by decide +kernel
theorem tyJ9_ok : ∀ k, k < 0 → parseFieldDescriptor (TJ9 k).2.2.1 = some (tyJ9 k) := by decide +kernel
abbrev cJ9_floorMod_7cf53 : ByteArray := prog_14_method_50_code
def yJ9_floorMod_7cf53 : MethodName := ⟨RJ9, "floorMod", "(II)I"⟩
abbrev cJ9_abs_067f4 : ByteArray := prog_14_method_61_code
def yJ9_abs_067f4 : MethodName := ⟨RJ9, "abs", "(J)J"⟩
abbrev cJ9_max_7cf53 : ByteArray := prog_14_method_65_code
def yJ9_max_7cf53 : MethodName := ⟨RJ9, "max", "(II)I"⟩
abbrev cJ9_max_f86c9 : ByteArray := prog_14_method_66_code
def yJ9_max_f86c9 : MethodName := ⟨RJ9, "max", "(JJ)J"⟩
abbrev cJ9_min_7cf53 : ByteArray := prog_14_method_69_code
def yJ9_min_7cf53 : MethodName := ⟨RJ9, "min", "(II)I"⟩
def RJ10 : String := "java/lang/System"
def TJ10 : u_T := fun k => match k with
  | _ => ("", "", "", false)
def tyJ10 : Nat → FieldType := fun k => match k with
  | _ => .int
abbrev wsJ100 : List Cond := u_ws RJ10 TJ10 0
theorem nmJ10 : ∀ a, a < 0 → ∀ b, b < 0 → a ≠ b → (TJ10 a).2.1 ≠ (TJ10 b).2.1 := by decide +kernel
theorem tyJ10_ok : ∀ k, k < 0 → parseFieldDescriptor (TJ10 k).2.2.1 = some (tyJ10 k) := by decide +kernel
def RJ7 : String := "java/util/Arrays"
def TJ7 : u_T := fun k => match k with
  | _ => ("", "", "", false)
def tyJ7 : Nat → FieldType := fun k => match k with
  | _ => .int
abbrev wsJ70 : List Cond := u_ws RJ7 TJ7 0
theorem nmJ7 : ∀ a, a < 0 → ∀ b, b < 0 → a ≠ b → (TJ7 a).2.1 ≠ (TJ7 b).2.1 := by decide +kernel
theorem tyJ7_ok : ∀ k, k < 0 → parseFieldDescriptor (TJ7 k).2.2.1 = some (tyJ7 k) := by decide +kernel
abbrev cJ7_fill_53178 : ByteArray := prog_16_method_103_code
def yJ7_fill_53178 : MethodName := ⟨RJ7, "fill", "([II)V"⟩
def RL : String := "TrunkReserveLaw"
abbrev cL_law : ByteArray := code
def yL_law : MethodName := ⟨RL, "law", "([I)Z"⟩
/-- the words that hold at every state of the run -/
def tG : List Cond := lw_tbl.filter goodWord
theorem tG_good {w : Cond} (h : w ∈ tG) : goodWord w = true := (List.mem_filter.mp h).2
theorem tG_in {w : Cond} (h : w ∈ tG) : w ∈ lw_tbl := (List.mem_filter.mp h).1
theorem tmx {w : Cond} (h : w ∈ lw_tbl) (g : goodWord w = true) : w ∈ tG := List.mem_filter.mpr ⟨h, g⟩
theorem tm0 {w : Cond} (h : w ∈ k2_sels (lw_privs_1 ++ lw_privs_2)) (g : goodWord w = true) : w ∈ tG := tmx (List.mem_append_left _ h) g
theorem tm1 {w : Cond} (h : w ∈ tables_1_1) (g : goodWord w = true) : w ∈ tG := tmx (List.mem_append_right _ (List.mem_append_left _ h)) g
theorem tm2 {w : Cond} (h : w ∈ tables_1_2) (g : goodWord w = true) : w ∈ tG := tmx (List.mem_append_right _ (List.mem_append_right _ (List.mem_append_left _ h))) g
theorem tm3 {w : Cond} (h : w ∈ tables_1_3) (g : goodWord w = true) : w ∈ tG := tmx (List.mem_append_right _ (List.mem_append_right _ (List.mem_append_right _ (List.mem_append_left _ h)))) g
theorem tm4 {w : Cond} (h : w ∈ tables_1_4) (g : goodWord w = true) : w ∈ tG := tmx (List.mem_append_right _ (List.mem_append_right _ (List.mem_append_right _ (List.mem_append_right _ h)))) g
abbrev clE : List vw_C := [(RX0, TX0, 4), (RX1, TX1, 1), (RX2, TX2, 2), (RX3, TX3, 14), (RX4, TX4, 3), (RX5, TX5, 3), (RX6, TX6, 4), (RX7, TX7, 4), (RX8, TX8, 3), (RX9, TX9, 8), (RX10, TX10, 15)]
theorem inE0 : ∀ w ∈ u_ws RX0 TX0 4, w ∈ tG := List.forall_mem_cons.mpr ⟨tm1 (List.mem_of_getElem? (i := 193) rfl) rfl, List.forall_mem_cons.mpr ⟨tm1 (List.mem_of_getElem? (i := 195) rfl) rfl, List.forall_mem_cons.mpr ⟨tm1 (List.mem_of_getElem? (i := 197) rfl) rfl, List.forall_mem_cons.mpr ⟨tm1 (List.mem_of_getElem? (i := 199) rfl) rfl, fun _ h => absurd h List.not_mem_nil⟩⟩⟩⟩
theorem inE1 : ∀ w ∈ u_ws RX1 TX1 1, w ∈ tG := List.forall_mem_cons.mpr ⟨tm1 (List.mem_of_getElem? (i := 211) rfl) rfl, fun _ h => absurd h List.not_mem_nil⟩
theorem inE2 : ∀ w ∈ u_ws RX2 TX2 2, w ∈ tG := List.forall_mem_cons.mpr ⟨tm1 (List.mem_of_getElem? (i := 239) rfl) rfl, List.forall_mem_cons.mpr ⟨tm2 (List.mem_of_getElem? (i := 1) rfl) rfl, fun _ h => absurd h List.not_mem_nil⟩⟩
theorem inE3 : ∀ w ∈ u_ws RX3 TX3 14, w ∈ tG := List.forall_mem_cons.mpr ⟨tm1 (List.mem_of_getElem? (i := 78) rfl) rfl, List.forall_mem_cons.mpr ⟨tm1 (List.mem_of_getElem? (i := 80) rfl) rfl, List.forall_mem_cons.mpr ⟨tm1 (List.mem_of_getElem? (i := 82) rfl) rfl, List.forall_mem_cons.mpr ⟨tm1 (List.mem_of_getElem? (i := 84) rfl) rfl, List.forall_mem_cons.mpr ⟨tm1 (List.mem_of_getElem? (i := 86) rfl) rfl, List.forall_mem_cons.mpr ⟨tm1 (List.mem_of_getElem? (i := 88) rfl) rfl, List.forall_mem_cons.mpr ⟨tm1 (List.mem_of_getElem? (i := 90) rfl) rfl, List.forall_mem_cons.mpr ⟨tm1 (List.mem_of_getElem? (i := 92) rfl) rfl, List.forall_mem_cons.mpr ⟨tm1 (List.mem_of_getElem? (i := 94) rfl) rfl, List.forall_mem_cons.mpr ⟨tm1 (List.mem_of_getElem? (i := 96) rfl) rfl, List.forall_mem_cons.mpr ⟨tm1 (List.mem_of_getElem? (i := 98) rfl) rfl, List.forall_mem_cons.mpr ⟨tm1 (List.mem_of_getElem? (i := 100) rfl) rfl, List.forall_mem_cons.mpr ⟨tm1 (List.mem_of_getElem? (i := 102) rfl) rfl, List.forall_mem_cons.mpr ⟨tm1 (List.mem_of_getElem? (i := 104) rfl) rfl, fun _ h => absurd h List.not_mem_nil⟩⟩⟩⟩⟩⟩⟩⟩⟩⟩⟩⟩⟩⟩
theorem inE4 : ∀ w ∈ u_ws RX4 TX4 3, w ∈ tG := List.forall_mem_cons.mpr ⟨tm1 (List.mem_of_getElem? (i := 155) rfl) rfl, List.forall_mem_cons.mpr ⟨tm1 (List.mem_of_getElem? (i := 157) rfl) rfl, List.forall_mem_cons.mpr ⟨tm1 (List.mem_of_getElem? (i := 159) rfl) rfl, fun _ h => absurd h List.not_mem_nil⟩⟩⟩
theorem inE5 : ∀ w ∈ u_ws RX5 TX5 3, w ∈ tG := List.forall_mem_cons.mpr ⟨tm1 (List.mem_of_getElem? (i := 175) rfl) rfl, List.forall_mem_cons.mpr ⟨tm1 (List.mem_of_getElem? (i := 177) rfl) rfl, List.forall_mem_cons.mpr ⟨tm1 (List.mem_of_getElem? (i := 179) rfl) rfl, fun _ h => absurd h List.not_mem_nil⟩⟩⟩
theorem inE6 : ∀ w ∈ u_ws RX6 TX6 4, w ∈ tG := List.forall_mem_cons.mpr ⟨tm1 (List.mem_of_getElem? (i := 133) rfl) rfl, List.forall_mem_cons.mpr ⟨tm1 (List.mem_of_getElem? (i := 135) rfl) rfl, List.forall_mem_cons.mpr ⟨tm1 (List.mem_of_getElem? (i := 137) rfl) rfl, List.forall_mem_cons.mpr ⟨tm1 (List.mem_of_getElem? (i := 139) rfl) rfl, fun _ h => absurd h List.not_mem_nil⟩⟩⟩⟩
theorem inE7 : ∀ w ∈ u_ws RX7 TX7 4, w ∈ tG := List.forall_mem_cons.mpr ⟨tm2 (List.mem_of_getElem? (i := 15) rfl) rfl, List.forall_mem_cons.mpr ⟨tm2 (List.mem_of_getElem? (i := 17) rfl) rfl, List.forall_mem_cons.mpr ⟨tm2 (List.mem_of_getElem? (i := 19) rfl) rfl, List.forall_mem_cons.mpr ⟨tm2 (List.mem_of_getElem? (i := 21) rfl) rfl, fun _ h => absurd h List.not_mem_nil⟩⟩⟩⟩
theorem inE8 : ∀ w ∈ u_ws RX8 TX8 3, w ∈ tG := List.forall_mem_cons.mpr ⟨tm1 (List.mem_of_getElem? (i := 223) rfl) rfl, List.forall_mem_cons.mpr ⟨tm1 (List.mem_of_getElem? (i := 225) rfl) rfl, List.forall_mem_cons.mpr ⟨tm1 (List.mem_of_getElem? (i := 227) rfl) rfl, fun _ h => absurd h List.not_mem_nil⟩⟩⟩
theorem inE9 : ∀ w ∈ u_ws RX9 TX9 8, w ∈ tG := List.forall_mem_cons.mpr ⟨tm2 (List.mem_of_getElem? (i := 32) rfl) rfl, List.forall_mem_cons.mpr ⟨tm2 (List.mem_of_getElem? (i := 34) rfl) rfl, List.forall_mem_cons.mpr ⟨tm2 (List.mem_of_getElem? (i := 36) rfl) rfl, List.forall_mem_cons.mpr ⟨tm2 (List.mem_of_getElem? (i := 38) rfl) rfl, List.forall_mem_cons.mpr ⟨tm2 (List.mem_of_getElem? (i := 40) rfl) rfl, List.forall_mem_cons.mpr ⟨tm2 (List.mem_of_getElem? (i := 42) rfl) rfl, List.forall_mem_cons.mpr ⟨tm2 (List.mem_of_getElem? (i := 44) rfl) rfl, List.forall_mem_cons.mpr ⟨tm2 (List.mem_of_getElem? (i := 46) rfl) rfl, fun _ h => absurd h List.not_mem_nil⟩⟩⟩⟩⟩⟩⟩⟩
theorem inE10 : ∀ w ∈ u_ws RX10 TX10 15, w ∈ tG := List.forall_mem_cons.mpr ⟨tm3 (List.mem_of_getElem? (i := 182) rfl) rfl, List.forall_mem_cons.mpr ⟨tm3 (List.mem_of_getElem? (i := 184) rfl) rfl, List.forall_mem_cons.mpr ⟨tm3 (List.mem_of_getElem? (i := 186) rfl) rfl, List.forall_mem_cons.mpr ⟨tm3 (List.mem_of_getElem? (i := 188) rfl) rfl, List.forall_mem_cons.mpr ⟨tm3 (List.mem_of_getElem? (i := 190) rfl) rfl, List.forall_mem_cons.mpr ⟨tm3 (List.mem_of_getElem? (i := 192) rfl) rfl, List.forall_mem_cons.mpr ⟨tm3 (List.mem_of_getElem? (i := 194) rfl) rfl, List.forall_mem_cons.mpr ⟨tm3 (List.mem_of_getElem? (i := 196) rfl) rfl, List.forall_mem_cons.mpr ⟨tm3 (List.mem_of_getElem? (i := 198) rfl) rfl, List.forall_mem_cons.mpr ⟨tm3 (List.mem_of_getElem? (i := 200) rfl) rfl, List.forall_mem_cons.mpr ⟨tm3 (List.mem_of_getElem? (i := 202) rfl) rfl, List.forall_mem_cons.mpr ⟨tm3 (List.mem_of_getElem? (i := 204) rfl) rfl, List.forall_mem_cons.mpr ⟨tm3 (List.mem_of_getElem? (i := 206) rfl) rfl, List.forall_mem_cons.mpr ⟨tm3 (List.mem_of_getElem? (i := 208) rfl) rfl, List.forall_mem_cons.mpr ⟨tm3 (List.mem_of_getElem? (i := 210) rfl) rfl, fun _ h => absurd h List.not_mem_nil⟩⟩⟩⟩⟩⟩⟩⟩⟩⟩⟩⟩⟩⟩⟩
