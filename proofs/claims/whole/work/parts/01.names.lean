-- ===== PART A: goes FIRST, ahead of the names: the tables' words, and 'selects' of the private methods out of them =====
/-- a private method of a class that the tables say can be made, by its rows of tables_1 -/
def lw_okq (q : MethodName × Nat) : Prop := (q.1.cls ≠ "java/lang/invoke/MethodHandle" ∧ q.1.cls ≠ "java/lang/invoke/VarHandle") ∧ Cond.instantiable q.1.cls q.2 ∈ tables_1 ∧ Cond.privateMethod q.1 ∈ tables_1 ∧ Cond.instanceMethod q.1 ∈ tables_1
theorem lw_p0 : lw_okq (⟨"SieveDesk", "isThing", "(I)Z"⟩, 13) := ⟨⟨by decide +kernel, by decide +kernel⟩, List.mem_of_getElem? (i := 9) (by decide +kernel), List.mem_of_getElem? (i := 150) (by decide +kernel), List.mem_of_getElem? (i := 151) (by decide +kernel)⟩
theorem lw_p1 : lw_okq (⟨"SieveDesk", "canMakeScale", "(III)Z"⟩, 13) := ⟨⟨by decide +kernel, by decide +kernel⟩, List.mem_of_getElem? (i := 9) (by decide +kernel), List.mem_of_getElem? (i := 181) (by decide +kernel), List.mem_of_getElem? (i := 182) (by decide +kernel)⟩
theorem lw_p2 : lw_okq (⟨"SieveDesk", "makeNow", "(II)I"⟩, 13) := ⟨⟨by decide +kernel, by decide +kernel⟩, List.mem_of_getElem? (i := 9) (by decide +kernel), List.mem_of_getElem? (i := 193) (by decide +kernel), List.mem_of_getElem? (i := 194) (by decide +kernel)⟩
theorem lw_p3 : lw_okq (⟨"SieveDesk", "askScale", "(II)J"⟩, 13) := ⟨⟨by decide +kernel, by decide +kernel⟩, List.mem_of_getElem? (i := 9) (by decide +kernel), List.mem_of_getElem? (i := 201) (by decide +kernel), List.mem_of_getElem? (i := 202) (by decide +kernel)⟩
theorem lw_p4 : lw_okq (⟨"SieveDesk", "quotient", "(JJ)J"⟩, 13) := ⟨⟨by decide +kernel, by decide +kernel⟩, List.mem_of_getElem? (i := 9) (by decide +kernel), List.mem_of_getElem? (i := 217) (by decide +kernel), List.mem_of_getElem? (i := 218) (by decide +kernel)⟩
theorem lw_p5 : lw_okq (⟨"SieveDesk", "askSieve", "(II)Z"⟩, 13) := ⟨⟨by decide +kernel, by decide +kernel⟩, List.mem_of_getElem? (i := 9) (by decide +kernel), List.mem_of_getElem? (i := 225) (by decide +kernel), List.mem_of_getElem? (i := 226) (by decide +kernel)⟩
theorem lw_p6 : lw_okq (⟨"SieveDesk", "askSafely", "(II)Z"⟩, 13) := ⟨⟨by decide +kernel, by decide +kernel⟩, List.mem_of_getElem? (i := 9) (by decide +kernel), List.mem_of_getElem? (i := 236) (by decide +kernel), List.mem_of_getElem? (i := 237) (by decide +kernel)⟩
theorem lw_p7 : lw_okq (⟨"SieveDesk", "itemAt", "(J)J"⟩, 13) := ⟨⟨by decide +kernel, by decide +kernel⟩, List.mem_of_getElem? (i := 9) (by decide +kernel), List.mem_of_getElem? (i := 244) (by decide +kernel), List.mem_of_getElem? (i := 245) (by decide +kernel)⟩
theorem lw_p8 : lw_okq (⟨"SieveDesk", "canMakeSieve", "(III)Z"⟩, 13) := ⟨⟨by decide +kernel, by decide +kernel⟩, List.mem_of_getElem? (i := 9) (by decide +kernel), List.mem_of_getElem? (i := 261) (by decide +kernel), List.mem_of_getElem? (i := 262) (by decide +kernel)⟩
theorem lw_p9 : lw_okq (⟨"SieveDesk", "canMakeOrder", "(III)Z"⟩, 13) := ⟨⟨by decide +kernel, by decide +kernel⟩, List.mem_of_getElem? (i := 9) (by decide +kernel), List.mem_of_getElem? (i := 269) (by decide +kernel), List.mem_of_getElem? (i := 270) (by decide +kernel)⟩
theorem lw_p10 : lw_okq (⟨"SieveDesk", "takeDraft", "(I)V"⟩, 13) := ⟨⟨by decide +kernel, by decide +kernel⟩, List.mem_of_getElem? (i := 9) (by decide +kernel), List.mem_of_getElem? (i := 281) (by decide +kernel), List.mem_of_getElem? (i := 282) (by decide +kernel)⟩
theorem lw_p11 : lw_okq (⟨"SieveDesk", "moveForward", "(II)I"⟩, 13) := ⟨⟨by decide +kernel, by decide +kernel⟩, List.mem_of_getElem? (i := 9) (by decide +kernel), List.mem_of_getElem? (i := 292) (by decide +kernel), List.mem_of_getElem? (i := 293) (by decide +kernel)⟩
theorem lw_p12 : lw_okq (⟨"SieveDesk", "askOrder", "(III)I"⟩, 13) := ⟨⟨by decide +kernel, by decide +kernel⟩, List.mem_of_getElem? (i := 9) (by decide +kernel), List.mem_of_getElem? (i := 296) (by decide +kernel), List.mem_of_getElem? (i := 297) (by decide +kernel)⟩
theorem lw_p13 : lw_okq (⟨"SieveDesk", "askThen", "(IIII)I"⟩, 13) := ⟨⟨by decide +kernel, by decide +kernel⟩, List.mem_of_getElem? (i := 9) (by decide +kernel), List.mem_of_getElem? (i := 303) (by decide +kernel), List.mem_of_getElem? (i := 304) (by decide +kernel)⟩
theorem lw_p14 : lw_okq (⟨"SieveDesk", "rankBySieve", "(II)I"⟩, 13) := ⟨⟨by decide +kernel, by decide +kernel⟩, List.mem_of_getElem? (i := 9) (by decide +kernel), List.mem_of_getElem? (i := 307) (by decide +kernel), List.mem_of_getElem? (i := 308) (by decide +kernel)⟩
theorem lw_p15 : lw_okq (⟨"SieveDesk$Grouping", "placeOf", "(J)I"⟩, 5) := ⟨⟨by decide +kernel, by decide +kernel⟩, List.mem_of_getElem? (i := 46) (by decide +kernel), List.mem_of_getElem? (i := 327) (by decide +kernel), List.mem_of_getElem? (i := 328) (by decide +kernel)⟩
def lw_privs_1 : List (MethodName × Nat) := [(⟨"SieveDesk", "isThing", "(I)Z"⟩, 13), (⟨"SieveDesk", "canMakeScale", "(III)Z"⟩, 13), (⟨"SieveDesk", "makeNow", "(II)I"⟩, 13), (⟨"SieveDesk", "askScale", "(II)J"⟩, 13), (⟨"SieveDesk", "quotient", "(JJ)J"⟩, 13), (⟨"SieveDesk", "askSieve", "(II)Z"⟩, 13), (⟨"SieveDesk", "askSafely", "(II)Z"⟩, 13), (⟨"SieveDesk", "itemAt", "(J)J"⟩, 13), (⟨"SieveDesk", "canMakeSieve", "(III)Z"⟩, 13), (⟨"SieveDesk", "canMakeOrder", "(III)Z"⟩, 13), (⟨"SieveDesk", "takeDraft", "(I)V"⟩, 13), (⟨"SieveDesk", "moveForward", "(II)I"⟩, 13), (⟨"SieveDesk", "askOrder", "(III)I"⟩, 13), (⟨"SieveDesk", "askThen", "(IIII)I"⟩, 13), (⟨"SieveDesk", "rankBySieve", "(II)I"⟩, 13), (⟨"SieveDesk$Grouping", "placeOf", "(J)I"⟩, 5)]
theorem lw_r1 : ∀ q ∈ lw_privs_1, lw_okq q := List.forall_mem_cons.mpr ⟨lw_p0, List.forall_mem_cons.mpr ⟨lw_p1, List.forall_mem_cons.mpr ⟨lw_p2, List.forall_mem_cons.mpr ⟨lw_p3, List.forall_mem_cons.mpr ⟨lw_p4, List.forall_mem_cons.mpr ⟨lw_p5, List.forall_mem_cons.mpr ⟨lw_p6, List.forall_mem_cons.mpr ⟨lw_p7, List.forall_mem_cons.mpr ⟨lw_p8, List.forall_mem_cons.mpr ⟨lw_p9, List.forall_mem_cons.mpr ⟨lw_p10, List.forall_mem_cons.mpr ⟨lw_p11, List.forall_mem_cons.mpr ⟨lw_p12, List.forall_mem_cons.mpr ⟨lw_p13, List.forall_mem_cons.mpr ⟨lw_p14, List.forall_mem_cons.mpr ⟨lw_p15, fun _ h => absurd h List.not_mem_nil⟩⟩⟩⟩⟩⟩⟩⟩⟩⟩⟩⟩⟩⟩⟩⟩
theorem lw_p16 : lw_okq (⟨"SieveDeskModel", "isThing", "(I)Z"⟩, 36) := ⟨⟨by decide +kernel, by decide +kernel⟩, List.mem_of_getElem? (i := 347) (by decide +kernel), List.mem_of_getElem? (i := 470) (by decide +kernel), List.mem_of_getElem? (i := 471) (by decide +kernel)⟩
theorem lw_p17 : lw_okq (⟨"SieveDeskModel", "is", "(II)Z"⟩, 36) := ⟨⟨by decide +kernel, by decide +kernel⟩, List.mem_of_getElem? (i := 347) (by decide +kernel), List.mem_of_getElem? (i := 489) (by decide +kernel), List.mem_of_getElem? (i := 490) (by decide +kernel)⟩
theorem lw_p18 : lw_okq (⟨"SieveDeskModel", "made", "(IIIIJ)I"⟩, 36) := ⟨⟨by decide +kernel, by decide +kernel⟩, List.mem_of_getElem? (i := 347) (by decide +kernel), List.mem_of_getElem? (i := 493) (by decide +kernel), List.mem_of_getElem? (i := 494) (by decide +kernel)⟩
theorem lw_p19 : lw_okq (⟨"SieveDeskModel", "startsCall", "()V"⟩, 36) := ⟨⟨by decide +kernel, by decide +kernel⟩, List.mem_of_getElem? (i := 347) (by decide +kernel), List.mem_of_getElem? (i := 497) (by decide +kernel), List.mem_of_getElem? (i := 498) (by decide +kernel)⟩
theorem lw_p20 : lw_okq (⟨"SieveDeskModel", "ask", "(IIII)Z"⟩, 36) := ⟨⟨by decide +kernel, by decide +kernel⟩, List.mem_of_getElem? (i := 347) (by decide +kernel), List.mem_of_getElem? (i := 501) (by decide +kernel), List.mem_of_getElem? (i := 502) (by decide +kernel)⟩
theorem lw_p21 : lw_okq (⟨"SieveDeskModel", "begins", "(IIII)V"⟩, 36) := ⟨⟨by decide +kernel, by decide +kernel⟩, List.mem_of_getElem? (i := 347) (by decide +kernel), List.mem_of_getElem? (i := 505) (by decide +kernel), List.mem_of_getElem? (i := 506) (by decide +kernel)⟩
theorem lw_p22 : lw_okq (⟨"SieveDeskModel", "goesScale", "(IIIJ)V"⟩, 36) := ⟨⟨by decide +kernel, by decide +kernel⟩, List.mem_of_getElem? (i := 347) (by decide +kernel), List.mem_of_getElem? (i := 509) (by decide +kernel), List.mem_of_getElem? (i := 510) (by decide +kernel)⟩
theorem lw_p23 : lw_okq (⟨"SieveDeskModel", "tells", "(J)V"⟩, 36) := ⟨⟨by decide +kernel, by decide +kernel⟩, List.mem_of_getElem? (i := 347) (by decide +kernel), List.mem_of_getElem? (i := 513) (by decide +kernel), List.mem_of_getElem? (i := 514) (by decide +kernel)⟩
theorem lw_p24 : lw_okq (⟨"SieveDeskModel", "both", "(IJJ)V"⟩, 36) := ⟨⟨by decide +kernel, by decide +kernel⟩, List.mem_of_getElem? (i := 347) (by decide +kernel), List.mem_of_getElem? (i := 518) (by decide +kernel), List.mem_of_getElem? (i := 519) (by decide +kernel)⟩
theorem lw_p25 : lw_okq (⟨"SieveDeskModel", "goesSieve", "(IIIJ)V"⟩, 36) := ⟨⟨by decide +kernel, by decide +kernel⟩, List.mem_of_getElem? (i := 347) (by decide +kernel), List.mem_of_getElem? (i := 522) (by decide +kernel), List.mem_of_getElem? (i := 523) (by decide +kernel)⟩
theorem lw_p26 : lw_okq (⟨"SieveDeskModel", "goesOrder", "(IIJ)V"⟩, 36) := ⟨⟨by decide +kernel, by decide +kernel⟩, List.mem_of_getElem? (i := 347) (by decide +kernel), List.mem_of_getElem? (i := 526) (by decide +kernel), List.mem_of_getElem? (i := 527) (by decide +kernel)⟩
theorem lw_p27 : lw_okq (⟨"SieveDeskModel", "recovers", "()V"⟩, 36) := ⟨⟨by decide +kernel, by decide +kernel⟩, List.mem_of_getElem? (i := 347) (by decide +kernel), List.mem_of_getElem? (i := 531) (by decide +kernel), List.mem_of_getElem? (i := 532) (by decide +kernel)⟩
theorem lw_p28 : lw_okq (⟨"SieveDeskModel", "ends", "(I)I"⟩, 36) := ⟨⟨by decide +kernel, by decide +kernel⟩, List.mem_of_getElem? (i := 347) (by decide +kernel), List.mem_of_getElem? (i := 535) (by decide +kernel), List.mem_of_getElem? (i := 536) (by decide +kernel)⟩
def lw_privs_2 : List (MethodName × Nat) := [(⟨"SieveDeskModel", "isThing", "(I)Z"⟩, 36), (⟨"SieveDeskModel", "is", "(II)Z"⟩, 36), (⟨"SieveDeskModel", "made", "(IIIIJ)I"⟩, 36), (⟨"SieveDeskModel", "startsCall", "()V"⟩, 36), (⟨"SieveDeskModel", "ask", "(IIII)Z"⟩, 36), (⟨"SieveDeskModel", "begins", "(IIII)V"⟩, 36), (⟨"SieveDeskModel", "goesScale", "(IIIJ)V"⟩, 36), (⟨"SieveDeskModel", "tells", "(J)V"⟩, 36), (⟨"SieveDeskModel", "both", "(IJJ)V"⟩, 36), (⟨"SieveDeskModel", "goesSieve", "(IIIJ)V"⟩, 36), (⟨"SieveDeskModel", "goesOrder", "(IIJ)V"⟩, 36), (⟨"SieveDeskModel", "recovers", "()V"⟩, 36), (⟨"SieveDeskModel", "ends", "(I)I"⟩, 36)]
theorem lw_r2 : ∀ q ∈ lw_privs_2, lw_okq q := List.forall_mem_cons.mpr ⟨lw_p16, List.forall_mem_cons.mpr ⟨lw_p17, List.forall_mem_cons.mpr ⟨lw_p18, List.forall_mem_cons.mpr ⟨lw_p19, List.forall_mem_cons.mpr ⟨lw_p20, List.forall_mem_cons.mpr ⟨lw_p21, List.forall_mem_cons.mpr ⟨lw_p22, List.forall_mem_cons.mpr ⟨lw_p23, List.forall_mem_cons.mpr ⟨lw_p24, List.forall_mem_cons.mpr ⟨lw_p25, List.forall_mem_cons.mpr ⟨lw_p26, List.forall_mem_cons.mpr ⟨lw_p27, List.forall_mem_cons.mpr ⟨lw_p28, fun _ h => absurd h List.not_mem_nil⟩⟩⟩⟩⟩⟩⟩⟩⟩⟩⟩⟩⟩
def lw_privs : List (MethodName × Nat) := lw_privs_1 ++ (lw_privs_2)
def lw_tbl : List Cond := k2_sels lw_privs ++ tables_1
theorem lw_privs_ok : ∀ q ∈ lw_privs, lw_okq q := by
  show ∀ q ∈ lw_privs_1 ++ (lw_privs_2), lw_okq q
  exact List.forall_mem_append.mpr ⟨lw_r1, lw_r2⟩
def RX0 : String := "SieveDesk$Grouping"
def TX0 : u_T := fun k => match k with
  | 0 => ("SieveDesk$Grouping", "key", "[J", true)
  | 1 => ("SieveDesk$Grouping", "members", "[I", true)
  | 2 => ("SieveDesk$Grouping", "total", "[J", true)
  | 3 => ("SieveDesk$Grouping", "first", "[I", true)
  | _ => ("SieveDesk$Grouping", "size", "I", false)
def tyX0 : Nat → FieldType := fun k => match k with
  | 0 => .array .long
  | 1 => .array .int
  | 2 => .array .long
  | 3 => .array .int
  | _ => .int
theorem nmX0 : ∀ a, a < 5 → ∀ b, b < 5 → a ≠ b → (TX0 a).2.1 ≠ (TX0 b).2.1 := by decide +kernel
theorem tyX0_ok : ∀ k, k < 5 → parseFieldDescriptor (TX0 k).2.2.1 = some (tyX0 k) := by decide +kernel
abbrev cX0_init : ByteArray := prog_2_method_1_code
def yX0_init : MethodName := ⟨RX0, "<init>", "()V"⟩
abbrev cX0_clear : ByteArray := prog_2_method_2_code
def yX0_clear : MethodName := ⟨RX0, "clear", "()V"⟩
abbrev cX0_add : ByteArray := prog_2_method_3_code
def yX0_add : MethodName := ⟨RX0, "add", "(JJI)V"⟩
abbrev cX0_tellOf : ByteArray := prog_2_method_4_code
def yX0_tellOf : MethodName := ⟨RX0, "tellOf", "(II)J"⟩
abbrev cX0_placeOf : ByteArray := prog_2_method_5_code
def yX0_placeOf : MethodName := ⟨RX0, "placeOf", "(J)I"⟩
def RX1 : String := "SieveDesk$Shelf"
def TX1 : u_T := fun k => match k with
  | 0 => ("SieveDesk$Shelf", "kind", "[I", true)
  | 1 => ("SieveDesk$Shelf", "a", "[I", true)
  | 2 => ("SieveDesk$Shelf", "b", "[I", true)
  | 3 => ("SieveDesk$Shelf", "kept", "[J", true)
  | _ => ("SieveDesk$Shelf", "size", "I", false)
def tyX1 : Nat → FieldType := fun k => match k with
  | 0 => .array .int
  | 1 => .array .int
  | 2 => .array .int
  | 3 => .array .long
  | _ => .int
theorem nmX1 : ∀ a, a < 5 → ∀ b, b < 5 → a ≠ b → (TX1 a).2.1 ≠ (TX1 b).2.1 := by decide +kernel
theorem tyX1_ok : ∀ k, k < 5 → parseFieldDescriptor (TX1 k).2.2.1 = some (tyX1 k) := by decide +kernel
abbrev cX1_init : ByteArray := prog_3_method_1_code
def yX1_init : MethodName := ⟨RX1, "<init>", "()V"⟩
abbrev cX1_has : ByteArray := prog_3_method_2_code
def yX1_has : MethodName := ⟨RX1, "has", "(I)Z"⟩
abbrev cX1_isFull : ByteArray := prog_3_method_3_code
def yX1_isFull : MethodName := ⟨RX1, "isFull", "()Z"⟩
abbrev cX1_make : ByteArray := prog_3_method_4_code
def yX1_make : MethodName := ⟨RX1, "make", "(IIIJ)I"⟩
abbrev cX1_countAsked : ByteArray := prog_3_method_5_code
def yX1_countAsked : MethodName := ⟨RX1, "countAsked", "(I)J"⟩
def RX2 : String := "SieveDesk$Tally"
def TX2 : u_T := fun k => match k with
  | 0 => ("SieveDesk$Tally", "begun", "I", false)
  | 1 => ("SieveDesk$Tally", "begunEver", "I", false)
  | 2 => ("SieveDesk$Tally", "met", "I", false)
  | 3 => ("SieveDesk$Tally", "failedCalls", "I", false)
  | 4 => ("SieveDesk$Tally", "latestFailure", "I", false)
  | _ => ("SieveDesk$Tally", "standing", "I", false)
def tyX2 : Nat → FieldType := fun k => match k with
  | 0 => .int
  | 1 => .int
  | 2 => .int
  | 3 => .int
  | 4 => .int
  | _ => .int
theorem nmX2 : ∀ a, a < 6 → ∀ b, b < 6 → a ≠ b → (TX2 a).2.1 ≠ (TX2 b).2.1 := by decide +kernel
theorem tyX2_ok : ∀ k, k < 6 → parseFieldDescriptor (TX2 k).2.2.1 = some (tyX2 k) := by decide +kernel
abbrev cX2_init : ByteArray := prog_4_method_1_code
def yX2_init : MethodName := ⟨RX2, "<init>", "()V"⟩
abbrev cX2_opensCall : ByteArray := prog_4_method_2_code
def yX2_opensCall : MethodName := ⟨RX2, "opensCall", "()Z"⟩
abbrev cX2_beginsAsking : ByteArray := prog_4_method_3_code
def yX2_beginsAsking : MethodName := ⟨RX2, "beginsAsking", "()Z"⟩
abbrev cX2_hasFailure : ByteArray := prog_4_method_4_code
def yX2_hasFailure : MethodName := ⟨RX2, "hasFailure", "()Z"⟩
abbrev cX2_fail : ByteArray := prog_4_method_5_code
def yX2_fail : MethodName := ⟨RX2, "fail", "(I)V"⟩
abbrev cX2_meetsFailure : ByteArray := prog_4_method_6_code
def yX2_meetsFailure : MethodName := ⟨RX2, "meetsFailure", "()Z"⟩
abbrev cX2_endFailedCall : ByteArray := prog_4_method_7_code
def yX2_endFailedCall : MethodName := ⟨RX2, "endFailedCall", "()I"⟩
def RX3 : String := "SieveDesk"
def TX3 : u_T := fun k => match k with
  | 0 => ("SieveDesk", "cells", "[J", true)
  | 1 => ("SieveDesk", "thingCount", "I", false)
  | 2 => ("SieveDesk", "row", "[J", true)
  | 3 => ("SieveDesk", "listed", "[I", true)
  | 4 => ("SieveDesk", "draft", "[I", true)
  | 5 => ("SieveDesk", "listLength", "I", false)
  | 6 => ("SieveDesk", "scales", "LSieveDesk$Shelf;", true)
  | 7 => ("SieveDesk", "sieves", "LSieveDesk$Shelf;", true)
  | 8 => ("SieveDesk", "orders", "LSieveDesk$Shelf;", true)
  | 9 => ("SieveDesk", "grouping", "LSieveDesk$Grouping;", false)
  | 10 => ("SieveDesk", "draftGrouping", "LSieveDesk$Grouping;", false)
  | 11 => ("SieveDesk", "tally", "LSieveDesk$Tally;", true)
  | _ => ("SieveDesk", "latestTold", "J", false)
def tyX3 : Nat → FieldType := fun k => match k with
  | 0 => .array .long
  | 1 => .int
  | 2 => .array .long
  | 3 => .array .int
  | 4 => .array .int
  | 5 => .int
  | 6 => .object "SieveDesk$Shelf"
  | 7 => .object "SieveDesk$Shelf"
  | 8 => .object "SieveDesk$Shelf"
  | 9 => .object "SieveDesk$Grouping"
  | 10 => .object "SieveDesk$Grouping"
  | 11 => .object "SieveDesk$Tally"
  | _ => .long
theorem nmX3 : ∀ a, a < 13 → ∀ b, b < 13 → a ≠ b → (TX3 a).2.1 ≠ (TX3 b).2.1 := by decide +kernel
theorem tyX3_ok : ∀ k, k < 13 → parseFieldDescriptor (TX3 k).2.2.1 = some (tyX3 k) := by decide +kernel
abbrev cX3_init : ByteArray := prog_1_method_1_code
def yX3_init : MethodName := ⟨RX3, "<init>", "()V"⟩
abbrev cX3_thing : ByteArray := prog_1_method_2_code
def yX3_thing : MethodName := ⟨RX3, "thing", "(JJJ)I"⟩
abbrev cX3_change : ByteArray := prog_1_method_3_code
def yX3_change : MethodName := ⟨RX3, "change", "(IIJ)I"⟩
abbrev cX3_get : ByteArray := prog_1_method_4_code
def yX3_get : MethodName := ⟨RX3, "get", "(II)J"⟩
abbrev cX3_item : ByteArray := prog_1_method_5_code
def yX3_item : MethodName := ⟨RX3, "item", "(IJ)I"⟩
abbrev cX3_all : ByteArray := prog_1_method_6_code
def yX3_all : MethodName := ⟨RX3, "all", "()I"⟩
abbrev cX3_list : ByteArray := prog_1_method_7_code
def yX3_list : MethodName := ⟨RX3, "list", "(I)I"⟩
abbrev cX3_scale : ByteArray := prog_1_method_8_code
def yX3_scale : MethodName := ⟨RX3, "scale", "(III)I"⟩
abbrev cX3_sieve : ByteArray := prog_1_method_9_code
def yX3_sieve : MethodName := ⟨RX3, "sieve", "(III)I"⟩
abbrev cX3_order : ByteArray := prog_1_method_10_code
def yX3_order : MethodName := ⟨RX3, "order", "(III)I"⟩
abbrev cX3_tell : ByteArray := prog_1_method_11_code
def yX3_tell : MethodName := ⟨RX3, "tell", "(II)I"⟩
abbrev cX3_sift : ByteArray := prog_1_method_12_code
def yX3_sift : MethodName := ⟨RX3, "sift", "(I)I"⟩
abbrev cX3_sort : ByteArray := prog_1_method_13_code
def yX3_sort : MethodName := ⟨RX3, "sort", "(I)I"⟩
abbrev cX3_sum : ByteArray := prog_1_method_14_code
def yX3_sum : MethodName := ⟨RX3, "sum", "(I)I"⟩
abbrev cX3_group : ByteArray := prog_1_method_15_code
def yX3_group : MethodName := ⟨RX3, "group", "(II)I"⟩
abbrev cX3_answer : ByteArray := prog_1_method_16_code
def yX3_answer : MethodName := ⟨RX3, "answer", "()J"⟩
abbrev cX3_groups : ByteArray := prog_1_method_17_code
def yX3_groups : MethodName := ⟨RX3, "groups", "(II)J"⟩
abbrev cX3_count : ByteArray := prog_1_method_18_code
def yX3_count : MethodName := ⟨RX3, "count", "(I)I"⟩
abbrev cX3_isThing : ByteArray := prog_1_method_19_code
def yX3_isThing : MethodName := ⟨RX3, "isThing", "(I)Z"⟩
abbrev cX3_isColumn : ByteArray := prog_1_method_20_code
def yX3_isColumn : MethodName := ⟨RX3, "isColumn", "(I)Z"⟩
abbrev cX3_isPlaceOfRow : ByteArray := prog_1_method_21_code
def yX3_isPlaceOfRow : MethodName := ⟨RX3, "isPlaceOfRow", "(J)Z"⟩
abbrev cX3_cellOf : ByteArray := prog_1_method_22_code
def yX3_cellOf : MethodName := ⟨RX3, "cellOf", "(II)I"⟩
abbrev cX3_canMakeScale : ByteArray := prog_1_method_23_code
def yX3_canMakeScale : MethodName := ⟨RX3, "canMakeScale", "(III)Z"⟩
abbrev cX3_canMakeSieve : ByteArray := prog_1_method_24_code
def yX3_canMakeSieve : MethodName := ⟨RX3, "canMakeSieve", "(III)Z"⟩
abbrev cX3_canMakeOrder : ByteArray := prog_1_method_25_code
def yX3_canMakeOrder : MethodName := ⟨RX3, "canMakeOrder", "(III)Z"⟩
abbrev cX3_makeNow : ByteArray := prog_1_method_26_code
def yX3_makeNow : MethodName := ⟨RX3, "makeNow", "(II)I"⟩
abbrev cX3_takeDraft : ByteArray := prog_1_method_27_code
def yX3_takeDraft : MethodName := ⟨RX3, "takeDraft", "(I)V"⟩
abbrev cX3_moveForward : ByteArray := prog_1_method_28_code
def yX3_moveForward : MethodName := ⟨RX3, "moveForward", "(II)I"⟩
abbrev cX3_askScale : ByteArray := prog_1_method_29_code
def yX3_askScale : MethodName := ⟨RX3, "askScale", "(II)J"⟩
abbrev cX3_askSieve : ByteArray := prog_1_method_30_code
def yX3_askSieve : MethodName := ⟨RX3, "askSieve", "(II)Z"⟩
abbrev cX3_askOrder : ByteArray := prog_1_method_31_code
def yX3_askOrder : MethodName := ⟨RX3, "askOrder", "(III)I"⟩
abbrev cX3_askSafely : ByteArray := prog_1_method_32_code
def yX3_askSafely : MethodName := ⟨RX3, "askSafely", "(II)Z"⟩
abbrev cX3_askThen : ByteArray := prog_1_method_33_code
def yX3_askThen : MethodName := ⟨RX3, "askThen", "(IIII)I"⟩
abbrev cX3_rankBySieve : ByteArray := prog_1_method_34_code
def yX3_rankBySieve : MethodName := ⟨RX3, "rankBySieve", "(II)I"⟩
abbrev cX3_lesserFirst : ByteArray := prog_1_method_35_code
def yX3_lesserFirst : MethodName := ⟨RX3, "lesserFirst", "(JJ)I"⟩
abbrev cX3_quotient : ByteArray := prog_1_method_36_code
def yX3_quotient : MethodName := ⟨RX3, "quotient", "(JJ)J"⟩
abbrev cX3_itemAt : ByteArray := prog_1_method_37_code
def yX3_itemAt : MethodName := ⟨RX3, "itemAt", "(J)J"⟩
def RX4 : String := "SieveDeskModel"
def TX4 : u_T := fun k => match k with
  | 0 => ("SieveDeskModel", "things", "I", false)
  | 1 => ("SieveDeskModel", "columns", "[J", true)
  | 2 => ("SieveDeskModel", "row", "[J", true)
  | 3 => ("SieveDeskModel", "listed", "I", false)
  | 4 => ("SieveDeskModel", "list", "[I", true)
  | 5 => ("SieveDeskModel", "many", "[I", true)
  | 6 => ("SieveDeskModel", "kind", "[I", true)
  | 7 => ("SieveDeskModel", "first", "[I", true)
  | 8 => ("SieveDeskModel", "second", "[I", true)
  | 9 => ("SieveDeskModel", "held", "[J", true)
  | 10 => ("SieveDeskModel", "asked", "[I", true)
  | 11 => ("SieveDeskModel", "waiting", "I", false)
  | 12 => ("SieveDeskModel", "which", "[I", true)
  | 13 => ("SieveDeskModel", "one", "[I", true)
  | 14 => ("SieveDeskModel", "other", "[I", true)
  | 15 => ("SieveDeskModel", "stage", "[I", true)
  | 16 => ("SieveDeskModel", "had", "[J", true)
  | 17 => ("SieveDeskModel", "told", "J", false)
  | 18 => ("SieveDeskModel", "failure", "I", false)
  | 19 => ("SieveDeskModel", "askings", "I", false)
  | 20 => ("SieveDeskModel", "askingsTold", "I", false)
  | 21 => ("SieveDeskModel", "askingsEver", "I", false)
  | 22 => ("SieveDeskModel", "met", "I", false)
  | 23 => ("SieveDeskModel", "failedCalls", "I", false)
  | 24 => ("SieveDeskModel", "latest", "I", false)
  | 25 => ("SieveDeskModel", "answer", "J", false)
  | 26 => ("SieveDeskModel", "groups", "I", false)
  | 27 => ("SieveDeskModel", "key", "[J", true)
  | 28 => ("SieveDeskModel", "size", "[I", true)
  | 29 => ("SieveDeskModel", "sums", "[J", true)
  | 30 => ("SieveDeskModel", "firsts", "[I", true)
  | 31 => ("SieveDeskModel", "next", "[I", true)
  | 32 => ("SieveDeskModel", "newKey", "[J", true)
  | 33 => ("SieveDeskModel", "newSize", "[I", true)
  | 34 => ("SieveDeskModel", "newSum", "[J", true)
  | _ => ("SieveDeskModel", "newFirst", "[I", true)
def tyX4 : Nat → FieldType := fun k => match k with
  | 0 => .int
  | 1 => .array .long
  | 2 => .array .long
  | 3 => .int
  | 4 => .array .int
  | 5 => .array .int
  | 6 => .array .int
  | 7 => .array .int
  | 8 => .array .int
  | 9 => .array .long
  | 10 => .array .int
  | 11 => .int
  | 12 => .array .int
  | 13 => .array .int
  | 14 => .array .int
  | 15 => .array .int
  | 16 => .array .long
  | 17 => .long
  | 18 => .int
  | 19 => .int
  | 20 => .int
  | 21 => .int
  | 22 => .int
  | 23 => .int
  | 24 => .int
  | 25 => .long
  | 26 => .int
  | 27 => .array .long
  | 28 => .array .int
  | 29 => .array .long
  | 30 => .array .int
  | 31 => .array .int
  | 32 => .array .long
  | 33 => .array .int
  | 34 => .array .long
  | _ => .array .int
theorem nmX4 : ∀ a, a < 36 → ∀ b, b < 36 → a ≠ b → (TX4 a).2.1 ≠ (TX4 b).2.1 := by decide +kernel
theorem tyX4_ok : ∀ k, k < 36 → parseFieldDescriptor (TX4 k).2.2.1 = some (tyX4 k) := by decide +kernel
abbrev cX4_init : ByteArray := prog_6_method_1_code
def yX4_init : MethodName := ⟨RX4, "<init>", "()V"⟩
abbrev cX4_in : ByteArray := prog_6_method_3_code
def yX4_in : MethodName := ⟨RX4, "in", "(III)Z"⟩
abbrev cX4_isThing : ByteArray := prog_6_method_4_code
def yX4_isThing : MethodName := ⟨RX4, "isThing", "(I)Z"⟩
abbrev cX4_is : ByteArray := prog_6_method_5_code
def yX4_is : MethodName := ⟨RX4, "is", "(II)Z"⟩
abbrev cX4_thing : ByteArray := prog_6_method_6_code
def yX4_thing : MethodName := ⟨RX4, "thing", "(JJJ)I"⟩
abbrev cX4_change : ByteArray := prog_6_method_7_code
def yX4_change : MethodName := ⟨RX4, "change", "(IIJ)I"⟩
abbrev cX4_get : ByteArray := prog_6_method_8_code
def yX4_get : MethodName := ⟨RX4, "get", "(II)J"⟩
abbrev cX4_item : ByteArray := prog_6_method_9_code
def yX4_item : MethodName := ⟨RX4, "item", "(IJ)I"⟩
abbrev cX4_begins : ByteArray := prog_6_method_10_code
def yX4_begins : MethodName := ⟨RX4, "begins", "(IIII)V"⟩
abbrev cX4_tells : ByteArray := prog_6_method_11_code
def yX4_tells : MethodName := ⟨RX4, "tells", "(J)V"⟩
abbrev cX4_goesScale : ByteArray := prog_6_method_12_code
def yX4_goesScale : MethodName := ⟨RX4, "goesScale", "(IIIJ)V"⟩
abbrev cX4_both : ByteArray := prog_6_method_13_code
def yX4_both : MethodName := ⟨RX4, "both", "(IJJ)V"⟩
abbrev cX4_goesSieve : ByteArray := prog_6_method_14_code
def yX4_goesSieve : MethodName := ⟨RX4, "goesSieve", "(IIIJ)V"⟩
abbrev cX4_goesOrder : ByteArray := prog_6_method_15_code
def yX4_goesOrder : MethodName := ⟨RX4, "goesOrder", "(IIJ)V"⟩
abbrev cX4_recovers : ByteArray := prog_6_method_16_code
def yX4_recovers : MethodName := ⟨RX4, "recovers", "()V"⟩
abbrev cX4_ask : ByteArray := prog_6_method_17_code
def yX4_ask : MethodName := ⟨RX4, "ask", "(IIII)Z"⟩
abbrev cX4_startsCall : ByteArray := prog_6_method_18_code
def yX4_startsCall : MethodName := ⟨RX4, "startsCall", "()V"⟩
abbrev cX4_ends : ByteArray := prog_6_method_19_code
def yX4_ends : MethodName := ⟨RX4, "ends", "(I)I"⟩
abbrev cX4_made : ByteArray := prog_6_method_20_code
def yX4_made : MethodName := ⟨RX4, "made", "(IIIIJ)I"⟩
abbrev cX4_scale : ByteArray := prog_6_method_21_code
def yX4_scale : MethodName := ⟨RX4, "scale", "(III)I"⟩
abbrev cX4_sieve : ByteArray := prog_6_method_22_code
def yX4_sieve : MethodName := ⟨RX4, "sieve", "(III)I"⟩
abbrev cX4_order : ByteArray := prog_6_method_23_code
def yX4_order : MethodName := ⟨RX4, "order", "(III)I"⟩
abbrev cX4_all : ByteArray := prog_6_method_24_code
def yX4_all : MethodName := ⟨RX4, "all", "()I"⟩
abbrev cX4_tell : ByteArray := prog_6_method_25_code
def yX4_tell : MethodName := ⟨RX4, "tell", "(II)I"⟩
abbrev cX4_sift : ByteArray := prog_6_method_26_code
def yX4_sift : MethodName := ⟨RX4, "sift", "(I)I"⟩
abbrev cX4_sort : ByteArray := prog_6_method_27_code
def yX4_sort : MethodName := ⟨RX4, "sort", "(I)I"⟩
abbrev cX4_sum : ByteArray := prog_6_method_28_code
def yX4_sum : MethodName := ⟨RX4, "sum", "(I)I"⟩
abbrev cX4_group : ByteArray := prog_6_method_29_code
def yX4_group : MethodName := ⟨RX4, "group", "(II)I"⟩
abbrev cX4_answer : ByteArray := prog_6_method_30_code
def yX4_answer : MethodName := ⟨RX4, "answer", "()J"⟩
abbrev cX4_list : ByteArray := prog_6_method_31_code
def yX4_list : MethodName := ⟨RX4, "list", "(I)I"⟩
abbrev cX4_groups : ByteArray := prog_6_method_32_code
def yX4_groups : MethodName := ⟨RX4, "groups", "(II)J"⟩
abbrev cX4_count : ByteArray := prog_6_method_33_code
def yX4_count : MethodName := ⟨RX4, "count", "(I)I"⟩
def RL : String := "SieveDeskLaw"
abbrev cL_law : ByteArray := code
abbrev vwCl : List vw_C := [(RX0, TX0, 5), (RX1, TX1, 5), (RX2, TX2, 6), (RX3, TX3, 13), (RX4, TX4, 36)]
