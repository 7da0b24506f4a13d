section
-- ===== PART A: goes FIRST, ahead of the names: the tables' words, and 'selects' of the private methods out of them =====
/-- a private method of a class that the tables say can be made, by its rows of tables_1 -/
def lw_okq (q : MethodName × Nat) : Prop := (q.1.cls ≠ "java/lang/invoke/MethodHandle" ∧ q.1.cls ≠ "java/lang/invoke/VarHandle") ∧ Cond.instantiable q.1.cls q.2 ∈ tables_1 ∧ Cond.privateMethod q.1 ∈ tables_1 ∧ Cond.instanceMethod q.1 ∈ tables_1
theorem lw_p0 : lw_okq (⟨"SieveDesk", "isThing", "(I)Z"⟩, 13) := ⟨⟨by decide +kernel, by decide +kernel⟩, List.mem_of_getElem? (i := 9) (by decide +kernel), List.mem_of_getElem? (i := 150) (by decide +kernel), List.mem_of_getElem? (i := 151) (by decide +kernel)⟩
theorem lw_p1 : lw_okq (⟨"SieveDesk", "canMakeScale", "(III)Z"⟩, 13) := ⟨⟨by decide +kernel, by decide +kernel⟩, List.mem_of_getElem? (i := 9) (by decide +kernel), List.mem_of_getElem? (i := 181) (by decide +kernel), List.mem_of_getElem? (i := 182) (by decide +kernel)⟩
theorem lw_p2 : lw_okq (⟨"SieveDesk", "makeNow", "(II)I"⟩, 13) := ⟨⟨by decide +kernel, by decide +kernel⟩, List.mem_of_getElem? (i := 9) (by decide +kernel), List.mem_of_getElem? (i := 193) (by decide +kernel), List.mem_of_getElem? (i := 194) (by decide +kernel)⟩
theorem lw_p3 : lw_okq (⟨"SieveDesk", "askScale", "(II)J"⟩, 13) := ⟨⟨by decide +kernel, by decide +kernel⟩, List.mem_of_getElem? (i := 9) (by decide +kernel), List.mem_of_getElem? (i := 201) (by decide +kernel), List.mem_of_getElem? (i := 202) (by decide +kernel)⟩
theorem lw_p4 : lw_okq (⟨"SieveDesk", "quotient", "(JJ)J"⟩, 13) := ⟨⟨by decide +kernel, by decide +kernel⟩, List.mem_of_getElem? (i := 9) (by decide +kernel), List.mem_of_getElem? (i := 217) (by decide +kernel), List.mem_of_getElem? (i := 218) (by decide +kernel)⟩
theorem lw_p5 : lw_okq (⟨"SieveDesk", "askSieve", "(II)Z"⟩, 13) := ⟨⟨by decide +kernel, by decide +kernel⟩, List.mem_of_getElem? (i := 9) (by decide +kernel), List.mem_of_getElem? (i := 225) (by decide +kernel), List.mem_of_getElem? (i := 226) (by decide +kernel)⟩
theorem lw_p6 : lw_okq (⟨"SieveDesk", "askSafely", "(II)Z"⟩, 13) := ⟨⟨by decide +kernel, by decide +kernel⟩, List.mem_of_getElem? (i := 9) (by decide +kernel), List.mem_of_getElem? (i := 236) (by decide +kernel), List.mem_of_getElem? (i := 237) (by decide +kernel)⟩
theorem lw_p7 : lw_okq (⟨"SieveDesk", "itemAt", "(J)J"⟩, 13) := ⟨⟨by decide +kernel, by decide +kernel⟩, List.mem_of_getElem? (i := 9) (by decide +kernel), List.mem_of_getElem? (i := 244) (by decide +kernel), List.mem_of_getElem? (i := 245) (by decide +kernel)⟩
theorem lw_p8 : lw_okq (⟨"SieveDesk", "canMakeSieve", "(III)Z"⟩, 13) := ⟨⟨by decide +kernel, by decide +kernel⟩, List.mem_of_getElem? (i := 9) (by decide +kernel), List.mem_of_getElem? (i := 261) (by decide +kernel), List.mem_of_getElem? (i := 262) (by decide +kernel)⟩
theorem lw_p9 : lw_okq (⟨"SieveDesk", "canMakeOrder", "(III)Z"⟩, 13) := ⟨⟨by decide +kernel, by decide +kernel⟩, List.mem_of_getElem? (i := 9) (by decide +kernel), List.mem_of_getElem? (i := 269) (by decide +kernel), List.mem_of_getElem? (i := 270) (by decide +kernel)⟩
theorem lw_p10 : lw_okq (⟨"SieveDesk", "takeDraft", "(I)V"⟩, 13) := ⟨⟨by decide +kernel, by decide +kernel⟩, List.mem_of_getElem? (i := 9) (by decide +kernel), List.mem_of_getElem? (i := 281) (by decide +kernel), List.mem_of_getElem? (i := 282) (by decide +kernel)⟩
theorem lw_p11 : lw_okq (⟨"SieveDesk", "moveForward", "(II)I"⟩, 13) := ⟨⟨by decide +kernel, by decide +kernel⟩, List.mem_of_getElem? (i := 9) (by decide +kernel), List.mem_of_getElem? (i := 292) (by decide +kernel), List.mem_of_getElem? (i := 293) (by decide +kernel)⟩
theorem lw_p12 : lw_okq (⟨"SieveDesk", "askOrder", "(III)I"⟩, 13) := ⟨⟨by decide +kernel, by decide +kernel⟩, List.mem_of_getElem? (i := 9) (by decide +kernel), List.mem_of_getElem? (i := 296) (by decide +kernel), List.mem_of_getElem? (i := 297) (by decide +kernel)⟩
theorem lw_p13 : lw_okq (⟨"SieveDesk", "askThen", "(IIII)I"⟩, 13) := ⟨⟨by decide +kernel, by decide +kernel⟩, List.mem_of_getElem? (i := 9) (by decide +kernel), List.mem_of_getElem? (i := 303) (by decide +kernel), List.mem_of_getElem? (i := 304) (by decide +kernel)⟩
theorem lw_p14 : lw_okq (⟨"SieveDesk", "rankBySieve", "(II)I"⟩, 13) := ⟨⟨by decide +kernel, by decide +kernel⟩, List.mem_of_getElem? (i := 9) (by decide +kernel), List.mem_of_getElem? (i := 307) (by decide +kernel), List.mem_of_getElem? (i := 308) (by decide +kernel)⟩
theorem lw_p15 : lw_okq (⟨"SieveDesk$Grouping", "placeOf", "(J)I"⟩, 5) := ⟨⟨by decide +kernel, by decide +kernel⟩, List.mem_of_getElem? (i := 46) (by decide +kernel), List.mem_of_getElem? (i := 327) (by decide +kernel), List.mem_of_getElem? (i := 328) (by decide +kernel)⟩
def lw_privs_1 : List (MethodName × Nat) := [(⟨"SieveDesk", "isThing", "(I)Z"⟩, 13), (⟨"SieveDesk", "canMakeScale", "(III)Z"⟩, 13), (⟨"SieveDesk", "makeNow", "(II)I"⟩, 13), (⟨"SieveDesk", "askScale", "(II)J"⟩, 13), (⟨"SieveDesk", "quotient", "(JJ)J"⟩, 13), (⟨"SieveDesk", "askSieve", "(II)Z"⟩, 13), (⟨"SieveDesk", "askSafely", "(II)Z"⟩, 13), (⟨"SieveDesk", "itemAt", "(J)J"⟩, 13), (⟨"SieveDesk", "canMakeSieve", "(III)Z"⟩, 13), (⟨"SieveDesk", "canMakeOrder", "(III)Z"⟩, 13), (⟨"SieveDesk", "takeDraft", "(I)V"⟩, 13), (⟨"SieveDesk", "moveForward", "(II)I"⟩, 13), (⟨"SieveDesk", "askOrder", "(III)I"⟩, 13), (⟨"SieveDesk", "askThen", "(IIII)I"⟩, 13), (⟨"SieveDesk", "rankBySieve", "(II)I"⟩, 13), (⟨"SieveDesk$Grouping", "placeOf", "(J)I"⟩, 5)]
theorem lw_r1 : ∀ q ∈ lw_privs_1, lw_okq q := List.forall_mem_cons.mpr ⟨lw_p0, List.forall_mem_cons.mpr ⟨lw_p1, List.forall_mem_cons.mpr ⟨lw_p2, List.forall_mem_cons.mpr ⟨lw_p3, List.forall_mem_cons.mpr ⟨lw_p4, List.forall_mem_cons.mpr ⟨lw_p5, List.forall_mem_cons.mpr ⟨lw_p6, List.forall_mem_cons.mpr ⟨lw_p7, List.forall_mem_cons.mpr ⟨lw_p8, List.forall_mem_cons.mpr ⟨lw_p9, List.forall_mem_cons.mpr ⟨lw_p10, List.forall_mem_cons.mpr ⟨lw_p11, List.forall_mem_cons.mpr ⟨lw_p12, List.forall_mem_cons.mpr ⟨lw_p13, List.forall_mem_cons.mpr ⟨lw_p14, List.forall_mem_cons.mpr ⟨lw_p15, fun _ h => absurd h List.not_mem_nil⟩⟩⟩⟩⟩⟩⟩⟩⟩⟩⟩⟩⟩⟩⟩⟩
theorem lw_p16 : lw_okq (⟨"SieveDeskModel", "isThing", "(I)Z"⟩, 36) := ⟨⟨by decide +kernel, by decide +kernel⟩, List.mem_of_getElem? (i := 347) (by decide +kernel), List.mem_of_getElem? (i := 470) (by decide +kernel), List.mem_of_getElem? (i := 471) (by decide +kernel)⟩
theorem lw_p17 : lw_okq (⟨"SieveDeskModel", "is", "(II)Z"⟩, 36) := ⟨⟨by decide +kernel, by decide +kernel⟩, List.mem_of_getElem? (i := 347) (by decide +kernel), List.mem_of_getElem? (i := 489) (by decide +kernel), List.mem_of_getElem? (i := 490) (by decide +kernel)⟩
theorem lw_p18 : lw_okq (⟨"SieveDeskModel", "made", "(IIIIJ)I"⟩, 36) := ⟨⟨by decide +kernel, by decide +kernel⟩, List.mem_of_getElem? (i := 347) (by decide +kernel), List.mem_of_getElem? (i := 493) (by decide +kernel), List.mem_of_getElem? (i := 494) (by decide +kernel)⟩
theorem lw_p19 : lw_okq (⟨"SieveDeskModel", "startsCall", "()V"⟩, 36) := ⟨⟨by decide +kernel, by decide +kernel⟩, List.mem_of_getElem? (i := 347) (by decide +kernel), List.mem_of_getElem? (i := 497) (by decide +kernel), List.mem_of_getElem? (i := 498) (by decide +kernel)⟩
theorem lw_p20 : lw_okq (⟨"SieveDeskModel", "ask", "(IIII)Z"⟩, 36) := ⟨⟨by decide +kernel, by decide +kernel⟩, List.mem_of_getElem? (i := 347) (by decide +kernel), List.mem_of_getElem? (i := 501) (by decide +kernel), List.mem_of_getElem? (i := 502) (by decide +kernel)⟩
theorem lw_p21 : lw_okq (⟨"SieveDeskModel", "begins", "(IIII)V"⟩, 36) := ⟨⟨by decide +kernel, by decide +kernel⟩, List.mem_of_getElem? (i := 347) (by decide +kernel), List.mem_of_getElem? (i := 505) (by decide +kernel), List.mem_of_getElem? (i := 506) (by decide +kernel)⟩
theorem lw_p22 : lw_okq (⟨"SieveDeskModel", "goesScale", "(IIIJ)V"⟩, 36) := ⟨⟨by decide +kernel, by decide +kernel⟩, List.mem_of_getElem? (i := 347) (by decide +kernel), List.mem_of_getElem? (i := 509) (by decide +kernel), List.mem_of_getElem? (i := 510) (by decide +kernel)⟩
theorem lw_p23 : lw_okq (⟨"SieveDeskModel", "tells", "(J)V"⟩, 36) := ⟨⟨by decide +kernel, by decide +kernel⟩, List.mem_of_getElem? (i := 347) (by decide +kernel), List.mem_of_getElem? (i := 513) (by decide +kernel), List.mem_of_getElem? (i := 514) (by decide +kernel)⟩
theorem lw_p24 : lw_okq (⟨"SieveDeskModel", "both", "(IJJ)V"⟩, 36) := ⟨⟨by decide +kernel, by decide +kernel⟩, List.mem_of_getElem? (i := 347) (by decide +kernel), List.mem_of_getElem? (i := 518) (by decide +kernel), List.mem_of_getElem? (i := 519) (by decide +kernel)⟩
theorem lw_p25 : lw_okq (⟨"SieveDeskModel", "goesSieve", "(IIIJ)V"⟩, 36) := ⟨⟨by decide +kernel, by decide +kernel⟩, List.mem_of_getElem? (i := 347) (by decide +kernel), List.mem_of_getElem? (i := 522) (by decide +kernel), List.mem_of_getElem? (i := 523) (by decide +kernel)⟩
theorem lw_p26 : lw_okq (⟨"SieveDeskModel", "goesOrder", "(IIJ)V"⟩, 36) := ⟨⟨by decide +kernel, by decide +kernel⟩, List.mem_of_getElem? (i := 347) (by decide +kernel), List.mem_of_getElem? (i := 526) (by decide +kernel), List.mem_of_getElem? (i := 527) (by decide +kernel)⟩
theorem lw_p27 : lw_okq (⟨"SieveDeskModel", "recovers", "()V"⟩, 36) := ⟨⟨by decide +kernel, by decide +kernel⟩, List.mem_of_getElem? (i := 347) (by decide +kernel), List.mem_of_getElem? (i := 531) (by decide +kernel), List.mem_of_getElem? (i := 532) (by decide +kernel)⟩
theorem lw_p28 : lw_okq (⟨"SieveDeskModel", "ends", "(I)I"⟩, 36) := ⟨⟨by decide +kernel, by decide +kernel⟩, List.mem_of_getElem? (i := 347) (by decide +kernel), List.mem_of_getElem? (i := 535) (by decide +kernel), List.mem_of_getElem? (i := 536) (by decide +kernel)⟩
def lw_privs_2 : List (MethodName × Nat) := [(⟨"SieveDeskModel", "isThing", "(I)Z"⟩, 36), (⟨"SieveDeskModel", "is", "(II)Z"⟩, 36), (⟨"SieveDeskModel", "made", "(IIIIJ)I"⟩, 36), (⟨"SieveDeskModel", "startsCall", "()V"⟩, 36), (⟨"SieveDeskModel", "ask", "(IIII)Z"⟩, 36), (⟨"SieveDeskModel", "begins", "(IIII)V"⟩, 36), (⟨"SieveDeskModel", "goesScale", "(IIIJ)V"⟩, 36), (⟨"SieveDeskModel", "tells", "(J)V"⟩, 36), (⟨"SieveDeskModel", "both", "(IJJ)V"⟩, 36), (⟨"SieveDeskModel", "goesSieve", "(IIIJ)V"⟩, 36), (⟨"SieveDeskModel", "goesOrder", "(IIJ)V"⟩, 36), (⟨"SieveDeskModel", "recovers", "()V"⟩, 36), (⟨"SieveDeskModel", "ends", "(I)I"⟩, 36)]
theorem lw_r2 : ∀ q ∈ lw_privs_2, lw_okq q := List.forall_mem_cons.mpr ⟨lw_p16, List.forall_mem_cons.mpr ⟨lw_p17, List.forall_mem_cons.mpr ⟨lw_p18, List.forall_mem_cons.mpr ⟨lw_p19, List.forall_mem_cons.mpr ⟨lw_p20, List.forall_mem_cons.mpr ⟨lw_p21, List.forall_mem_cons.mpr ⟨lw_p22, List.forall_mem_cons.mpr ⟨lw_p23, List.forall_mem_cons.mpr ⟨lw_p24, List.forall_mem_cons.mpr ⟨lw_p25, List.forall_mem_cons.mpr ⟨lw_p26, List.forall_mem_cons.mpr ⟨lw_p27, List.forall_mem_cons.mpr ⟨lw_p28, fun _ h => absurd h List.not_mem_nil⟩⟩⟩⟩⟩⟩⟩⟩⟩⟩⟩⟩⟩
def lw_privs : List (MethodName × Nat) := lw_privs_1 ++ (lw_privs_2)
def lw_tbl : List Cond := k2_sels lw_privs ++ tables_1
theorem lw_privs_ok : ∀ q ∈ lw_privs, lw_okq q := by
  show ∀ q ∈ lw_privs_1 ++ (lw_privs_2), lw_okq q
  exact List.forall_mem_append.mpr ⟨lw_r1, lw_r2⟩
def RX0 : String := "SieveDesk$Grouping"
def TX0 : u_T := fun k => match k with
  | 0 => ("SieveDesk$Grouping", "key", "[J", true)
  | 1 => ("SieveDesk$Grouping", "members", "[I", true)
  | 2 => ("SieveDesk$Grouping", "total", "[J", true)
  | 3 => ("SieveDesk$Grouping", "first", "[I", true)
  | _ => ("SieveDesk$Grouping", "size", "I", false)
def tyX0 : Nat → FieldType := fun k => match k with
  | 0 => .array .long
  | 1 => .array .int
  | 2 => .array .long
  | 3 => .array .int
  | _ => .int
theorem nmX0 : ∀ a, a < 5 → ∀ b, b < 5 → a ≠ b → (TX0 a).2.1 ≠ (TX0 b).2.1 := by decide +kernel
theorem tyX0_ok : ∀ k, k < 5 → parseFieldDescriptor (TX0 k).2.2.1 = some (tyX0 k) := by decide +kernel
abbrev cX0_init : ByteArray := prog_2_method_1_code
def yX0_init : MethodName := ⟨RX0, "<init>", "()V"⟩
abbrev cX0_clear : ByteArray := prog_2_method_2_code
def yX0_clear : MethodName := ⟨RX0, "clear", "()V"⟩
abbrev cX0_add : ByteArray := prog_2_method_3_code
def yX0_add : MethodName := ⟨RX0, "add", "(JJI)V"⟩
abbrev cX0_tellOf : ByteArray := prog_2_method_4_code
def yX0_tellOf : MethodName := ⟨RX0, "tellOf", "(II)J"⟩
abbrev cX0_placeOf : ByteArray := prog_2_method_5_code
def yX0_placeOf : MethodName := ⟨RX0, "placeOf", "(J)I"⟩
def RX1 : String := "SieveDesk$Shelf"
def TX1 : u_T := fun k => match k with
  | 0 => ("SieveDesk$Shelf", "kind", "[I", true)
  | 1 => ("SieveDesk$Shelf", "a", "[I", true)
  | 2 => ("SieveDesk$Shelf", "b", "[I", true)
  | 3 => ("SieveDesk$Shelf", "kept", "[J", true)
  | _ => ("SieveDesk$Shelf", "size", "I", false)
def tyX1 : Nat → FieldType := fun k => match k with
  | 0 => .array .int
  | 1 => .array .int
  | 2 => .array .int
  | 3 => .array .long
  | _ => .int
theorem nmX1 : ∀ a, a < 5 → ∀ b, b < 5 → a ≠ b → (TX1 a).2.1 ≠ (TX1 b).2.1 := by decide +kernel
theorem tyX1_ok : ∀ k, k < 5 → parseFieldDescriptor (TX1 k).2.2.1 = some (tyX1 k) := by decide +kernel
abbrev cX1_init : ByteArray := prog_3_method_1_code
def yX1_init : MethodName := ⟨RX1, "<init>", "()V"⟩
abbrev cX1_has : ByteArray := prog_3_method_2_code
def yX1_has : MethodName := ⟨RX1, "has", "(I)Z"⟩
abbrev cX1_isFull : ByteArray := prog_3_method_3_code
def yX1_isFull : MethodName := ⟨RX1, "isFull", "()Z"⟩
abbrev cX1_make : ByteArray := prog_3_method_4_code
def yX1_make : MethodName := ⟨RX1, "make", "(IIIJ)I"⟩
abbrev cX1_countAsked : ByteArray := prog_3_method_5_code
def yX1_countAsked : MethodName := ⟨RX1, "countAsked", "(I)J"⟩
def RX2 : String := "SieveDesk$Tally"
def TX2 : u_T := fun k => match k with
  | 0 => ("SieveDesk$Tally", "begun", "I", false)
  | 1 => ("SieveDesk$Tally", "begunEver", "I", false)
  | 2 => ("SieveDesk$Tally", "met", "I", false)
  | 3 => ("SieveDesk$Tally", "failedCalls", "I", false)
  | 4 => ("SieveDesk$Tally", "latestFailure", "I", false)
  | _ => ("SieveDesk$Tally", "standing", "I", false)
def tyX2 : Nat → FieldType := fun k => match k with
  | 0 => .int
  | 1 => .int
  | 2 => .int
  | 3 => .int
  | 4 => .int
  | _ => .int
theorem nmX2 : ∀ a, a < 6 → ∀ b, b < 6 → a ≠ b → (TX2 a).2.1 ≠ (TX2 b).2.1 := by decide +kernel
theorem tyX2_ok : ∀ k, k < 6 → parseFieldDescriptor (TX2 k).2.2.1 = some (tyX2 k) := by decide +kernel
abbrev cX2_init : ByteArray := prog_4_method_1_code
def yX2_init : MethodName := ⟨RX2, "<init>", "()V"⟩
abbrev cX2_opensCall : ByteArray := prog_4_method_2_code
def yX2_opensCall : MethodName := ⟨RX2, "opensCall", "()Z"⟩
abbrev cX2_beginsAsking : ByteArray := prog_4_method_3_code
def yX2_beginsAsking : MethodName := ⟨RX2, "beginsAsking", "()Z"⟩
abbrev cX2_hasFailure : ByteArray := prog_4_method_4_code
def yX2_hasFailure : MethodName := ⟨RX2, "hasFailure", "()Z"⟩
abbrev cX2_fail : ByteArray := prog_4_method_5_code
def yX2_fail : MethodName := ⟨RX2, "fail", "(I)V"⟩
abbrev cX2_meetsFailure : ByteArray := prog_4_method_6_code
def yX2_meetsFailure : MethodName := ⟨RX2, "meetsFailure", "()Z"⟩
abbrev cX2_endFailedCall : ByteArray := prog_4_method_7_code
def yX2_endFailedCall : MethodName := ⟨RX2, "endFailedCall", "()I"⟩
def RX3 : String := "SieveDesk"
def TX3 : u_T := fun k => match k with
  | 0 => ("SieveDesk", "cells", "[J", true)
  | 1 => ("SieveDesk", "thingCount", "I", false)
  | 2 => ("SieveDesk", "row", "[J", true)
  | 3 => ("SieveDesk", "listed", "[I", true)
  | 4 => ("SieveDesk", "draft", "[I", true)
  | 5 => ("SieveDesk", "listLength", "I", false)
  | 6 => ("SieveDesk", "scales", "LSieveDesk$Shelf;", true)
  | 7 => ("SieveDesk", "sieves", "LSieveDesk$Shelf;", true)
  | 8 => ("SieveDesk", "orders", "LSieveDesk$Shelf;", true)
  | 9 => ("SieveDesk", "grouping", "LSieveDesk$Grouping;", false)
  | 10 => ("SieveDesk", "draftGrouping", "LSieveDesk$Grouping;", false)
  | 11 => ("SieveDesk", "tally", "LSieveDesk$Tally;", true)
  | _ => ("SieveDesk", "latestTold", "J", false)
def tyX3 : Nat → FieldType := fun k => match k with
  | 0 => .array .long
  | 1 => .int
  | 2 => .array .long
  | 3 => .array .int
  | 4 => .array .int
  | 5 => .int
  | 6 => .object "SieveDesk$Shelf"
  | 7 => .object "SieveDesk$Shelf"
  | 8 => .object "SieveDesk$Shelf"
  | 9 => .object "SieveDesk$Grouping"
  | 10 => .object "SieveDesk$Grouping"
  | 11 => .object "SieveDesk$Tally"
  | _ => .long
theorem nmX3 : ∀ a, a < 13 → ∀ b, b < 13 → a ≠ b → (TX3 a).2.1 ≠ (TX3 b).2.1 := by decide +kernel
theorem tyX3_ok : ∀ k, k < 13 → parseFieldDescriptor (TX3 k).2.2.1 = some (tyX3 k) := by decide +kernel
abbrev cX3_init : ByteArray := prog_1_method_1_code
def yX3_init : MethodName := ⟨RX3, "<init>", "()V"⟩
abbrev cX3_thing : ByteArray := prog_1_method_2_code
def yX3_thing : MethodName := ⟨RX3, "thing", "(JJJ)I"⟩
abbrev cX3_change : ByteArray := prog_1_method_3_code
def yX3_change : MethodName := ⟨RX3, "change", "(IIJ)I"⟩
abbrev cX3_get : ByteArray := prog_1_method_4_code
def yX3_get : MethodName := ⟨RX3, "get", "(II)J"⟩
abbrev cX3_item : ByteArray := prog_1_method_5_code
def yX3_item : MethodName := ⟨RX3, "item", "(IJ)I"⟩
abbrev cX3_all : ByteArray := prog_1_method_6_code
def yX3_all : MethodName := ⟨RX3, "all", "()I"⟩
abbrev cX3_list : ByteArray := prog_1_method_7_code
def yX3_list : MethodName := ⟨RX3, "list", "(I)I"⟩
abbrev cX3_scale : ByteArray := prog_1_method_8_code
def yX3_scale : MethodName := ⟨RX3, "scale", "(III)I"⟩
abbrev cX3_sieve : ByteArray := prog_1_method_9_code
def yX3_sieve : MethodName := ⟨RX3, "sieve", "(III)I"⟩
abbrev cX3_order : ByteArray := prog_1_method_10_code
def yX3_order : MethodName := ⟨RX3, "order", "(III)I"⟩
abbrev cX3_tell : ByteArray := prog_1_method_11_code
def yX3_tell : MethodName := ⟨RX3, "tell", "(II)I"⟩
abbrev cX3_sift : ByteArray := prog_1_method_12_code
def yX3_sift : MethodName := ⟨RX3, "sift", "(I)I"⟩
abbrev cX3_sort : ByteArray := prog_1_method_13_code
def yX3_sort : MethodName := ⟨RX3, "sort", "(I)I"⟩
abbrev cX3_sum : ByteArray := prog_1_method_14_code
def yX3_sum : MethodName := ⟨RX3, "sum", "(I)I"⟩
abbrev cX3_group : ByteArray := prog_1_method_15_code
def yX3_group : MethodName := ⟨RX3, "group", "(II)I"⟩
abbrev cX3_answer : ByteArray := prog_1_method_16_code
def yX3_answer : MethodName := ⟨RX3, "answer", "()J"⟩
abbrev cX3_groups : ByteArray := prog_1_method_17_code
def yX3_groups : MethodName := ⟨RX3, "groups", "(II)J"⟩
abbrev cX3_count : ByteArray := prog_1_method_18_code
def yX3_count : MethodName := ⟨RX3, "count", "(I)I"⟩
abbrev cX3_isThing : ByteArray := prog_1_method_19_code
def yX3_isThing : MethodName := ⟨RX3, "isThing", "(I)Z"⟩
abbrev cX3_isColumn : ByteArray := prog_1_method_20_code
def yX3_isColumn : MethodName := ⟨RX3, "isColumn", "(I)Z"⟩
abbrev cX3_isPlaceOfRow : ByteArray := prog_1_method_21_code
def yX3_isPlaceOfRow : MethodName := ⟨RX3, "isPlaceOfRow", "(J)Z"⟩
abbrev cX3_cellOf : ByteArray := prog_1_method_22_code
def yX3_cellOf : MethodName := ⟨RX3, "cellOf", "(II)I"⟩
abbrev cX3_canMakeScale : ByteArray := prog_1_method_23_code
def yX3_canMakeScale : MethodName := ⟨RX3, "canMakeScale", "(III)Z"⟩
abbrev cX3_canMakeSieve : ByteArray := prog_1_method_24_code
def yX3_canMakeSieve : MethodName := ⟨RX3, "canMakeSieve", "(III)Z"⟩
abbrev cX3_canMakeOrder : ByteArray := prog_1_method_25_code
def yX3_canMakeOrder : MethodName := ⟨RX3, "canMakeOrder", "(III)Z"⟩
abbrev cX3_makeNow : ByteArray := prog_1_method_26_code
def yX3_makeNow : MethodName := ⟨RX3, "makeNow", "(II)I"⟩
abbrev cX3_takeDraft : ByteArray := prog_1_method_27_code
def yX3_takeDraft : MethodName := ⟨RX3, "takeDraft", "(I)V"⟩
abbrev cX3_moveForward : ByteArray := prog_1_method_28_code
def yX3_moveForward : MethodName := ⟨RX3, "moveForward", "(II)I"⟩
abbrev cX3_askScale : ByteArray := prog_1_method_29_code
def yX3_askScale : MethodName := ⟨RX3, "askScale", "(II)J"⟩
abbrev cX3_askSieve : ByteArray := prog_1_method_30_code
def yX3_askSieve : MethodName := ⟨RX3, "askSieve", "(II)Z"⟩
abbrev cX3_askOrder : ByteArray := prog_1_method_31_code
def yX3_askOrder : MethodName := ⟨RX3, "askOrder", "(III)I"⟩
abbrev cX3_askSafely : ByteArray := prog_1_method_32_code
def yX3_askSafely : MethodName := ⟨RX3, "askSafely", "(II)Z"⟩
abbrev cX3_askThen : ByteArray := prog_1_method_33_code
def yX3_askThen : MethodName := ⟨RX3, "askThen", "(IIII)I"⟩
abbrev cX3_rankBySieve : ByteArray := prog_1_method_34_code
def yX3_rankBySieve : MethodName := ⟨RX3, "rankBySieve", "(II)I"⟩
abbrev cX3_lesserFirst : ByteArray := prog_1_method_35_code
def yX3_lesserFirst : MethodName := ⟨RX3, "lesserFirst", "(JJ)I"⟩
abbrev cX3_quotient : ByteArray := prog_1_method_36_code
def yX3_quotient : MethodName := ⟨RX3, "quotient", "(JJ)J"⟩
abbrev cX3_itemAt : ByteArray := prog_1_method_37_code
def yX3_itemAt : MethodName := ⟨RX3, "itemAt", "(J)J"⟩
def RX4 : String := "SieveDeskModel"
def TX4 : u_T := fun k => match k with
  | 0 => ("SieveDeskModel", "things", "I", false)
  | 1 => ("SieveDeskModel", "columns", "[J", true)
  | 2 => ("SieveDeskModel", "row", "[J", true)
  | 3 => ("SieveDeskModel", "listed", "I", false)
  | 4 => ("SieveDeskModel", "list", "[I", true)
  | 5 => ("SieveDeskModel", "many", "[I", true)
  | 6 => ("SieveDeskModel", "kind", "[I", true)
  | 7 => ("SieveDeskModel", "first", "[I", true)
  | 8 => ("SieveDeskModel", "second", "[I", true)
  | 9 => ("SieveDeskModel", "held", "[J", true)
  | 10 => ("SieveDeskModel", "asked", "[I", true)
  | 11 => ("SieveDeskModel", "waiting", "I", false)
  | 12 => ("SieveDeskModel", "which", "[I", true)
  | 13 => ("SieveDeskModel", "one", "[I", true)
  | 14 => ("SieveDeskModel", "other", "[I", true)
  | 15 => ("SieveDeskModel", "stage", "[I", true)
  | 16 => ("SieveDeskModel", "had", "[J", true)
  | 17 => ("SieveDeskModel", "told", "J", false)
  | 18 => ("SieveDeskModel", "failure", "I", false)
  | 19 => ("SieveDeskModel", "askings", "I", false)
  | 20 => ("SieveDeskModel", "askingsTold", "I", false)
  | 21 => ("SieveDeskModel", "askingsEver", "I", false)
  | 22 => ("SieveDeskModel", "met", "I", false)
  | 23 => ("SieveDeskModel", "failedCalls", "I", false)
  | 24 => ("SieveDeskModel", "latest", "I", false)
  | 25 => ("SieveDeskModel", "answer", "J", false)
  | 26 => ("SieveDeskModel", "groups", "I", false)
  | 27 => ("SieveDeskModel", "key", "[J", true)
  | 28 => ("SieveDeskModel", "size", "[I", true)
  | 29 => ("SieveDeskModel", "sums", "[J", true)
  | 30 => ("SieveDeskModel", "firsts", "[I", true)
  | 31 => ("SieveDeskModel", "next", "[I", true)
  | 32 => ("SieveDeskModel", "newKey", "[J", true)
  | 33 => ("SieveDeskModel", "newSize", "[I", true)
  | 34 => ("SieveDeskModel", "newSum", "[J", true)
  | _ => ("SieveDeskModel", "newFirst", "[I", true)
def tyX4 : Nat → FieldType := fun k => match k with
  | 0 => .int
  | 1 => .array .long
  | 2 => .array .long
  | 3 => .int
  | 4 => .array .int
  | 5 => .array .int
  | 6 => .array .int
  | 7 => .array .int
  | 8 => .array .int
  | 9 => .array .long
  | 10 => .array .int
  | 11 => .int
  | 12 => .array .int
  | 13 => .array .int
  | 14 => .array .int
  | 15 => .array .int
  | 16 => .array .long
  | 17 => .long
  | 18 => .int
  | 19 => .int
  | 20 => .int
  | 21 => .int
  | 22 => .int
  | 23 => .int
  | 24 => .int
  | 25 => .long
  | 26 => .int
  | 27 => .array .long
  | 28 => .array .int
  | 29 => .array .long
  | 30 => .array .int
  | 31 => .array .int
  | 32 => .array .long
  | 33 => .array .int
  | 34 => .array .long
  | _ => .array .int
theorem nmX4 : ∀ a, a < 36 → ∀ b, b < 36 → a ≠ b → (TX4 a).2.1 ≠ (TX4 b).2.1 := by decide +kernel
theorem tyX4_ok : ∀ k, k < 36 → parseFieldDescriptor (TX4 k).2.2.1 = some (tyX4 k) := by decide +kernel
abbrev cX4_init : ByteArray := prog_6_method_1_code
def yX4_init : MethodName := ⟨RX4, "<init>", "()V"⟩
abbrev cX4_in : ByteArray := prog_6_method_3_code
def yX4_in : MethodName := ⟨RX4, "in", "(III)Z"⟩
abbrev cX4_isThing : ByteArray := prog_6_method_4_code
def yX4_isThing : MethodName := ⟨RX4, "isThing", "(I)Z"⟩
abbrev cX4_is : ByteArray := prog_6_method_5_code
def yX4_is : MethodName := ⟨RX4, "is", "(II)Z"⟩
abbrev cX4_thing : ByteArray := prog_6_method_6_code
def yX4_thing : MethodName := ⟨RX4, "thing", "(JJJ)I"⟩
abbrev cX4_change : ByteArray := prog_6_method_7_code
def yX4_change : MethodName := ⟨RX4, "change", "(IIJ)I"⟩
abbrev cX4_get : ByteArray := prog_6_method_8_code
def yX4_get : MethodName := ⟨RX4, "get", "(II)J"⟩
abbrev cX4_item : ByteArray := prog_6_method_9_code
def yX4_item : MethodName := ⟨RX4, "item", "(IJ)I"⟩
abbrev cX4_begins : ByteArray := prog_6_method_10_code
def yX4_begins : MethodName := ⟨RX4, "begins", "(IIII)V"⟩
abbrev cX4_tells : ByteArray := prog_6_method_11_code
def yX4_tells : MethodName := ⟨RX4, "tells", "(J)V"⟩
abbrev cX4_goesScale : ByteArray := prog_6_method_12_code
def yX4_goesScale : MethodName := ⟨RX4, "goesScale", "(IIIJ)V"⟩
abbrev cX4_both : ByteArray := prog_6_method_13_code
def yX4_both : MethodName := ⟨RX4, "both", "(IJJ)V"⟩
abbrev cX4_goesSieve : ByteArray := prog_6_method_14_code
def yX4_goesSieve : MethodName := ⟨RX4, "goesSieve", "(IIIJ)V"⟩
abbrev cX4_goesOrder : ByteArray := prog_6_method_15_code
def yX4_goesOrder : MethodName := ⟨RX4, "goesOrder", "(IIJ)V"⟩
abbrev cX4_recovers : ByteArray := prog_6_method_16_code
def yX4_recovers : MethodName := ⟨RX4, "recovers", "()V"⟩
abbrev cX4_ask : ByteArray := prog_6_method_17_code
def yX4_ask : MethodName := ⟨RX4, "ask", "(IIII)Z"⟩
abbrev cX4_startsCall : ByteArray := prog_6_method_18_code
def yX4_startsCall : MethodName := ⟨RX4, "startsCall", "()V"⟩
abbrev cX4_ends : ByteArray := prog_6_method_19_code
def yX4_ends : MethodName := ⟨RX4, "ends", "(I)I"⟩
abbrev cX4_made : ByteArray := prog_6_method_20_code
def yX4_made : MethodName := ⟨RX4, "made", "(IIIIJ)I"⟩
abbrev cX4_scale : ByteArray := prog_6_method_21_code
def yX4_scale : MethodName := ⟨RX4, "scale", "(III)I"⟩
abbrev cX4_sieve : ByteArray := prog_6_method_22_code
def yX4_sieve : MethodName := ⟨RX4, "sieve", "(III)I"⟩
abbrev cX4_order : ByteArray := prog_6_method_23_code
def yX4_order : MethodName := ⟨RX4, "order", "(III)I"⟩
abbrev cX4_all : ByteArray := prog_6_method_24_code
def yX4_all : MethodName := ⟨RX4, "all", "()I"⟩
abbrev cX4_tell : ByteArray := prog_6_method_25_code
def yX4_tell : MethodName := ⟨RX4, "tell", "(II)I"⟩
abbrev cX4_sift : ByteArray := prog_6_method_26_code
def yX4_sift : MethodName := ⟨RX4, "sift", "(I)I"⟩
abbrev cX4_sort : ByteArray := prog_6_method_27_code
def yX4_sort : MethodName := ⟨RX4, "sort", "(I)I"⟩
abbrev cX4_sum : ByteArray := prog_6_method_28_code
def yX4_sum : MethodName := ⟨RX4, "sum", "(I)I"⟩
abbrev cX4_group : ByteArray := prog_6_method_29_code
def yX4_group : MethodName := ⟨RX4, "group", "(II)I"⟩
abbrev cX4_answer : ByteArray := prog_6_method_30_code
def yX4_answer : MethodName := ⟨RX4, "answer", "()J"⟩
abbrev cX4_list : ByteArray := prog_6_method_31_code
def yX4_list : MethodName := ⟨RX4, "list", "(I)I"⟩
abbrev cX4_groups : ByteArray := prog_6_method_32_code
def yX4_groups : MethodName := ⟨RX4, "groups", "(II)J"⟩
abbrev cX4_count : ByteArray := prog_6_method_33_code
def yX4_count : MethodName := ⟨RX4, "count", "(I)I"⟩
def RL : String := "SieveDeskLaw"
abbrev cL_law : ByteArray := code
abbrev vwCl : List vw_C := [(RX0, TX0, 5), (RX1, TX1, 5), (RX2, TX2, 6), (RX3, TX3, 13), (RX4, TX4, 36)]
end
section
theorem dX0_init_0 : decode cX0_init 0 = .ok (.aload_n 0, 1) := by decide +kernel
theorem dX0_init_1 : decode cX0_init 1 = .ok (.invokespecial 3, 3) := by decide +kernel
theorem dX0_init_4 : decode cX0_init 4 = .ok (.aload_n 0, 1) := by decide +kernel
theorem dX0_init_5 : decode cX0_init 5 = .ok (.bipush 40, 2) := by decide +kernel
theorem dX0_init_7 : decode cX0_init 7 = .ok (.newarray .long, 2) := by decide +kernel
theorem dX0_init_9 : decode cX0_init 9 = .ok (.putfield 9, 3) := by decide +kernel
theorem dX0_init_12 : decode cX0_init 12 = .ok (.aload_n 0, 1) := by decide +kernel
theorem dX0_init_13 : decode cX0_init 13 = .ok (.bipush 40, 2) := by decide +kernel
theorem dX0_init_15 : decode cX0_init 15 = .ok (.newarray .int, 2) := by decide +kernel
theorem dX0_init_17 : decode cX0_init 17 = .ok (.putfield 15, 3) := by decide +kernel
theorem dX0_init_20 : decode cX0_init 20 = .ok (.aload_n 0, 1) := by decide +kernel
theorem dX0_init_21 : decode cX0_init 21 = .ok (.bipush 40, 2) := by decide +kernel
theorem dX0_init_23 : decode cX0_init 23 = .ok (.newarray .long, 2) := by decide +kernel
theorem dX0_init_25 : decode cX0_init 25 = .ok (.putfield 19, 3) := by decide +kernel
theorem dX0_init_28 : decode cX0_init 28 = .ok (.aload_n 0, 1) := by decide +kernel
theorem dX0_init_29 : decode cX0_init 29 = .ok (.bipush 40, 2) := by decide +kernel
theorem dX0_init_31 : decode cX0_init 31 = .ok (.newarray .int, 2) := by decide +kernel
theorem dX0_init_33 : decode cX0_init 33 = .ok (.putfield 22, 3) := by decide +kernel
theorem dX0_init_36 : decode cX0_init 36 = .ok (.aload_n 0, 1) := by decide +kernel
theorem dX0_init_37 : decode cX0_init 37 = .ok (.iconst 0, 1) := by decide +kernel
theorem dX0_init_38 : decode cX0_init 38 = .ok (.putfield 25, 3) := by decide +kernel
theorem dX0_init_41 : decode cX0_init 41 = .ok (.return_, 1) := by decide +kernel
theorem dX0_clear_0 : decode cX0_clear 0 = .ok (.aload_n 0, 1) := by decide +kernel
theorem dX0_clear_1 : decode cX0_clear 1 = .ok (.iconst 0, 1) := by decide +kernel
theorem dX0_clear_2 : decode cX0_clear 2 = .ok (.putfield 25, 3) := by decide +kernel
theorem dX0_clear_5 : decode cX0_clear 5 = .ok (.return_, 1) := by decide +kernel
theorem dX0_add_0 : decode cX0_add 0 = .ok (.aload_n 0, 1) := by decide +kernel
theorem dX0_add_1 : decode cX0_add 1 = .ok (.lload_n 1, 1) := by decide +kernel
theorem dX0_add_2 : decode cX0_add 2 = .ok (.invokevirtual 29, 3) := by decide +kernel
theorem dX0_add_5 : decode cX0_add 5 = .ok (.istore 6, 2) := by decide +kernel
theorem dX0_add_7 : decode cX0_add 7 = .ok (.iload 6, 2) := by decide +kernel
theorem dX0_add_9 : decode cX0_add 9 = .ok (.aload_n 0, 1) := by decide +kernel
theorem dX0_add_10 : decode cX0_add 10 = .ok (.getfield 25, 3) := by decide +kernel
theorem dX0_add_13 : decode cX0_add 13 = .ok (.if_icmp .ne 46, 3) := by decide +kernel
theorem dX0_add_16 : decode cX0_add 16 = .ok (.aload_n 0, 1) := by decide +kernel
theorem dX0_add_17 : decode cX0_add 17 = .ok (.getfield 9, 3) := by decide +kernel
theorem dX0_add_20 : decode cX0_add 20 = .ok (.iload 6, 2) := by decide +kernel
theorem dX0_add_22 : decode cX0_add 22 = .ok (.lload_n 1, 1) := by decide +kernel
theorem dX0_add_23 : decode cX0_add 23 = .ok (.lastore, 1) := by decide +kernel
theorem dX0_add_24 : decode cX0_add 24 = .ok (.aload_n 0, 1) := by decide +kernel
theorem dX0_add_25 : decode cX0_add 25 = .ok (.getfield 15, 3) := by decide +kernel
theorem dX0_add_28 : decode cX0_add 28 = .ok (.iload 6, 2) := by decide +kernel
theorem dX0_add_30 : decode cX0_add 30 = .ok (.iconst 0, 1) := by decide +kernel
theorem dX0_add_31 : decode cX0_add 31 = .ok (.iastore, 1) := by decide +kernel
theorem dX0_add_32 : decode cX0_add 32 = .ok (.aload_n 0, 1) := by decide +kernel
theorem dX0_add_33 : decode cX0_add 33 = .ok (.getfield 19, 3) := by decide +kernel
theorem dX0_add_36 : decode cX0_add 36 = .ok (.iload 6, 2) := by decide +kernel
theorem dX0_add_38 : decode cX0_add 38 = .ok (.lconst 0, 1) := by decide +kernel
theorem dX0_add_39 : decode cX0_add 39 = .ok (.lastore, 1) := by decide +kernel
theorem dX0_add_40 : decode cX0_add 40 = .ok (.aload_n 0, 1) := by decide +kernel
theorem dX0_add_41 : decode cX0_add 41 = .ok (.getfield 22, 3) := by decide +kernel
theorem dX0_add_44 : decode cX0_add 44 = .ok (.iload 6, 2) := by decide +kernel
theorem dX0_add_46 : decode cX0_add 46 = .ok (.iload 5, 2) := by decide +kernel
theorem dX0_add_48 : decode cX0_add 48 = .ok (.iastore, 1) := by decide +kernel
theorem dX0_add_49 : decode cX0_add 49 = .ok (.aload_n 0, 1) := by decide +kernel
theorem dX0_add_50 : decode cX0_add 50 = .ok (.dup, 1) := by decide +kernel
theorem dX0_add_51 : decode cX0_add 51 = .ok (.getfield 25, 3) := by decide +kernel
theorem dX0_add_54 : decode cX0_add 54 = .ok (.iconst 1, 1) := by decide +kernel
theorem dX0_add_55 : decode cX0_add 55 = .ok (.iadd, 1) := by decide +kernel
theorem dX0_add_56 : decode cX0_add 56 = .ok (.putfield 25, 3) := by decide +kernel
theorem dX0_add_59 : decode cX0_add 59 = .ok (.aload_n 0, 1) := by decide +kernel
theorem dX0_add_60 : decode cX0_add 60 = .ok (.getfield 15, 3) := by decide +kernel
theorem dX0_add_63 : decode cX0_add 63 = .ok (.iload 6, 2) := by decide +kernel
theorem dX0_add_65 : decode cX0_add 65 = .ok (.dup2, 1) := by decide +kernel
theorem dX0_add_66 : decode cX0_add 66 = .ok (.iaload, 1) := by decide +kernel
theorem dX0_add_67 : decode cX0_add 67 = .ok (.iconst 1, 1) := by decide +kernel
theorem dX0_add_68 : decode cX0_add 68 = .ok (.iadd, 1) := by decide +kernel
theorem dX0_add_69 : decode cX0_add 69 = .ok (.iastore, 1) := by decide +kernel
theorem dX0_add_70 : decode cX0_add 70 = .ok (.aload_n 0, 1) := by decide +kernel
theorem dX0_add_71 : decode cX0_add 71 = .ok (.getfield 19, 3) := by decide +kernel
theorem dX0_add_74 : decode cX0_add 74 = .ok (.iload 6, 2) := by decide +kernel
theorem dX0_add_76 : decode cX0_add 76 = .ok (.dup2, 1) := by decide +kernel
theorem dX0_add_77 : decode cX0_add 77 = .ok (.laload, 1) := by decide +kernel
theorem dX0_add_78 : decode cX0_add 78 = .ok (.lload_n 3, 1) := by decide +kernel
theorem dX0_add_79 : decode cX0_add 79 = .ok (.ladd, 1) := by decide +kernel
theorem dX0_add_80 : decode cX0_add 80 = .ok (.lastore, 1) := by decide +kernel
theorem dX0_add_81 : decode cX0_add 81 = .ok (.return_, 1) := by decide +kernel
theorem dX0_tellOf_0 : decode cX0_tellOf 0 = .ok (.iload_n 1, 1) := by decide +kernel
theorem dX0_tellOf_1 : decode cX0_tellOf 1 = .ok (.ifCond .lt 11, 3) := by decide +kernel
theorem dX0_tellOf_4 : decode cX0_tellOf 4 = .ok (.iload_n 1, 1) := by decide +kernel
theorem dX0_tellOf_5 : decode cX0_tellOf 5 = .ok (.aload_n 0, 1) := by decide +kernel
theorem dX0_tellOf_6 : decode cX0_tellOf 6 = .ok (.getfield 25, 3) := by decide +kernel
theorem dX0_tellOf_9 : decode cX0_tellOf 9 = .ok (.if_icmp .lt 5, 3) := by decide +kernel
theorem dX0_tellOf_12 : decode cX0_tellOf 12 = .ok (.lconst 0, 1) := by decide +kernel
theorem dX0_tellOf_13 : decode cX0_tellOf 13 = .ok (.lreturn, 1) := by decide +kernel
theorem dX0_tellOf_14 : decode cX0_tellOf 14 = .ok (.iload_n 2, 1) := by decide +kernel
theorem dX0_tellOf_15 : decode cX0_tellOf 15 = .ok (.tableswitch 59 0 3 #[29, 36, 44, 51], 29) := by decide +kernel
theorem dX0_tellOf_44 : decode cX0_tellOf 44 = .ok (.aload_n 0, 1) := by decide +kernel
theorem dX0_tellOf_45 : decode cX0_tellOf 45 = .ok (.getfield 9, 3) := by decide +kernel
theorem dX0_tellOf_48 : decode cX0_tellOf 48 = .ok (.iload_n 1, 1) := by decide +kernel
theorem dX0_tellOf_49 : decode cX0_tellOf 49 = .ok (.laload, 1) := by decide +kernel
theorem dX0_tellOf_50 : decode cX0_tellOf 50 = .ok (.lreturn, 1) := by decide +kernel
theorem dX0_tellOf_51 : decode cX0_tellOf 51 = .ok (.aload_n 0, 1) := by decide +kernel
theorem dX0_tellOf_52 : decode cX0_tellOf 52 = .ok (.getfield 15, 3) := by decide +kernel
theorem dX0_tellOf_55 : decode cX0_tellOf 55 = .ok (.iload_n 1, 1) := by decide +kernel
theorem dX0_tellOf_56 : decode cX0_tellOf 56 = .ok (.iaload, 1) := by decide +kernel
theorem dX0_tellOf_57 : decode cX0_tellOf 57 = .ok (.i2l, 1) := by decide +kernel
theorem dX0_tellOf_58 : decode cX0_tellOf 58 = .ok (.lreturn, 1) := by decide +kernel
theorem dX0_tellOf_59 : decode cX0_tellOf 59 = .ok (.aload_n 0, 1) := by decide +kernel
theorem dX0_tellOf_60 : decode cX0_tellOf 60 = .ok (.getfield 19, 3) := by decide +kernel
theorem dX0_tellOf_63 : decode cX0_tellOf 63 = .ok (.iload_n 1, 1) := by decide +kernel
theorem dX0_tellOf_64 : decode cX0_tellOf 64 = .ok (.laload, 1) := by decide +kernel
theorem dX0_tellOf_65 : decode cX0_tellOf 65 = .ok (.lreturn, 1) := by decide +kernel
theorem dX0_tellOf_66 : decode cX0_tellOf 66 = .ok (.aload_n 0, 1) := by decide +kernel
theorem dX0_tellOf_67 : decode cX0_tellOf 67 = .ok (.getfield 22, 3) := by decide +kernel
theorem dX0_tellOf_70 : decode cX0_tellOf 70 = .ok (.iload_n 1, 1) := by decide +kernel
theorem dX0_tellOf_71 : decode cX0_tellOf 71 = .ok (.iaload, 1) := by decide +kernel
theorem dX0_tellOf_72 : decode cX0_tellOf 72 = .ok (.i2l, 1) := by decide +kernel
theorem dX0_tellOf_73 : decode cX0_tellOf 73 = .ok (.lreturn, 1) := by decide +kernel
theorem dX0_tellOf_74 : decode cX0_tellOf 74 = .ok (.lconst 0, 1) := by decide +kernel
theorem dX0_tellOf_75 : decode cX0_tellOf 75 = .ok (.lreturn, 1) := by decide +kernel
theorem dX0_placeOf_0 : decode cX0_placeOf 0 = .ok (.iconst 0, 1) := by decide +kernel
theorem dX0_placeOf_1 : decode cX0_placeOf 1 = .ok (.istore_n 3, 1) := by decide +kernel
theorem dX0_placeOf_2 : decode cX0_placeOf 2 = .ok (.iload_n 3, 1) := by decide +kernel
theorem dX0_placeOf_3 : decode cX0_placeOf 3 = .ok (.aload_n 0, 1) := by decide +kernel
theorem dX0_placeOf_4 : decode cX0_placeOf 4 = .ok (.getfield 25, 3) := by decide +kernel
theorem dX0_placeOf_7 : decode cX0_placeOf 7 = .ok (.if_icmp .ge 22, 3) := by decide +kernel
theorem dX0_placeOf_10 : decode cX0_placeOf 10 = .ok (.aload_n 0, 1) := by decide +kernel
theorem dX0_placeOf_11 : decode cX0_placeOf 11 = .ok (.getfield 9, 3) := by decide +kernel
theorem dX0_placeOf_14 : decode cX0_placeOf 14 = .ok (.iload_n 3, 1) := by decide +kernel
theorem dX0_placeOf_15 : decode cX0_placeOf 15 = .ok (.laload, 1) := by decide +kernel
theorem dX0_placeOf_16 : decode cX0_placeOf 16 = .ok (.lload_n 1, 1) := by decide +kernel
theorem dX0_placeOf_17 : decode cX0_placeOf 17 = .ok (.lcmp, 1) := by decide +kernel
theorem dX0_placeOf_18 : decode cX0_placeOf 18 = .ok (.ifCond .ne 5, 3) := by decide +kernel
theorem dX0_placeOf_21 : decode cX0_placeOf 21 = .ok (.iload_n 3, 1) := by decide +kernel
theorem dX0_placeOf_22 : decode cX0_placeOf 22 = .ok (.ireturn, 1) := by decide +kernel
theorem dX0_placeOf_23 : decode cX0_placeOf 23 = .ok (.iinc 3 1, 3) := by decide +kernel
theorem dX0_placeOf_26 : decode cX0_placeOf 26 = .ok (.goto (-24), 3) := by decide +kernel
theorem dX0_placeOf_29 : decode cX0_placeOf 29 = .ok (.aload_n 0, 1) := by decide +kernel
theorem dX0_placeOf_30 : decode cX0_placeOf 30 = .ok (.getfield 25, 3) := by decide +kernel
theorem dX0_placeOf_33 : decode cX0_placeOf 33 = .ok (.ireturn, 1) := by decide +kernel
theorem dX1_init_0 : decode cX1_init 0 = .ok (.aload_n 0, 1) := by decide +kernel
theorem dX1_init_1 : decode cX1_init 1 = .ok (.invokespecial 1, 3) := by decide +kernel
theorem dX1_init_4 : decode cX1_init 4 = .ok (.aload_n 0, 1) := by decide +kernel
theorem dX1_init_5 : decode cX1_init 5 = .ok (.bipush 24, 2) := by decide +kernel
theorem dX1_init_7 : decode cX1_init 7 = .ok (.newarray .int, 2) := by decide +kernel
theorem dX1_init_9 : decode cX1_init 9 = .ok (.putfield 9, 3) := by decide +kernel
theorem dX1_init_12 : decode cX1_init 12 = .ok (.aload_n 0, 1) := by decide +kernel
theorem dX1_init_13 : decode cX1_init 13 = .ok (.bipush 24, 2) := by decide +kernel
theorem dX1_init_15 : decode cX1_init 15 = .ok (.newarray .int, 2) := by decide +kernel
theorem dX1_init_17 : decode cX1_init 17 = .ok (.putfield 13, 3) := by decide +kernel
theorem dX1_init_20 : decode cX1_init 20 = .ok (.aload_n 0, 1) := by decide +kernel
theorem dX1_init_21 : decode cX1_init 21 = .ok (.bipush 24, 2) := by decide +kernel
theorem dX1_init_23 : decode cX1_init 23 = .ok (.newarray .int, 2) := by decide +kernel
theorem dX1_init_25 : decode cX1_init 25 = .ok (.putfield 16, 3) := by decide +kernel
theorem dX1_init_28 : decode cX1_init 28 = .ok (.aload_n 0, 1) := by decide +kernel
theorem dX1_init_29 : decode cX1_init 29 = .ok (.bipush 24, 2) := by decide +kernel
theorem dX1_init_31 : decode cX1_init 31 = .ok (.newarray .long, 2) := by decide +kernel
theorem dX1_init_33 : decode cX1_init 33 = .ok (.putfield 19, 3) := by decide +kernel
theorem dX1_init_36 : decode cX1_init 36 = .ok (.aload_n 0, 1) := by decide +kernel
theorem dX1_init_37 : decode cX1_init 37 = .ok (.iconst 0, 1) := by decide +kernel
theorem dX1_init_38 : decode cX1_init 38 = .ok (.putfield 23, 3) := by decide +kernel
theorem dX1_init_41 : decode cX1_init 41 = .ok (.return_, 1) := by decide +kernel
theorem dX1_has_0 : decode cX1_has 0 = .ok (.iload_n 1, 1) := by decide +kernel
theorem dX1_has_1 : decode cX1_has 1 = .ok (.ifCond .lt 15, 3) := by decide +kernel
theorem dX1_has_4 : decode cX1_has 4 = .ok (.iload_n 1, 1) := by decide +kernel
theorem dX1_has_5 : decode cX1_has 5 = .ok (.aload_n 0, 1) := by decide +kernel
theorem dX1_has_6 : decode cX1_has 6 = .ok (.getfield 23, 3) := by decide +kernel
theorem dX1_has_9 : decode cX1_has 9 = .ok (.if_icmp .ge 7, 3) := by decide +kernel
theorem dX1_has_12 : decode cX1_has 12 = .ok (.iconst 1, 1) := by decide +kernel
theorem dX1_has_13 : decode cX1_has 13 = .ok (.goto 4, 3) := by decide +kernel
theorem dX1_has_16 : decode cX1_has 16 = .ok (.iconst 0, 1) := by decide +kernel
theorem dX1_has_17 : decode cX1_has 17 = .ok (.ireturn, 1) := by decide +kernel
theorem dX1_isFull_0 : decode cX1_isFull 0 = .ok (.aload_n 0, 1) := by decide +kernel
theorem dX1_isFull_1 : decode cX1_isFull 1 = .ok (.getfield 23, 3) := by decide +kernel
theorem dX1_isFull_4 : decode cX1_isFull 4 = .ok (.bipush 24, 2) := by decide +kernel
theorem dX1_isFull_6 : decode cX1_isFull 6 = .ok (.if_icmp .lt 7, 3) := by decide +kernel
theorem dX1_isFull_9 : decode cX1_isFull 9 = .ok (.iconst 1, 1) := by decide +kernel
theorem dX1_isFull_10 : decode cX1_isFull 10 = .ok (.goto 4, 3) := by decide +kernel
theorem dX1_isFull_13 : decode cX1_isFull 13 = .ok (.iconst 0, 1) := by decide +kernel
theorem dX1_isFull_14 : decode cX1_isFull 14 = .ok (.ireturn, 1) := by decide +kernel
theorem dX1_make_0 : decode cX1_make 0 = .ok (.aload_n 0, 1) := by decide +kernel
theorem dX1_make_1 : decode cX1_make 1 = .ok (.getfield 23, 3) := by decide +kernel
theorem dX1_make_4 : decode cX1_make 4 = .ok (.istore 6, 2) := by decide +kernel
theorem dX1_make_6 : decode cX1_make 6 = .ok (.aload_n 0, 1) := by decide +kernel
theorem dX1_make_7 : decode cX1_make 7 = .ok (.getfield 9, 3) := by decide +kernel
theorem dX1_make_10 : decode cX1_make 10 = .ok (.iload 6, 2) := by decide +kernel
theorem dX1_make_12 : decode cX1_make 12 = .ok (.iload_n 1, 1) := by decide +kernel
theorem dX1_make_13 : decode cX1_make 13 = .ok (.iastore, 1) := by decide +kernel
theorem dX1_make_14 : decode cX1_make 14 = .ok (.aload_n 0, 1) := by decide +kernel
theorem dX1_make_15 : decode cX1_make 15 = .ok (.getfield 13, 3) := by decide +kernel
theorem dX1_make_18 : decode cX1_make 18 = .ok (.iload 6, 2) := by decide +kernel
theorem dX1_make_20 : decode cX1_make 20 = .ok (.iload_n 2, 1) := by decide +kernel
theorem dX1_make_21 : decode cX1_make 21 = .ok (.iastore, 1) := by decide +kernel
theorem dX1_make_22 : decode cX1_make 22 = .ok (.aload_n 0, 1) := by decide +kernel
theorem dX1_make_23 : decode cX1_make 23 = .ok (.getfield 16, 3) := by decide +kernel
theorem dX1_make_26 : decode cX1_make 26 = .ok (.iload 6, 2) := by decide +kernel
theorem dX1_make_28 : decode cX1_make 28 = .ok (.iload_n 3, 1) := by decide +kernel
theorem dX1_make_29 : decode cX1_make 29 = .ok (.iastore, 1) := by decide +kernel
theorem dX1_make_30 : decode cX1_make 30 = .ok (.aload_n 0, 1) := by decide +kernel
theorem dX1_make_31 : decode cX1_make 31 = .ok (.getfield 19, 3) := by decide +kernel
theorem dX1_make_34 : decode cX1_make 34 = .ok (.iload 6, 2) := by decide +kernel
theorem dX1_make_36 : decode cX1_make 36 = .ok (.lload 4, 2) := by decide +kernel
theorem dX1_make_38 : decode cX1_make 38 = .ok (.lastore, 1) := by decide +kernel
theorem dX1_make_39 : decode cX1_make 39 = .ok (.aload_n 0, 1) := by decide +kernel
theorem dX1_make_40 : decode cX1_make 40 = .ok (.dup, 1) := by decide +kernel
theorem dX1_make_41 : decode cX1_make 41 = .ok (.getfield 23, 3) := by decide +kernel
theorem dX1_make_44 : decode cX1_make 44 = .ok (.iconst 1, 1) := by decide +kernel
theorem dX1_make_45 : decode cX1_make 45 = .ok (.iadd, 1) := by decide +kernel
theorem dX1_make_46 : decode cX1_make 46 = .ok (.putfield 23, 3) := by decide +kernel
theorem dX1_make_49 : decode cX1_make 49 = .ok (.iload 6, 2) := by decide +kernel
theorem dX1_make_51 : decode cX1_make 51 = .ok (.ireturn, 1) := by decide +kernel
theorem dX1_countAsked_0 : decode cX1_countAsked 0 = .ok (.aload_n 0, 1) := by decide +kernel
theorem dX1_countAsked_1 : decode cX1_countAsked 1 = .ok (.getfield 19, 3) := by decide +kernel
theorem dX1_countAsked_4 : decode cX1_countAsked 4 = .ok (.iload_n 1, 1) := by decide +kernel
theorem dX1_countAsked_5 : decode cX1_countAsked 5 = .ok (.dup2, 1) := by decide +kernel
theorem dX1_countAsked_6 : decode cX1_countAsked 6 = .ok (.laload, 1) := by decide +kernel
theorem dX1_countAsked_7 : decode cX1_countAsked 7 = .ok (.lconst 1, 1) := by decide +kernel
theorem dX1_countAsked_8 : decode cX1_countAsked 8 = .ok (.ladd, 1) := by decide +kernel
theorem dX1_countAsked_9 : decode cX1_countAsked 9 = .ok (.lastore, 1) := by decide +kernel
theorem dX1_countAsked_10 : decode cX1_countAsked 10 = .ok (.aload_n 0, 1) := by decide +kernel
theorem dX1_countAsked_11 : decode cX1_countAsked 11 = .ok (.getfield 19, 3) := by decide +kernel
theorem dX1_countAsked_14 : decode cX1_countAsked 14 = .ok (.iload_n 1, 1) := by decide +kernel
theorem dX1_countAsked_15 : decode cX1_countAsked 15 = .ok (.laload, 1) := by decide +kernel
theorem dX1_countAsked_16 : decode cX1_countAsked 16 = .ok (.lreturn, 1) := by decide +kernel
theorem dX2_init_0 : decode cX2_init 0 = .ok (.aload_n 0, 1) := by decide +kernel
theorem dX2_init_1 : decode cX2_init 1 = .ok (.invokespecial 3, 3) := by decide +kernel
theorem dX2_init_4 : decode cX2_init 4 = .ok (.aload_n 0, 1) := by decide +kernel
theorem dX2_init_5 : decode cX2_init 5 = .ok (.iconst 0, 1) := by decide +kernel
theorem dX2_init_6 : decode cX2_init 6 = .ok (.putfield 9, 3) := by decide +kernel
theorem dX2_init_9 : decode cX2_init 9 = .ok (.aload_n 0, 1) := by decide +kernel
theorem dX2_init_10 : decode cX2_init 10 = .ok (.iconst 0, 1) := by decide +kernel
theorem dX2_init_11 : decode cX2_init 11 = .ok (.putfield 15, 3) := by decide +kernel
theorem dX2_init_14 : decode cX2_init 14 = .ok (.aload_n 0, 1) := by decide +kernel
theorem dX2_init_15 : decode cX2_init 15 = .ok (.iconst 0, 1) := by decide +kernel
theorem dX2_init_16 : decode cX2_init 16 = .ok (.putfield 18, 3) := by decide +kernel
theorem dX2_init_19 : decode cX2_init 19 = .ok (.aload_n 0, 1) := by decide +kernel
theorem dX2_init_20 : decode cX2_init 20 = .ok (.iconst 0, 1) := by decide +kernel
theorem dX2_init_21 : decode cX2_init 21 = .ok (.putfield 21, 3) := by decide +kernel
theorem dX2_init_24 : decode cX2_init 24 = .ok (.aload_n 0, 1) := by decide +kernel
theorem dX2_init_25 : decode cX2_init 25 = .ok (.iconst 0, 1) := by decide +kernel
theorem dX2_init_26 : decode cX2_init 26 = .ok (.putfield 24, 3) := by decide +kernel
theorem dX2_init_29 : decode cX2_init 29 = .ok (.aload_n 0, 1) := by decide +kernel
theorem dX2_init_30 : decode cX2_init 30 = .ok (.iconst 0, 1) := by decide +kernel
theorem dX2_init_31 : decode cX2_init 31 = .ok (.putfield 27, 3) := by decide +kernel
theorem dX2_init_34 : decode cX2_init 34 = .ok (.return_, 1) := by decide +kernel
theorem dX2_opensCall_0 : decode cX2_opensCall 0 = .ok (.aload_n 0, 1) := by decide +kernel
theorem dX2_opensCall_1 : decode cX2_opensCall 1 = .ok (.getfield 18, 3) := by decide +kernel
theorem dX2_opensCall_4 : decode cX2_opensCall 4 = .ok (.sipush 2000, 3) := by decide +kernel
theorem dX2_opensCall_7 : decode cX2_opensCall 7 = .ok (.if_icmp .lt 5, 3) := by decide +kernel
theorem dX2_opensCall_10 : decode cX2_opensCall 10 = .ok (.iconst 0, 1) := by decide +kernel
theorem dX2_opensCall_11 : decode cX2_opensCall 11 = .ok (.ireturn, 1) := by decide +kernel
theorem dX2_opensCall_12 : decode cX2_opensCall 12 = .ok (.aload_n 0, 1) := by decide +kernel
theorem dX2_opensCall_13 : decode cX2_opensCall 13 = .ok (.iconst 0, 1) := by decide +kernel
theorem dX2_opensCall_14 : decode cX2_opensCall 14 = .ok (.putfield 9, 3) := by decide +kernel
theorem dX2_opensCall_17 : decode cX2_opensCall 17 = .ok (.aload_n 0, 1) := by decide +kernel
theorem dX2_opensCall_18 : decode cX2_opensCall 18 = .ok (.iconst 0, 1) := by decide +kernel
theorem dX2_opensCall_19 : decode cX2_opensCall 19 = .ok (.putfield 27, 3) := by decide +kernel
theorem dX2_opensCall_22 : decode cX2_opensCall 22 = .ok (.iconst 1, 1) := by decide +kernel
theorem dX2_opensCall_23 : decode cX2_opensCall 23 = .ok (.ireturn, 1) := by decide +kernel
theorem dX2_beginsAsking_0 : decode cX2_beginsAsking 0 = .ok (.aload_n 0, 1) := by decide +kernel
theorem dX2_beginsAsking_1 : decode cX2_beginsAsking 1 = .ok (.invokevirtual 30, 3) := by decide +kernel
theorem dX2_beginsAsking_4 : decode cX2_beginsAsking 4 = .ok (.ifCond .eq 5, 3) := by decide +kernel
theorem dX2_beginsAsking_7 : decode cX2_beginsAsking 7 = .ok (.iconst 0, 1) := by decide +kernel
theorem dX2_beginsAsking_8 : decode cX2_beginsAsking 8 = .ok (.ireturn, 1) := by decide +kernel
theorem dX2_beginsAsking_9 : decode cX2_beginsAsking 9 = .ok (.aload_n 0, 1) := by decide +kernel
theorem dX2_beginsAsking_10 : decode cX2_beginsAsking 10 = .ok (.getfield 9, 3) := by decide +kernel
theorem dX2_beginsAsking_13 : decode cX2_beginsAsking 13 = .ok (.sipush 2000, 3) := by decide +kernel
theorem dX2_beginsAsking_16 : decode cX2_beginsAsking 16 = .ok (.if_icmp .lt 10, 3) := by decide +kernel
theorem dX2_beginsAsking_19 : decode cX2_beginsAsking 19 = .ok (.aload_n 0, 1) := by decide +kernel
theorem dX2_beginsAsking_20 : decode cX2_beginsAsking 20 = .ok (.iconst 4, 1) := by decide +kernel
theorem dX2_beginsAsking_21 : decode cX2_beginsAsking 21 = .ok (.invokevirtual 34, 3) := by decide +kernel
theorem dX2_beginsAsking_24 : decode cX2_beginsAsking 24 = .ok (.iconst 0, 1) := by decide +kernel
theorem dX2_beginsAsking_25 : decode cX2_beginsAsking 25 = .ok (.ireturn, 1) := by decide +kernel
theorem dX2_beginsAsking_26 : decode cX2_beginsAsking 26 = .ok (.aload_n 0, 1) := by decide +kernel
theorem dX2_beginsAsking_27 : decode cX2_beginsAsking 27 = .ok (.dup, 1) := by decide +kernel
theorem dX2_beginsAsking_28 : decode cX2_beginsAsking 28 = .ok (.getfield 9, 3) := by decide +kernel
theorem dX2_beginsAsking_31 : decode cX2_beginsAsking 31 = .ok (.iconst 1, 1) := by decide +kernel
theorem dX2_beginsAsking_32 : decode cX2_beginsAsking 32 = .ok (.iadd, 1) := by decide +kernel
theorem dX2_beginsAsking_33 : decode cX2_beginsAsking 33 = .ok (.putfield 9, 3) := by decide +kernel
theorem dX2_beginsAsking_36 : decode cX2_beginsAsking 36 = .ok (.aload_n 0, 1) := by decide +kernel
theorem dX2_beginsAsking_37 : decode cX2_beginsAsking 37 = .ok (.dup, 1) := by decide +kernel
theorem dX2_beginsAsking_38 : decode cX2_beginsAsking 38 = .ok (.getfield 15, 3) := by decide +kernel
theorem dX2_beginsAsking_41 : decode cX2_beginsAsking 41 = .ok (.iconst 1, 1) := by decide +kernel
theorem dX2_beginsAsking_42 : decode cX2_beginsAsking 42 = .ok (.iadd, 1) := by decide +kernel
theorem dX2_beginsAsking_43 : decode cX2_beginsAsking 43 = .ok (.putfield 15, 3) := by decide +kernel
theorem dX2_beginsAsking_46 : decode cX2_beginsAsking 46 = .ok (.iconst 1, 1) := by decide +kernel
theorem dX2_beginsAsking_47 : decode cX2_beginsAsking 47 = .ok (.ireturn, 1) := by decide +kernel
theorem dX2_hasFailure_0 : decode cX2_hasFailure 0 = .ok (.aload_n 0, 1) := by decide +kernel
theorem dX2_hasFailure_1 : decode cX2_hasFailure 1 = .ok (.getfield 27, 3) := by decide +kernel
theorem dX2_hasFailure_4 : decode cX2_hasFailure 4 = .ok (.ifCond .eq 7, 3) := by decide +kernel
theorem dX2_hasFailure_7 : decode cX2_hasFailure 7 = .ok (.iconst 1, 1) := by decide +kernel
theorem dX2_hasFailure_8 : decode cX2_hasFailure 8 = .ok (.goto 4, 3) := by decide +kernel
theorem dX2_hasFailure_11 : decode cX2_hasFailure 11 = .ok (.iconst 0, 1) := by decide +kernel
theorem dX2_hasFailure_12 : decode cX2_hasFailure 12 = .ok (.ireturn, 1) := by decide +kernel
theorem dX2_fail_0 : decode cX2_fail 0 = .ok (.aload_n 0, 1) := by decide +kernel
theorem dX2_fail_1 : decode cX2_fail 1 = .ok (.invokevirtual 30, 3) := by decide +kernel
theorem dX2_fail_4 : decode cX2_fail 4 = .ok (.ifCond .ne 8, 3) := by decide +kernel
theorem dX2_fail_7 : decode cX2_fail 7 = .ok (.aload_n 0, 1) := by decide +kernel
theorem dX2_fail_8 : decode cX2_fail 8 = .ok (.iload_n 1, 1) := by decide +kernel
theorem dX2_fail_9 : decode cX2_fail 9 = .ok (.putfield 27, 3) := by decide +kernel
theorem dX2_fail_12 : decode cX2_fail 12 = .ok (.return_, 1) := by decide +kernel
theorem dX2_meetsFailure_0 : decode cX2_meetsFailure 0 = .ok (.aload_n 0, 1) := by decide +kernel
theorem dX2_meetsFailure_1 : decode cX2_meetsFailure 1 = .ok (.invokevirtual 30, 3) := by decide +kernel
theorem dX2_meetsFailure_4 : decode cX2_meetsFailure 4 = .ok (.ifCond .eq 11, 3) := by decide +kernel
theorem dX2_meetsFailure_7 : decode cX2_meetsFailure 7 = .ok (.aload_n 0, 1) := by decide +kernel
theorem dX2_meetsFailure_8 : decode cX2_meetsFailure 8 = .ok (.getfield 27, 3) := by decide +kernel
theorem dX2_meetsFailure_11 : decode cX2_meetsFailure 11 = .ok (.iconst 4, 1) := by decide +kernel
theorem dX2_meetsFailure_12 : decode cX2_meetsFailure 12 = .ok (.if_icmp .ne 5, 3) := by decide +kernel
theorem dX2_meetsFailure_15 : decode cX2_meetsFailure 15 = .ok (.iconst 0, 1) := by decide +kernel
theorem dX2_meetsFailure_16 : decode cX2_meetsFailure 16 = .ok (.ireturn, 1) := by decide +kernel
theorem dX2_meetsFailure_17 : decode cX2_meetsFailure 17 = .ok (.aload_n 0, 1) := by decide +kernel
theorem dX2_meetsFailure_18 : decode cX2_meetsFailure 18 = .ok (.iconst 0, 1) := by decide +kernel
theorem dX2_meetsFailure_19 : decode cX2_meetsFailure 19 = .ok (.putfield 27, 3) := by decide +kernel
theorem dX2_meetsFailure_22 : decode cX2_meetsFailure 22 = .ok (.aload_n 0, 1) := by decide +kernel
theorem dX2_meetsFailure_23 : decode cX2_meetsFailure 23 = .ok (.dup, 1) := by decide +kernel
theorem dX2_meetsFailure_24 : decode cX2_meetsFailure 24 = .ok (.getfield 18, 3) := by decide +kernel
theorem dX2_meetsFailure_27 : decode cX2_meetsFailure 27 = .ok (.iconst 1, 1) := by decide +kernel
theorem dX2_meetsFailure_28 : decode cX2_meetsFailure 28 = .ok (.iadd, 1) := by decide +kernel
theorem dX2_meetsFailure_29 : decode cX2_meetsFailure 29 = .ok (.putfield 18, 3) := by decide +kernel
theorem dX2_meetsFailure_32 : decode cX2_meetsFailure 32 = .ok (.iconst 1, 1) := by decide +kernel
theorem dX2_meetsFailure_33 : decode cX2_meetsFailure 33 = .ok (.ireturn, 1) := by decide +kernel
theorem dX2_endFailedCall_0 : decode cX2_endFailedCall 0 = .ok (.aload_n 0, 1) := by decide +kernel
theorem dX2_endFailedCall_1 : decode cX2_endFailedCall 1 = .ok (.dup, 1) := by decide +kernel
theorem dX2_endFailedCall_2 : decode cX2_endFailedCall 2 = .ok (.getfield 18, 3) := by decide +kernel
theorem dX2_endFailedCall_5 : decode cX2_endFailedCall 5 = .ok (.iconst 1, 1) := by decide +kernel
theorem dX2_endFailedCall_6 : decode cX2_endFailedCall 6 = .ok (.iadd, 1) := by decide +kernel
theorem dX2_endFailedCall_7 : decode cX2_endFailedCall 7 = .ok (.putfield 18, 3) := by decide +kernel
theorem dX2_endFailedCall_10 : decode cX2_endFailedCall 10 = .ok (.aload_n 0, 1) := by decide +kernel
theorem dX2_endFailedCall_11 : decode cX2_endFailedCall 11 = .ok (.dup, 1) := by decide +kernel
theorem dX2_endFailedCall_12 : decode cX2_endFailedCall 12 = .ok (.getfield 21, 3) := by decide +kernel
theorem dX2_endFailedCall_15 : decode cX2_endFailedCall 15 = .ok (.iconst 1, 1) := by decide +kernel
theorem dX2_endFailedCall_16 : decode cX2_endFailedCall 16 = .ok (.iadd, 1) := by decide +kernel
theorem dX2_endFailedCall_17 : decode cX2_endFailedCall 17 = .ok (.putfield 21, 3) := by decide +kernel
theorem dX2_endFailedCall_20 : decode cX2_endFailedCall 20 = .ok (.aload_n 0, 1) := by decide +kernel
theorem dX2_endFailedCall_21 : decode cX2_endFailedCall 21 = .ok (.aload_n 0, 1) := by decide +kernel
theorem dX2_endFailedCall_22 : decode cX2_endFailedCall 22 = .ok (.getfield 27, 3) := by decide +kernel
theorem dX2_endFailedCall_25 : decode cX2_endFailedCall 25 = .ok (.putfield 24, 3) := by decide +kernel
theorem dX2_endFailedCall_28 : decode cX2_endFailedCall 28 = .ok (.bipush (-10), 2) := by decide +kernel
theorem dX2_endFailedCall_30 : decode cX2_endFailedCall 30 = .ok (.aload_n 0, 1) := by decide +kernel
theorem dX2_endFailedCall_31 : decode cX2_endFailedCall 31 = .ok (.getfield 27, 3) := by decide +kernel
theorem dX2_endFailedCall_34 : decode cX2_endFailedCall 34 = .ok (.isub, 1) := by decide +kernel
theorem dX2_endFailedCall_35 : decode cX2_endFailedCall 35 = .ok (.ireturn, 1) := by decide +kernel
end
section
theorem dX3_init_0 : decode cX3_init 0 = .ok (.aload_n 0, 1) := by decide +kernel
theorem dX3_init_1 : decode cX3_init 1 = .ok (.invokespecial 1, 3) := by decide +kernel
theorem dX3_init_4 : decode cX3_init 4 = .ok (.aload_n 0, 1) := by decide +kernel
theorem dX3_init_5 : decode cX3_init 5 = .ok (.bipush 120, 2) := by decide +kernel
theorem dX3_init_7 : decode cX3_init 7 = .ok (.newarray .long, 2) := by decide +kernel
theorem dX3_init_9 : decode cX3_init 9 = .ok (.putfield 9, 3) := by decide +kernel
theorem dX3_init_12 : decode cX3_init 12 = .ok (.aload_n 0, 1) := by decide +kernel
theorem dX3_init_13 : decode cX3_init 13 = .ok (.iconst 0, 1) := by decide +kernel
theorem dX3_init_14 : decode cX3_init 14 = .ok (.putfield 13, 3) := by decide +kernel
theorem dX3_init_17 : decode cX3_init 17 = .ok (.aload_n 0, 1) := by decide +kernel
theorem dX3_init_18 : decode cX3_init 18 = .ok (.bipush 8, 2) := by decide +kernel
theorem dX3_init_20 : decode cX3_init 20 = .ok (.newarray .long, 2) := by decide +kernel
theorem dX3_init_22 : decode cX3_init 22 = .ok (.putfield 17, 3) := by decide +kernel
theorem dX3_init_25 : decode cX3_init 25 = .ok (.aload_n 0, 1) := by decide +kernel
theorem dX3_init_26 : decode cX3_init 26 = .ok (.bipush 40, 2) := by decide +kernel
theorem dX3_init_28 : decode cX3_init 28 = .ok (.newarray .int, 2) := by decide +kernel
theorem dX3_init_30 : decode cX3_init 30 = .ok (.putfield 20, 3) := by decide +kernel
theorem dX3_init_33 : decode cX3_init 33 = .ok (.aload_n 0, 1) := by decide +kernel
theorem dX3_init_34 : decode cX3_init 34 = .ok (.bipush 40, 2) := by decide +kernel
theorem dX3_init_36 : decode cX3_init 36 = .ok (.newarray .int, 2) := by decide +kernel
theorem dX3_init_38 : decode cX3_init 38 = .ok (.putfield 24, 3) := by decide +kernel
theorem dX3_init_41 : decode cX3_init 41 = .ok (.aload_n 0, 1) := by decide +kernel
theorem dX3_init_42 : decode cX3_init 42 = .ok (.iconst 0, 1) := by decide +kernel
theorem dX3_init_43 : decode cX3_init 43 = .ok (.putfield 27, 3) := by decide +kernel
theorem dX3_init_46 : decode cX3_init 46 = .ok (.aload_n 0, 1) := by decide +kernel
theorem dX3_init_47 : decode cX3_init 47 = .ok (.new 30, 3) := by decide +kernel
theorem dX3_init_50 : decode cX3_init 50 = .ok (.dup, 1) := by decide +kernel
theorem dX3_init_51 : decode cX3_init 51 = .ok (.invokespecial 32, 3) := by decide +kernel
theorem dX3_init_54 : decode cX3_init 54 = .ok (.putfield 33, 3) := by decide +kernel
theorem dX3_init_57 : decode cX3_init 57 = .ok (.aload_n 0, 1) := by decide +kernel
theorem dX3_init_58 : decode cX3_init 58 = .ok (.new 30, 3) := by decide +kernel
theorem dX3_init_61 : decode cX3_init 61 = .ok (.dup, 1) := by decide +kernel
theorem dX3_init_62 : decode cX3_init 62 = .ok (.invokespecial 32, 3) := by decide +kernel
theorem dX3_init_65 : decode cX3_init 65 = .ok (.putfield 37, 3) := by decide +kernel
theorem dX3_init_68 : decode cX3_init 68 = .ok (.aload_n 0, 1) := by decide +kernel
theorem dX3_init_69 : decode cX3_init 69 = .ok (.new 30, 3) := by decide +kernel
theorem dX3_init_72 : decode cX3_init 72 = .ok (.dup, 1) := by decide +kernel
theorem dX3_init_73 : decode cX3_init 73 = .ok (.invokespecial 32, 3) := by decide +kernel
theorem dX3_init_76 : decode cX3_init 76 = .ok (.putfield 40, 3) := by decide +kernel
theorem dX3_init_79 : decode cX3_init 79 = .ok (.aload_n 0, 1) := by decide +kernel
theorem dX3_init_80 : decode cX3_init 80 = .ok (.new 43, 3) := by decide +kernel
theorem dX3_init_83 : decode cX3_init 83 = .ok (.dup, 1) := by decide +kernel
theorem dX3_init_84 : decode cX3_init 84 = .ok (.invokespecial 45, 3) := by decide +kernel
theorem dX3_init_87 : decode cX3_init 87 = .ok (.putfield 46, 3) := by decide +kernel
theorem dX3_init_90 : decode cX3_init 90 = .ok (.aload_n 0, 1) := by decide +kernel
theorem dX3_init_91 : decode cX3_init 91 = .ok (.new 43, 3) := by decide +kernel
theorem dX3_init_94 : decode cX3_init 94 = .ok (.dup, 1) := by decide +kernel
theorem dX3_init_95 : decode cX3_init 95 = .ok (.invokespecial 45, 3) := by decide +kernel
theorem dX3_init_98 : decode cX3_init 98 = .ok (.putfield 50, 3) := by decide +kernel
theorem dX3_init_101 : decode cX3_init 101 = .ok (.aload_n 0, 1) := by decide +kernel
theorem dX3_init_102 : decode cX3_init 102 = .ok (.new 53, 3) := by decide +kernel
theorem dX3_init_105 : decode cX3_init 105 = .ok (.dup, 1) := by decide +kernel
theorem dX3_init_106 : decode cX3_init 106 = .ok (.invokespecial 55, 3) := by decide +kernel
theorem dX3_init_109 : decode cX3_init 109 = .ok (.putfield 56, 3) := by decide +kernel
theorem dX3_init_112 : decode cX3_init 112 = .ok (.aload_n 0, 1) := by decide +kernel
theorem dX3_init_113 : decode cX3_init 113 = .ok (.lconst 0, 1) := by decide +kernel
theorem dX3_init_114 : decode cX3_init 114 = .ok (.putfield 60, 3) := by decide +kernel
theorem dX3_init_117 : decode cX3_init 117 = .ok (.return_, 1) := by decide +kernel
theorem dX3_thing_0 : decode cX3_thing 0 = .ok (.aload_n 0, 1) := by decide +kernel
theorem dX3_thing_1 : decode cX3_thing 1 = .ok (.getfield 13, 3) := by decide +kernel
theorem dX3_thing_4 : decode cX3_thing 4 = .ok (.bipush 40, 2) := by decide +kernel
theorem dX3_thing_6 : decode cX3_thing 6 = .ok (.if_icmp .lt 6, 3) := by decide +kernel
theorem dX3_thing_9 : decode cX3_thing 9 = .ok (.bipush (-2), 2) := by decide +kernel
theorem dX3_thing_11 : decode cX3_thing 11 = .ok (.ireturn, 1) := by decide +kernel
theorem dX3_thing_12 : decode cX3_thing 12 = .ok (.aload_n 0, 1) := by decide +kernel
theorem dX3_thing_13 : decode cX3_thing 13 = .ok (.getfield 13, 3) := by decide +kernel
theorem dX3_thing_16 : decode cX3_thing 16 = .ok (.istore 7, 2) := by decide +kernel
theorem dX3_thing_18 : decode cX3_thing 18 = .ok (.aload_n 0, 1) := by decide +kernel
theorem dX3_thing_19 : decode cX3_thing 19 = .ok (.getfield 9, 3) := by decide +kernel
theorem dX3_thing_22 : decode cX3_thing 22 = .ok (.iload 7, 2) := by decide +kernel
theorem dX3_thing_24 : decode cX3_thing 24 = .ok (.iconst 0, 1) := by decide +kernel
theorem dX3_thing_25 : decode cX3_thing 25 = .ok (.invokestatic 64, 3) := by decide +kernel
theorem dX3_thing_28 : decode cX3_thing 28 = .ok (.lload_n 1, 1) := by decide +kernel
theorem dX3_thing_29 : decode cX3_thing 29 = .ok (.lastore, 1) := by decide +kernel
theorem dX3_thing_30 : decode cX3_thing 30 = .ok (.aload_n 0, 1) := by decide +kernel
theorem dX3_thing_31 : decode cX3_thing 31 = .ok (.getfield 9, 3) := by decide +kernel
theorem dX3_thing_34 : decode cX3_thing 34 = .ok (.iload 7, 2) := by decide +kernel
theorem dX3_thing_36 : decode cX3_thing 36 = .ok (.iconst 1, 1) := by decide +kernel
theorem dX3_thing_37 : decode cX3_thing 37 = .ok (.invokestatic 64, 3) := by decide +kernel
theorem dX3_thing_40 : decode cX3_thing 40 = .ok (.lload_n 3, 1) := by decide +kernel
theorem dX3_thing_41 : decode cX3_thing 41 = .ok (.lastore, 1) := by decide +kernel
theorem dX3_thing_42 : decode cX3_thing 42 = .ok (.aload_n 0, 1) := by decide +kernel
theorem dX3_thing_43 : decode cX3_thing 43 = .ok (.getfield 9, 3) := by decide +kernel
theorem dX3_thing_46 : decode cX3_thing 46 = .ok (.iload 7, 2) := by decide +kernel
theorem dX3_thing_48 : decode cX3_thing 48 = .ok (.iconst 2, 1) := by decide +kernel
theorem dX3_thing_49 : decode cX3_thing 49 = .ok (.invokestatic 64, 3) := by decide +kernel
theorem dX3_thing_52 : decode cX3_thing 52 = .ok (.lload 5, 2) := by decide +kernel
theorem dX3_thing_54 : decode cX3_thing 54 = .ok (.lastore, 1) := by decide +kernel
theorem dX3_thing_55 : decode cX3_thing 55 = .ok (.aload_n 0, 1) := by decide +kernel
theorem dX3_thing_56 : decode cX3_thing 56 = .ok (.dup, 1) := by decide +kernel
theorem dX3_thing_57 : decode cX3_thing 57 = .ok (.getfield 13, 3) := by decide +kernel
theorem dX3_thing_60 : decode cX3_thing 60 = .ok (.iconst 1, 1) := by decide +kernel
theorem dX3_thing_61 : decode cX3_thing 61 = .ok (.iadd, 1) := by decide +kernel
theorem dX3_thing_62 : decode cX3_thing 62 = .ok (.putfield 13, 3) := by decide +kernel
theorem dX3_thing_65 : decode cX3_thing 65 = .ok (.aload_n 0, 1) := by decide +kernel
theorem dX3_thing_66 : decode cX3_thing 66 = .ok (.getfield 20, 3) := by decide +kernel
theorem dX3_thing_69 : decode cX3_thing 69 = .ok (.aload_n 0, 1) := by decide +kernel
theorem dX3_thing_70 : decode cX3_thing 70 = .ok (.getfield 27, 3) := by decide +kernel
theorem dX3_thing_73 : decode cX3_thing 73 = .ok (.iload 7, 2) := by decide +kernel
theorem dX3_thing_75 : decode cX3_thing 75 = .ok (.iastore, 1) := by decide +kernel
theorem dX3_thing_76 : decode cX3_thing 76 = .ok (.aload_n 0, 1) := by decide +kernel
theorem dX3_thing_77 : decode cX3_thing 77 = .ok (.dup, 1) := by decide +kernel
theorem dX3_thing_78 : decode cX3_thing 78 = .ok (.getfield 27, 3) := by decide +kernel
theorem dX3_thing_81 : decode cX3_thing 81 = .ok (.iconst 1, 1) := by decide +kernel
theorem dX3_thing_82 : decode cX3_thing 82 = .ok (.iadd, 1) := by decide +kernel
theorem dX3_thing_83 : decode cX3_thing 83 = .ok (.putfield 27, 3) := by decide +kernel
theorem dX3_thing_86 : decode cX3_thing 86 = .ok (.iload 7, 2) := by decide +kernel
theorem dX3_thing_88 : decode cX3_thing 88 = .ok (.ireturn, 1) := by decide +kernel
theorem dX3_change_0 : decode cX3_change 0 = .ok (.aload_n 0, 1) := by decide +kernel
theorem dX3_change_1 : decode cX3_change 1 = .ok (.iload_n 1, 1) := by decide +kernel
theorem dX3_change_2 : decode cX3_change 2 = .ok (.invokevirtual 68, 3) := by decide +kernel
theorem dX3_change_5 : decode cX3_change 5 = .ok (.ifCond .eq 10, 3) := by decide +kernel
theorem dX3_change_8 : decode cX3_change 8 = .ok (.iload_n 2, 1) := by decide +kernel
theorem dX3_change_9 : decode cX3_change 9 = .ok (.invokestatic 72, 3) := by decide +kernel
theorem dX3_change_12 : decode cX3_change 12 = .ok (.ifCond .ne 5, 3) := by decide +kernel
theorem dX3_change_15 : decode cX3_change 15 = .ok (.iconst (-1), 1) := by decide +kernel
theorem dX3_change_16 : decode cX3_change 16 = .ok (.ireturn, 1) := by decide +kernel
theorem dX3_change_17 : decode cX3_change 17 = .ok (.aload_n 0, 1) := by decide +kernel
theorem dX3_change_18 : decode cX3_change 18 = .ok (.getfield 9, 3) := by decide +kernel
theorem dX3_change_21 : decode cX3_change 21 = .ok (.iload_n 1, 1) := by decide +kernel
theorem dX3_change_22 : decode cX3_change 22 = .ok (.iload_n 2, 1) := by decide +kernel
theorem dX3_change_23 : decode cX3_change 23 = .ok (.invokestatic 64, 3) := by decide +kernel
theorem dX3_change_26 : decode cX3_change 26 = .ok (.lload_n 3, 1) := by decide +kernel
theorem dX3_change_27 : decode cX3_change 27 = .ok (.lastore, 1) := by decide +kernel
theorem dX3_change_28 : decode cX3_change 28 = .ok (.iconst 1, 1) := by decide +kernel
theorem dX3_change_29 : decode cX3_change 29 = .ok (.ireturn, 1) := by decide +kernel
theorem dX3_get_0 : decode cX3_get 0 = .ok (.aload_n 0, 1) := by decide +kernel
theorem dX3_get_1 : decode cX3_get 1 = .ok (.iload_n 1, 1) := by decide +kernel
theorem dX3_get_2 : decode cX3_get 2 = .ok (.invokevirtual 68, 3) := by decide +kernel
theorem dX3_get_5 : decode cX3_get 5 = .ok (.ifCond .eq 10, 3) := by decide +kernel
theorem dX3_get_8 : decode cX3_get 8 = .ok (.iload_n 2, 1) := by decide +kernel
theorem dX3_get_9 : decode cX3_get 9 = .ok (.invokestatic 72, 3) := by decide +kernel
theorem dX3_get_12 : decode cX3_get 12 = .ok (.ifCond .ne 5, 3) := by decide +kernel
theorem dX3_get_15 : decode cX3_get 15 = .ok (.lconst 0, 1) := by decide +kernel
theorem dX3_get_16 : decode cX3_get 16 = .ok (.lreturn, 1) := by decide +kernel
theorem dX3_get_17 : decode cX3_get 17 = .ok (.aload_n 0, 1) := by decide +kernel
theorem dX3_get_18 : decode cX3_get 18 = .ok (.getfield 9, 3) := by decide +kernel
theorem dX3_get_21 : decode cX3_get 21 = .ok (.iload_n 1, 1) := by decide +kernel
theorem dX3_get_22 : decode cX3_get 22 = .ok (.iload_n 2, 1) := by decide +kernel
theorem dX3_get_23 : decode cX3_get 23 = .ok (.invokestatic 64, 3) := by decide +kernel
theorem dX3_get_26 : decode cX3_get 26 = .ok (.laload, 1) := by decide +kernel
theorem dX3_get_27 : decode cX3_get 27 = .ok (.lreturn, 1) := by decide +kernel
theorem dX3_item_0 : decode cX3_item 0 = .ok (.iload_n 1, 1) := by decide +kernel
theorem dX3_item_1 : decode cX3_item 1 = .ok (.i2l, 1) := by decide +kernel
theorem dX3_item_2 : decode cX3_item 2 = .ok (.invokestatic 75, 3) := by decide +kernel
theorem dX3_item_5 : decode cX3_item 5 = .ok (.ifCond .ne 5, 3) := by decide +kernel
theorem dX3_item_8 : decode cX3_item 8 = .ok (.iconst (-1), 1) := by decide +kernel
theorem dX3_item_9 : decode cX3_item 9 = .ok (.ireturn, 1) := by decide +kernel
theorem dX3_item_10 : decode cX3_item 10 = .ok (.aload_n 0, 1) := by decide +kernel
theorem dX3_item_11 : decode cX3_item 11 = .ok (.getfield 17, 3) := by decide +kernel
theorem dX3_item_14 : decode cX3_item 14 = .ok (.iload_n 1, 1) := by decide +kernel
theorem dX3_item_15 : decode cX3_item 15 = .ok (.lload_n 2, 1) := by decide +kernel
theorem dX3_item_16 : decode cX3_item 16 = .ok (.lastore, 1) := by decide +kernel
theorem dX3_item_17 : decode cX3_item 17 = .ok (.iconst 1, 1) := by decide +kernel
theorem dX3_item_18 : decode cX3_item 18 = .ok (.ireturn, 1) := by decide +kernel
theorem dX3_all_0 : decode cX3_all 0 = .ok (.iconst 0, 1) := by decide +kernel
theorem dX3_all_1 : decode cX3_all 1 = .ok (.istore_n 1, 1) := by decide +kernel
theorem dX3_all_2 : decode cX3_all 2 = .ok (.iload_n 1, 1) := by decide +kernel
theorem dX3_all_3 : decode cX3_all 3 = .ok (.aload_n 0, 1) := by decide +kernel
theorem dX3_all_4 : decode cX3_all 4 = .ok (.getfield 13, 3) := by decide +kernel
theorem dX3_all_7 : decode cX3_all 7 = .ok (.if_icmp .ge 16, 3) := by decide +kernel
theorem dX3_all_10 : decode cX3_all 10 = .ok (.aload_n 0, 1) := by decide +kernel
theorem dX3_all_11 : decode cX3_all 11 = .ok (.getfield 20, 3) := by decide +kernel
theorem dX3_all_14 : decode cX3_all 14 = .ok (.iload_n 1, 1) := by decide +kernel
theorem dX3_all_15 : decode cX3_all 15 = .ok (.iload_n 1, 1) := by decide +kernel
theorem dX3_all_16 : decode cX3_all 16 = .ok (.iastore, 1) := by decide +kernel
theorem dX3_all_17 : decode cX3_all 17 = .ok (.iinc 1 1, 3) := by decide +kernel
theorem dX3_all_20 : decode cX3_all 20 = .ok (.goto (-18), 3) := by decide +kernel
theorem dX3_all_23 : decode cX3_all 23 = .ok (.aload_n 0, 1) := by decide +kernel
theorem dX3_all_24 : decode cX3_all 24 = .ok (.aload_n 0, 1) := by decide +kernel
theorem dX3_all_25 : decode cX3_all 25 = .ok (.getfield 13, 3) := by decide +kernel
theorem dX3_all_28 : decode cX3_all 28 = .ok (.putfield 27, 3) := by decide +kernel
theorem dX3_all_31 : decode cX3_all 31 = .ok (.aload_n 0, 1) := by decide +kernel
theorem dX3_all_32 : decode cX3_all 32 = .ok (.getfield 27, 3) := by decide +kernel
theorem dX3_all_35 : decode cX3_all 35 = .ok (.ireturn, 1) := by decide +kernel
theorem dX3_list_0 : decode cX3_list 0 = .ok (.iload_n 1, 1) := by decide +kernel
theorem dX3_list_1 : decode cX3_list 1 = .ok (.ifCond .lt 20, 3) := by decide +kernel
theorem dX3_list_4 : decode cX3_list 4 = .ok (.iload_n 1, 1) := by decide +kernel
theorem dX3_list_5 : decode cX3_list 5 = .ok (.aload_n 0, 1) := by decide +kernel
theorem dX3_list_6 : decode cX3_list 6 = .ok (.getfield 27, 3) := by decide +kernel
theorem dX3_list_9 : decode cX3_list 9 = .ok (.if_icmp .ge 12, 3) := by decide +kernel
theorem dX3_list_12 : decode cX3_list 12 = .ok (.aload_n 0, 1) := by decide +kernel
theorem dX3_list_13 : decode cX3_list 13 = .ok (.getfield 20, 3) := by decide +kernel
theorem dX3_list_16 : decode cX3_list 16 = .ok (.iload_n 1, 1) := by decide +kernel
theorem dX3_list_17 : decode cX3_list 17 = .ok (.iaload, 1) := by decide +kernel
theorem dX3_list_18 : decode cX3_list 18 = .ok (.goto 4, 3) := by decide +kernel
theorem dX3_list_21 : decode cX3_list 21 = .ok (.iconst (-1), 1) := by decide +kernel
theorem dX3_list_22 : decode cX3_list 22 = .ok (.ireturn, 1) := by decide +kernel
theorem dX3_scale_0 : decode cX3_scale 0 = .ok (.aload_n 0, 1) := by decide +kernel
theorem dX3_scale_1 : decode cX3_scale 1 = .ok (.iload_n 1, 1) := by decide +kernel
theorem dX3_scale_2 : decode cX3_scale 2 = .ok (.iload_n 2, 1) := by decide +kernel
theorem dX3_scale_3 : decode cX3_scale 3 = .ok (.iload_n 3, 1) := by decide +kernel
theorem dX3_scale_4 : decode cX3_scale 4 = .ok (.invokevirtual 79, 3) := by decide +kernel
theorem dX3_scale_7 : decode cX3_scale 7 = .ok (.ifCond .ne 5, 3) := by decide +kernel
theorem dX3_scale_10 : decode cX3_scale 10 = .ok (.iconst (-1), 1) := by decide +kernel
theorem dX3_scale_11 : decode cX3_scale 11 = .ok (.ireturn, 1) := by decide +kernel
theorem dX3_scale_12 : decode cX3_scale 12 = .ok (.aload_n 0, 1) := by decide +kernel
theorem dX3_scale_13 : decode cX3_scale 13 = .ok (.getfield 33, 3) := by decide +kernel
theorem dX3_scale_16 : decode cX3_scale 16 = .ok (.invokevirtual 83, 3) := by decide +kernel
theorem dX3_scale_19 : decode cX3_scale 19 = .ok (.ifCond .eq 6, 3) := by decide +kernel
theorem dX3_scale_22 : decode cX3_scale 22 = .ok (.bipush (-2), 2) := by decide +kernel
theorem dX3_scale_24 : decode cX3_scale 24 = .ok (.ireturn, 1) := by decide +kernel
theorem dX3_scale_25 : decode cX3_scale 25 = .ok (.iload_n 1, 1) := by decide +kernel
theorem dX3_scale_26 : decode cX3_scale 26 = .ok (.bipush 9, 2) := by decide +kernel
theorem dX3_scale_28 : decode cX3_scale 28 = .ok (.if_icmp .ne 10, 3) := by decide +kernel
theorem dX3_scale_31 : decode cX3_scale 31 = .ok (.aload_n 0, 1) := by decide +kernel
theorem dX3_scale_32 : decode cX3_scale 32 = .ok (.iload_n 2, 1) := by decide +kernel
theorem dX3_scale_33 : decode cX3_scale 33 = .ok (.iload_n 3, 1) := by decide +kernel
theorem dX3_scale_34 : decode cX3_scale 34 = .ok (.invokevirtual 87, 3) := by decide +kernel
theorem dX3_scale_37 : decode cX3_scale 37 = .ok (.ireturn, 1) := by decide +kernel
theorem dX3_scale_38 : decode cX3_scale 38 = .ok (.aload_n 0, 1) := by decide +kernel
theorem dX3_scale_39 : decode cX3_scale 39 = .ok (.getfield 33, 3) := by decide +kernel
theorem dX3_scale_42 : decode cX3_scale 42 = .ok (.iload_n 1, 1) := by decide +kernel
theorem dX3_scale_43 : decode cX3_scale 43 = .ok (.iload_n 2, 1) := by decide +kernel
theorem dX3_scale_44 : decode cX3_scale 44 = .ok (.iload_n 3, 1) := by decide +kernel
theorem dX3_scale_45 : decode cX3_scale 45 = .ok (.iload_n 1, 1) := by decide +kernel
theorem dX3_scale_46 : decode cX3_scale 46 = .ok (.bipush 8, 2) := by decide +kernel
theorem dX3_scale_48 : decode cX3_scale 48 = .ok (.if_icmp .ne 12, 3) := by decide +kernel
theorem dX3_scale_51 : decode cX3_scale 51 = .ok (.aload_n 0, 1) := by decide +kernel
theorem dX3_scale_52 : decode cX3_scale 52 = .ok (.getfield 17, 3) := by decide +kernel
theorem dX3_scale_55 : decode cX3_scale 55 = .ok (.iload_n 2, 1) := by decide +kernel
theorem dX3_scale_56 : decode cX3_scale 56 = .ok (.laload, 1) := by decide +kernel
theorem dX3_scale_57 : decode cX3_scale 57 = .ok (.goto 4, 3) := by decide +kernel
theorem dX3_scale_60 : decode cX3_scale 60 = .ok (.lconst 0, 1) := by decide +kernel
theorem dX3_scale_61 : decode cX3_scale 61 = .ok (.invokevirtual 90, 3) := by decide +kernel
theorem dX3_scale_64 : decode cX3_scale 64 = .ok (.ireturn, 1) := by decide +kernel
theorem dX3_sieve_0 : decode cX3_sieve 0 = .ok (.aload_n 0, 1) := by decide +kernel
theorem dX3_sieve_1 : decode cX3_sieve 1 = .ok (.iload_n 1, 1) := by decide +kernel
theorem dX3_sieve_2 : decode cX3_sieve 2 = .ok (.iload_n 2, 1) := by decide +kernel
theorem dX3_sieve_3 : decode cX3_sieve 3 = .ok (.iload_n 3, 1) := by decide +kernel
theorem dX3_sieve_4 : decode cX3_sieve 4 = .ok (.invokevirtual 94, 3) := by decide +kernel
theorem dX3_sieve_7 : decode cX3_sieve 7 = .ok (.ifCond .ne 5, 3) := by decide +kernel
theorem dX3_sieve_10 : decode cX3_sieve 10 = .ok (.iconst (-1), 1) := by decide +kernel
theorem dX3_sieve_11 : decode cX3_sieve 11 = .ok (.ireturn, 1) := by decide +kernel
theorem dX3_sieve_12 : decode cX3_sieve 12 = .ok (.aload_n 0, 1) := by decide +kernel
theorem dX3_sieve_13 : decode cX3_sieve 13 = .ok (.getfield 37, 3) := by decide +kernel
theorem dX3_sieve_16 : decode cX3_sieve 16 = .ok (.invokevirtual 83, 3) := by decide +kernel
theorem dX3_sieve_19 : decode cX3_sieve 19 = .ok (.ifCond .eq 8, 3) := by decide +kernel
theorem dX3_sieve_22 : decode cX3_sieve 22 = .ok (.bipush (-2), 2) := by decide +kernel
theorem dX3_sieve_24 : decode cX3_sieve 24 = .ok (.goto 14, 3) := by decide +kernel
theorem dX3_sieve_27 : decode cX3_sieve 27 = .ok (.aload_n 0, 1) := by decide +kernel
theorem dX3_sieve_28 : decode cX3_sieve 28 = .ok (.getfield 37, 3) := by decide +kernel
theorem dX3_sieve_31 : decode cX3_sieve 31 = .ok (.iload_n 1, 1) := by decide +kernel
theorem dX3_sieve_32 : decode cX3_sieve 32 = .ok (.iload_n 2, 1) := by decide +kernel
theorem dX3_sieve_33 : decode cX3_sieve 33 = .ok (.iload_n 3, 1) := by decide +kernel
theorem dX3_sieve_34 : decode cX3_sieve 34 = .ok (.lconst 0, 1) := by decide +kernel
theorem dX3_sieve_35 : decode cX3_sieve 35 = .ok (.invokevirtual 90, 3) := by decide +kernel
theorem dX3_sieve_38 : decode cX3_sieve 38 = .ok (.ireturn, 1) := by decide +kernel
theorem dX3_order_0 : decode cX3_order 0 = .ok (.aload_n 0, 1) := by decide +kernel
theorem dX3_order_1 : decode cX3_order 1 = .ok (.iload_n 1, 1) := by decide +kernel
theorem dX3_order_2 : decode cX3_order 2 = .ok (.iload_n 2, 1) := by decide +kernel
theorem dX3_order_3 : decode cX3_order 3 = .ok (.iload_n 3, 1) := by decide +kernel
theorem dX3_order_4 : decode cX3_order 4 = .ok (.invokevirtual 97, 3) := by decide +kernel
theorem dX3_order_7 : decode cX3_order 7 = .ok (.ifCond .ne 5, 3) := by decide +kernel
theorem dX3_order_10 : decode cX3_order 10 = .ok (.iconst (-1), 1) := by decide +kernel
theorem dX3_order_11 : decode cX3_order 11 = .ok (.ireturn, 1) := by decide +kernel
theorem dX3_order_12 : decode cX3_order 12 = .ok (.aload_n 0, 1) := by decide +kernel
theorem dX3_order_13 : decode cX3_order 13 = .ok (.getfield 40, 3) := by decide +kernel
theorem dX3_order_16 : decode cX3_order 16 = .ok (.invokevirtual 83, 3) := by decide +kernel
theorem dX3_order_19 : decode cX3_order 19 = .ok (.ifCond .eq 8, 3) := by decide +kernel
theorem dX3_order_22 : decode cX3_order 22 = .ok (.bipush (-2), 2) := by decide +kernel
theorem dX3_order_24 : decode cX3_order 24 = .ok (.goto 14, 3) := by decide +kernel
theorem dX3_order_27 : decode cX3_order 27 = .ok (.aload_n 0, 1) := by decide +kernel
theorem dX3_order_28 : decode cX3_order 28 = .ok (.getfield 40, 3) := by decide +kernel
theorem dX3_order_31 : decode cX3_order 31 = .ok (.iload_n 1, 1) := by decide +kernel
theorem dX3_order_32 : decode cX3_order 32 = .ok (.iload_n 2, 1) := by decide +kernel
theorem dX3_order_33 : decode cX3_order 33 = .ok (.iload_n 3, 1) := by decide +kernel
theorem dX3_order_34 : decode cX3_order 34 = .ok (.lconst 0, 1) := by decide +kernel
theorem dX3_order_35 : decode cX3_order 35 = .ok (.invokevirtual 90, 3) := by decide +kernel
theorem dX3_order_38 : decode cX3_order 38 = .ok (.ireturn, 1) := by decide +kernel
theorem dX3_tell_0 : decode cX3_tell 0 = .ok (.aload_n 0, 1) := by decide +kernel
theorem dX3_tell_1 : decode cX3_tell 1 = .ok (.getfield 33, 3) := by decide +kernel
theorem dX3_tell_4 : decode cX3_tell 4 = .ok (.iload_n 1, 1) := by decide +kernel
theorem dX3_tell_5 : decode cX3_tell 5 = .ok (.invokevirtual 100, 3) := by decide +kernel
theorem dX3_tell_8 : decode cX3_tell 8 = .ok (.ifCond .eq 11, 3) := by decide +kernel
theorem dX3_tell_11 : decode cX3_tell 11 = .ok (.aload_n 0, 1) := by decide +kernel
theorem dX3_tell_12 : decode cX3_tell 12 = .ok (.iload_n 2, 1) := by decide +kernel
theorem dX3_tell_13 : decode cX3_tell 13 = .ok (.invokevirtual 68, 3) := by decide +kernel
theorem dX3_tell_16 : decode cX3_tell 16 = .ok (.ifCond .ne 5, 3) := by decide +kernel
theorem dX3_tell_19 : decode cX3_tell 19 = .ok (.iconst (-1), 1) := by decide +kernel
theorem dX3_tell_20 : decode cX3_tell 20 = .ok (.ireturn, 1) := by decide +kernel
theorem dX3_tell_21 : decode cX3_tell 21 = .ok (.aload_n 0, 1) := by decide +kernel
theorem dX3_tell_22 : decode cX3_tell 22 = .ok (.getfield 56, 3) := by decide +kernel
theorem dX3_tell_25 : decode cX3_tell 25 = .ok (.invokevirtual 103, 3) := by decide +kernel
theorem dX3_tell_28 : decode cX3_tell 28 = .ok (.ifCond .ne 6, 3) := by decide +kernel
theorem dX3_tell_31 : decode cX3_tell 31 = .ok (.bipush (-2), 2) := by decide +kernel
theorem dX3_tell_33 : decode cX3_tell 33 = .ok (.ireturn, 1) := by decide +kernel
theorem dX3_tell_34 : decode cX3_tell 34 = .ok (.aload_n 0, 1) := by decide +kernel
theorem dX3_tell_35 : decode cX3_tell 35 = .ok (.iload_n 1, 1) := by decide +kernel
theorem dX3_tell_36 : decode cX3_tell 36 = .ok (.iload_n 2, 1) := by decide +kernel
theorem dX3_tell_37 : decode cX3_tell 37 = .ok (.invokevirtual 106, 3) := by decide +kernel
theorem dX3_tell_40 : decode cX3_tell 40 = .ok (.lstore_n 3, 1) := by decide +kernel
theorem dX3_tell_41 : decode cX3_tell 41 = .ok (.aload_n 0, 1) := by decide +kernel
theorem dX3_tell_42 : decode cX3_tell 42 = .ok (.getfield 56, 3) := by decide +kernel
theorem dX3_tell_45 : decode cX3_tell 45 = .ok (.invokevirtual 110, 3) := by decide +kernel
theorem dX3_tell_48 : decode cX3_tell 48 = .ok (.ifCond .eq 11, 3) := by decide +kernel
theorem dX3_tell_51 : decode cX3_tell 51 = .ok (.aload_n 0, 1) := by decide +kernel
theorem dX3_tell_52 : decode cX3_tell 52 = .ok (.getfield 56, 3) := by decide +kernel
theorem dX3_tell_55 : decode cX3_tell 55 = .ok (.invokevirtual 113, 3) := by decide +kernel
theorem dX3_tell_58 : decode cX3_tell 58 = .ok (.ireturn, 1) := by decide +kernel
theorem dX3_tell_59 : decode cX3_tell 59 = .ok (.aload_n 0, 1) := by decide +kernel
theorem dX3_tell_60 : decode cX3_tell 60 = .ok (.lload_n 3, 1) := by decide +kernel
theorem dX3_tell_61 : decode cX3_tell 61 = .ok (.putfield 60, 3) := by decide +kernel
theorem dX3_tell_64 : decode cX3_tell 64 = .ok (.iconst 1, 1) := by decide +kernel
theorem dX3_tell_65 : decode cX3_tell 65 = .ok (.ireturn, 1) := by decide +kernel
theorem dX3_sift_0 : decode cX3_sift 0 = .ok (.aload_n 0, 1) := by decide +kernel
theorem dX3_sift_1 : decode cX3_sift 1 = .ok (.getfield 37, 3) := by decide +kernel
theorem dX3_sift_4 : decode cX3_sift 4 = .ok (.iload_n 1, 1) := by decide +kernel
theorem dX3_sift_5 : decode cX3_sift 5 = .ok (.invokevirtual 100, 3) := by decide +kernel
theorem dX3_sift_8 : decode cX3_sift 8 = .ok (.ifCond .ne 5, 3) := by decide +kernel
theorem dX3_sift_11 : decode cX3_sift 11 = .ok (.iconst (-1), 1) := by decide +kernel
theorem dX3_sift_12 : decode cX3_sift 12 = .ok (.ireturn, 1) := by decide +kernel
theorem dX3_sift_13 : decode cX3_sift 13 = .ok (.aload_n 0, 1) := by decide +kernel
theorem dX3_sift_14 : decode cX3_sift 14 = .ok (.getfield 56, 3) := by decide +kernel
theorem dX3_sift_17 : decode cX3_sift 17 = .ok (.invokevirtual 103, 3) := by decide +kernel
theorem dX3_sift_20 : decode cX3_sift 20 = .ok (.ifCond .ne 6, 3) := by decide +kernel
theorem dX3_sift_23 : decode cX3_sift 23 = .ok (.bipush (-2), 2) := by decide +kernel
theorem dX3_sift_25 : decode cX3_sift 25 = .ok (.ireturn, 1) := by decide +kernel
theorem dX3_sift_26 : decode cX3_sift 26 = .ok (.iconst 0, 1) := by decide +kernel
theorem dX3_sift_27 : decode cX3_sift 27 = .ok (.istore_n 2, 1) := by decide +kernel
theorem dX3_sift_28 : decode cX3_sift 28 = .ok (.iconst 0, 1) := by decide +kernel
theorem dX3_sift_29 : decode cX3_sift 29 = .ok (.istore_n 3, 1) := by decide +kernel
theorem dX3_sift_30 : decode cX3_sift 30 = .ok (.iload_n 3, 1) := by decide +kernel
theorem dX3_sift_31 : decode cX3_sift 31 = .ok (.aload_n 0, 1) := by decide +kernel
theorem dX3_sift_32 : decode cX3_sift 32 = .ok (.getfield 27, 3) := by decide +kernel
theorem dX3_sift_35 : decode cX3_sift 35 = .ok (.if_icmp .ge 48, 3) := by decide +kernel
theorem dX3_sift_38 : decode cX3_sift 38 = .ok (.aload_n 0, 1) := by decide +kernel
theorem dX3_sift_39 : decode cX3_sift 39 = .ok (.getfield 56, 3) := by decide +kernel
theorem dX3_sift_42 : decode cX3_sift 42 = .ok (.invokevirtual 110, 3) := by decide +kernel
theorem dX3_sift_45 : decode cX3_sift 45 = .ok (.ifCond .ne 38, 3) := by decide +kernel
theorem dX3_sift_48 : decode cX3_sift 48 = .ok (.aload_n 0, 1) := by decide +kernel
theorem dX3_sift_49 : decode cX3_sift 49 = .ok (.iload_n 1, 1) := by decide +kernel
theorem dX3_sift_50 : decode cX3_sift 50 = .ok (.aload_n 0, 1) := by decide +kernel
theorem dX3_sift_51 : decode cX3_sift 51 = .ok (.getfield 20, 3) := by decide +kernel
theorem dX3_sift_54 : decode cX3_sift 54 = .ok (.iload_n 3, 1) := by decide +kernel
theorem dX3_sift_55 : decode cX3_sift 55 = .ok (.iaload, 1) := by decide +kernel
theorem dX3_sift_56 : decode cX3_sift 56 = .ok (.invokevirtual 117, 3) := by decide +kernel
theorem dX3_sift_59 : decode cX3_sift 59 = .ok (.ifCond .eq 18, 3) := by decide +kernel
theorem dX3_sift_62 : decode cX3_sift 62 = .ok (.aload_n 0, 1) := by decide +kernel
theorem dX3_sift_63 : decode cX3_sift 63 = .ok (.getfield 24, 3) := by decide +kernel
theorem dX3_sift_66 : decode cX3_sift 66 = .ok (.iload_n 2, 1) := by decide +kernel
theorem dX3_sift_67 : decode cX3_sift 67 = .ok (.aload_n 0, 1) := by decide +kernel
theorem dX3_sift_68 : decode cX3_sift 68 = .ok (.getfield 20, 3) := by decide +kernel
theorem dX3_sift_71 : decode cX3_sift 71 = .ok (.iload_n 3, 1) := by decide +kernel
theorem dX3_sift_72 : decode cX3_sift 72 = .ok (.iaload, 1) := by decide +kernel
theorem dX3_sift_73 : decode cX3_sift 73 = .ok (.iastore, 1) := by decide +kernel
theorem dX3_sift_74 : decode cX3_sift 74 = .ok (.iinc 2 1, 3) := by decide +kernel
theorem dX3_sift_77 : decode cX3_sift 77 = .ok (.iinc 3 1, 3) := by decide +kernel
theorem dX3_sift_80 : decode cX3_sift 80 = .ok (.goto (-50), 3) := by decide +kernel
theorem dX3_sift_83 : decode cX3_sift 83 = .ok (.aload_n 0, 1) := by decide +kernel
theorem dX3_sift_84 : decode cX3_sift 84 = .ok (.getfield 56, 3) := by decide +kernel
theorem dX3_sift_87 : decode cX3_sift 87 = .ok (.invokevirtual 110, 3) := by decide +kernel
theorem dX3_sift_90 : decode cX3_sift 90 = .ok (.ifCond .eq 11, 3) := by decide +kernel
theorem dX3_sift_93 : decode cX3_sift 93 = .ok (.aload_n 0, 1) := by decide +kernel
theorem dX3_sift_94 : decode cX3_sift 94 = .ok (.getfield 56, 3) := by decide +kernel
theorem dX3_sift_97 : decode cX3_sift 97 = .ok (.invokevirtual 113, 3) := by decide +kernel
theorem dX3_sift_100 : decode cX3_sift 100 = .ok (.ireturn, 1) := by decide +kernel
theorem dX3_sift_101 : decode cX3_sift 101 = .ok (.aload_n 0, 1) := by decide +kernel
theorem dX3_sift_102 : decode cX3_sift 102 = .ok (.iload_n 2, 1) := by decide +kernel
theorem dX3_sift_103 : decode cX3_sift 103 = .ok (.invokevirtual 121, 3) := by decide +kernel
theorem dX3_sift_106 : decode cX3_sift 106 = .ok (.iload_n 2, 1) := by decide +kernel
theorem dX3_sift_107 : decode cX3_sift 107 = .ok (.ireturn, 1) := by decide +kernel
theorem dX3_sort_0 : decode cX3_sort 0 = .ok (.aload_n 0, 1) := by decide +kernel
theorem dX3_sort_1 : decode cX3_sort 1 = .ok (.getfield 40, 3) := by decide +kernel
theorem dX3_sort_4 : decode cX3_sort 4 = .ok (.iload_n 1, 1) := by decide +kernel
theorem dX3_sort_5 : decode cX3_sort 5 = .ok (.invokevirtual 100, 3) := by decide +kernel
theorem dX3_sort_8 : decode cX3_sort 8 = .ok (.ifCond .ne 5, 3) := by decide +kernel
theorem dX3_sort_11 : decode cX3_sort 11 = .ok (.iconst (-1), 1) := by decide +kernel
theorem dX3_sort_12 : decode cX3_sort 12 = .ok (.ireturn, 1) := by decide +kernel
theorem dX3_sort_13 : decode cX3_sort 13 = .ok (.aload_n 0, 1) := by decide +kernel
theorem dX3_sort_14 : decode cX3_sort 14 = .ok (.getfield 56, 3) := by decide +kernel
theorem dX3_sort_17 : decode cX3_sort 17 = .ok (.invokevirtual 103, 3) := by decide +kernel
theorem dX3_sort_20 : decode cX3_sort 20 = .ok (.ifCond .ne 6, 3) := by decide +kernel
theorem dX3_sort_23 : decode cX3_sort 23 = .ok (.bipush (-2), 2) := by decide +kernel
theorem dX3_sort_25 : decode cX3_sort 25 = .ok (.ireturn, 1) := by decide +kernel
theorem dX3_sort_26 : decode cX3_sort 26 = .ok (.aload_n 0, 1) := by decide +kernel
theorem dX3_sort_27 : decode cX3_sort 27 = .ok (.getfield 20, 3) := by decide +kernel
theorem dX3_sort_30 : decode cX3_sort 30 = .ok (.iconst 0, 1) := by decide +kernel
theorem dX3_sort_31 : decode cX3_sort 31 = .ok (.aload_n 0, 1) := by decide +kernel
theorem dX3_sort_32 : decode cX3_sort 32 = .ok (.getfield 24, 3) := by decide +kernel
theorem dX3_sort_35 : decode cX3_sort 35 = .ok (.iconst 0, 1) := by decide +kernel
theorem dX3_sort_36 : decode cX3_sort 36 = .ok (.aload_n 0, 1) := by decide +kernel
theorem dX3_sort_37 : decode cX3_sort 37 = .ok (.getfield 27, 3) := by decide +kernel
theorem dX3_sort_40 : decode cX3_sort 40 = .ok (.invokestatic 125, 3) := by decide +kernel
theorem dX3_sort_43 : decode cX3_sort 43 = .ok (.iconst 0, 1) := by decide +kernel
theorem dX3_sort_44 : decode cX3_sort 44 = .ok (.istore_n 2, 1) := by decide +kernel
theorem dX3_sort_45 : decode cX3_sort 45 = .ok (.iconst 1, 1) := by decide +kernel
theorem dX3_sort_46 : decode cX3_sort 46 = .ok (.istore_n 3, 1) := by decide +kernel
theorem dX3_sort_47 : decode cX3_sort 47 = .ok (.iload_n 3, 1) := by decide +kernel
theorem dX3_sort_48 : decode cX3_sort 48 = .ok (.aload_n 0, 1) := by decide +kernel
theorem dX3_sort_49 : decode cX3_sort 49 = .ok (.getfield 27, 3) := by decide +kernel
theorem dX3_sort_52 : decode cX3_sort 52 = .ok (.if_icmp .ge 28, 3) := by decide +kernel
theorem dX3_sort_55 : decode cX3_sort 55 = .ok (.aload_n 0, 1) := by decide +kernel
theorem dX3_sort_56 : decode cX3_sort 56 = .ok (.getfield 56, 3) := by decide +kernel
theorem dX3_sort_59 : decode cX3_sort 59 = .ok (.invokevirtual 110, 3) := by decide +kernel
theorem dX3_sort_62 : decode cX3_sort 62 = .ok (.ifCond .ne 18, 3) := by decide +kernel
theorem dX3_sort_65 : decode cX3_sort 65 = .ok (.iload_n 2, 1) := by decide +kernel
theorem dX3_sort_66 : decode cX3_sort 66 = .ok (.aload_n 0, 1) := by decide +kernel
theorem dX3_sort_67 : decode cX3_sort 67 = .ok (.iload_n 1, 1) := by decide +kernel
theorem dX3_sort_68 : decode cX3_sort 68 = .ok (.iload_n 3, 1) := by decide +kernel
theorem dX3_sort_69 : decode cX3_sort 69 = .ok (.invokevirtual 131, 3) := by decide +kernel
theorem dX3_sort_72 : decode cX3_sort 72 = .ok (.iadd, 1) := by decide +kernel
theorem dX3_sort_73 : decode cX3_sort 73 = .ok (.istore_n 2, 1) := by decide +kernel
theorem dX3_sort_74 : decode cX3_sort 74 = .ok (.iinc 3 1, 3) := by decide +kernel
theorem dX3_sort_77 : decode cX3_sort 77 = .ok (.goto (-30), 3) := by decide +kernel
theorem dX3_sort_80 : decode cX3_sort 80 = .ok (.aload_n 0, 1) := by decide +kernel
theorem dX3_sort_81 : decode cX3_sort 81 = .ok (.getfield 56, 3) := by decide +kernel
theorem dX3_sort_84 : decode cX3_sort 84 = .ok (.invokevirtual 110, 3) := by decide +kernel
theorem dX3_sort_87 : decode cX3_sort 87 = .ok (.ifCond .eq 11, 3) := by decide +kernel
theorem dX3_sort_90 : decode cX3_sort 90 = .ok (.aload_n 0, 1) := by decide +kernel
theorem dX3_sort_91 : decode cX3_sort 91 = .ok (.getfield 56, 3) := by decide +kernel
theorem dX3_sort_94 : decode cX3_sort 94 = .ok (.invokevirtual 113, 3) := by decide +kernel
theorem dX3_sort_97 : decode cX3_sort 97 = .ok (.ireturn, 1) := by decide +kernel
theorem dX3_sort_98 : decode cX3_sort 98 = .ok (.aload_n 0, 1) := by decide +kernel
theorem dX3_sort_99 : decode cX3_sort 99 = .ok (.aload_n 0, 1) := by decide +kernel
theorem dX3_sort_100 : decode cX3_sort 100 = .ok (.getfield 27, 3) := by decide +kernel
theorem dX3_sort_103 : decode cX3_sort 103 = .ok (.invokevirtual 121, 3) := by decide +kernel
theorem dX3_sort_106 : decode cX3_sort 106 = .ok (.iload_n 2, 1) := by decide +kernel
theorem dX3_sort_107 : decode cX3_sort 107 = .ok (.ireturn, 1) := by decide +kernel
theorem dX3_sum_0 : decode cX3_sum 0 = .ok (.aload_n 0, 1) := by decide +kernel
theorem dX3_sum_1 : decode cX3_sum 1 = .ok (.getfield 33, 3) := by decide +kernel
theorem dX3_sum_4 : decode cX3_sum 4 = .ok (.iload_n 1, 1) := by decide +kernel
theorem dX3_sum_5 : decode cX3_sum 5 = .ok (.invokevirtual 100, 3) := by decide +kernel
theorem dX3_sum_8 : decode cX3_sum 8 = .ok (.ifCond .ne 5, 3) := by decide +kernel
theorem dX3_sum_11 : decode cX3_sum 11 = .ok (.iconst (-1), 1) := by decide +kernel
theorem dX3_sum_12 : decode cX3_sum 12 = .ok (.ireturn, 1) := by decide +kernel
theorem dX3_sum_13 : decode cX3_sum 13 = .ok (.aload_n 0, 1) := by decide +kernel
theorem dX3_sum_14 : decode cX3_sum 14 = .ok (.getfield 56, 3) := by decide +kernel
theorem dX3_sum_17 : decode cX3_sum 17 = .ok (.invokevirtual 103, 3) := by decide +kernel
theorem dX3_sum_20 : decode cX3_sum 20 = .ok (.ifCond .ne 6, 3) := by decide +kernel
theorem dX3_sum_23 : decode cX3_sum 23 = .ok (.bipush (-2), 2) := by decide +kernel
theorem dX3_sum_25 : decode cX3_sum 25 = .ok (.ireturn, 1) := by decide +kernel
theorem dX3_sum_26 : decode cX3_sum 26 = .ok (.lconst 0, 1) := by decide +kernel
theorem dX3_sum_27 : decode cX3_sum 27 = .ok (.lstore_n 2, 1) := by decide +kernel
theorem dX3_sum_28 : decode cX3_sum 28 = .ok (.iconst 0, 1) := by decide +kernel
theorem dX3_sum_29 : decode cX3_sum 29 = .ok (.istore 4, 2) := by decide +kernel
theorem dX3_sum_31 : decode cX3_sum 31 = .ok (.iload 4, 2) := by decide +kernel
theorem dX3_sum_33 : decode cX3_sum 33 = .ok (.aload_n 0, 1) := by decide +kernel
theorem dX3_sum_34 : decode cX3_sum 34 = .ok (.getfield 27, 3) := by decide +kernel
theorem dX3_sum_37 : decode cX3_sum 37 = .ok (.if_icmp .ge 34, 3) := by decide +kernel
theorem dX3_sum_40 : decode cX3_sum 40 = .ok (.aload_n 0, 1) := by decide +kernel
theorem dX3_sum_41 : decode cX3_sum 41 = .ok (.getfield 56, 3) := by decide +kernel
theorem dX3_sum_44 : decode cX3_sum 44 = .ok (.invokevirtual 110, 3) := by decide +kernel
theorem dX3_sum_47 : decode cX3_sum 47 = .ok (.ifCond .ne 24, 3) := by decide +kernel
theorem dX3_sum_50 : decode cX3_sum 50 = .ok (.lload_n 2, 1) := by decide +kernel
theorem dX3_sum_51 : decode cX3_sum 51 = .ok (.aload_n 0, 1) := by decide +kernel
theorem dX3_sum_52 : decode cX3_sum 52 = .ok (.iload_n 1, 1) := by decide +kernel
theorem dX3_sum_53 : decode cX3_sum 53 = .ok (.aload_n 0, 1) := by decide +kernel
theorem dX3_sum_54 : decode cX3_sum 54 = .ok (.getfield 20, 3) := by decide +kernel
theorem dX3_sum_57 : decode cX3_sum 57 = .ok (.iload 4, 2) := by decide +kernel
theorem dX3_sum_59 : decode cX3_sum 59 = .ok (.iaload, 1) := by decide +kernel
theorem dX3_sum_60 : decode cX3_sum 60 = .ok (.invokevirtual 106, 3) := by decide +kernel
theorem dX3_sum_63 : decode cX3_sum 63 = .ok (.ladd, 1) := by decide +kernel
theorem dX3_sum_64 : decode cX3_sum 64 = .ok (.lstore_n 2, 1) := by decide +kernel
theorem dX3_sum_65 : decode cX3_sum 65 = .ok (.iinc 4 1, 3) := by decide +kernel
theorem dX3_sum_68 : decode cX3_sum 68 = .ok (.goto (-37), 3) := by decide +kernel
theorem dX3_sum_71 : decode cX3_sum 71 = .ok (.aload_n 0, 1) := by decide +kernel
theorem dX3_sum_72 : decode cX3_sum 72 = .ok (.getfield 56, 3) := by decide +kernel
theorem dX3_sum_75 : decode cX3_sum 75 = .ok (.invokevirtual 110, 3) := by decide +kernel
theorem dX3_sum_78 : decode cX3_sum 78 = .ok (.ifCond .eq 11, 3) := by decide +kernel
theorem dX3_sum_81 : decode cX3_sum 81 = .ok (.aload_n 0, 1) := by decide +kernel
theorem dX3_sum_82 : decode cX3_sum 82 = .ok (.getfield 56, 3) := by decide +kernel
theorem dX3_sum_85 : decode cX3_sum 85 = .ok (.invokevirtual 113, 3) := by decide +kernel
theorem dX3_sum_88 : decode cX3_sum 88 = .ok (.ireturn, 1) := by decide +kernel
theorem dX3_sum_89 : decode cX3_sum 89 = .ok (.aload_n 0, 1) := by decide +kernel
theorem dX3_sum_90 : decode cX3_sum 90 = .ok (.lload_n 2, 1) := by decide +kernel
theorem dX3_sum_91 : decode cX3_sum 91 = .ok (.putfield 60, 3) := by decide +kernel
theorem dX3_sum_94 : decode cX3_sum 94 = .ok (.iconst 1, 1) := by decide +kernel
theorem dX3_sum_95 : decode cX3_sum 95 = .ok (.ireturn, 1) := by decide +kernel
theorem dX3_group_0 : decode cX3_group 0 = .ok (.aload_n 0, 1) := by decide +kernel
theorem dX3_group_1 : decode cX3_group 1 = .ok (.getfield 33, 3) := by decide +kernel
theorem dX3_group_4 : decode cX3_group 4 = .ok (.iload_n 1, 1) := by decide +kernel
theorem dX3_group_5 : decode cX3_group 5 = .ok (.invokevirtual 100, 3) := by decide +kernel
theorem dX3_group_8 : decode cX3_group 8 = .ok (.ifCond .eq 14, 3) := by decide +kernel
theorem dX3_group_11 : decode cX3_group 11 = .ok (.aload_n 0, 1) := by decide +kernel
theorem dX3_group_12 : decode cX3_group 12 = .ok (.getfield 33, 3) := by decide +kernel
theorem dX3_group_15 : decode cX3_group 15 = .ok (.iload_n 2, 1) := by decide +kernel
theorem dX3_group_16 : decode cX3_group 16 = .ok (.invokevirtual 100, 3) := by decide +kernel
theorem dX3_group_19 : decode cX3_group 19 = .ok (.ifCond .ne 5, 3) := by decide +kernel
theorem dX3_group_22 : decode cX3_group 22 = .ok (.iconst (-1), 1) := by decide +kernel
theorem dX3_group_23 : decode cX3_group 23 = .ok (.ireturn, 1) := by decide +kernel
theorem dX3_group_24 : decode cX3_group 24 = .ok (.aload_n 0, 1) := by decide +kernel
theorem dX3_group_25 : decode cX3_group 25 = .ok (.getfield 56, 3) := by decide +kernel
theorem dX3_group_28 : decode cX3_group 28 = .ok (.invokevirtual 103, 3) := by decide +kernel
theorem dX3_group_31 : decode cX3_group 31 = .ok (.ifCond .ne 6, 3) := by decide +kernel
theorem dX3_group_34 : decode cX3_group 34 = .ok (.bipush (-2), 2) := by decide +kernel
theorem dX3_group_36 : decode cX3_group 36 = .ok (.ireturn, 1) := by decide +kernel
theorem dX3_group_37 : decode cX3_group 37 = .ok (.aload_n 0, 1) := by decide +kernel
theorem dX3_group_38 : decode cX3_group 38 = .ok (.getfield 50, 3) := by decide +kernel
theorem dX3_group_41 : decode cX3_group 41 = .ok (.invokevirtual 134, 3) := by decide +kernel
theorem dX3_group_44 : decode cX3_group 44 = .ok (.iconst 0, 1) := by decide +kernel
theorem dX3_group_45 : decode cX3_group 45 = .ok (.istore_n 3, 1) := by decide +kernel
theorem dX3_group_46 : decode cX3_group 46 = .ok (.iload_n 3, 1) := by decide +kernel
theorem dX3_group_47 : decode cX3_group 47 = .ok (.aload_n 0, 1) := by decide +kernel
theorem dX3_group_48 : decode cX3_group 48 = .ok (.getfield 27, 3) := by decide +kernel
theorem dX3_group_51 : decode cX3_group 51 = .ok (.if_icmp .ge 58, 3) := by decide +kernel
theorem dX3_group_54 : decode cX3_group 54 = .ok (.aload_n 0, 1) := by decide +kernel
theorem dX3_group_55 : decode cX3_group 55 = .ok (.getfield 56, 3) := by decide +kernel
theorem dX3_group_58 : decode cX3_group 58 = .ok (.invokevirtual 110, 3) := by decide +kernel
theorem dX3_group_61 : decode cX3_group 61 = .ok (.ifCond .ne 48, 3) := by decide +kernel
theorem dX3_group_64 : decode cX3_group 64 = .ok (.aload_n 0, 1) := by decide +kernel
theorem dX3_group_65 : decode cX3_group 65 = .ok (.iload_n 1, 1) := by decide +kernel
theorem dX3_group_66 : decode cX3_group 66 = .ok (.aload_n 0, 1) := by decide +kernel
theorem dX3_group_67 : decode cX3_group 67 = .ok (.getfield 20, 3) := by decide +kernel
theorem dX3_group_70 : decode cX3_group 70 = .ok (.iload_n 3, 1) := by decide +kernel
theorem dX3_group_71 : decode cX3_group 71 = .ok (.iaload, 1) := by decide +kernel
theorem dX3_group_72 : decode cX3_group 72 = .ok (.invokevirtual 106, 3) := by decide +kernel
theorem dX3_group_75 : decode cX3_group 75 = .ok (.lstore 4, 2) := by decide +kernel
theorem dX3_group_77 : decode cX3_group 77 = .ok (.aload_n 0, 1) := by decide +kernel
theorem dX3_group_78 : decode cX3_group 78 = .ok (.getfield 50, 3) := by decide +kernel
theorem dX3_group_81 : decode cX3_group 81 = .ok (.lload 4, 2) := by decide +kernel
theorem dX3_group_83 : decode cX3_group 83 = .ok (.aload_n 0, 1) := by decide +kernel
theorem dX3_group_84 : decode cX3_group 84 = .ok (.iload_n 2, 1) := by decide +kernel
theorem dX3_group_85 : decode cX3_group 85 = .ok (.aload_n 0, 1) := by decide +kernel
theorem dX3_group_86 : decode cX3_group 86 = .ok (.getfield 20, 3) := by decide +kernel
theorem dX3_group_89 : decode cX3_group 89 = .ok (.iload_n 3, 1) := by decide +kernel
theorem dX3_group_90 : decode cX3_group 90 = .ok (.iaload, 1) := by decide +kernel
theorem dX3_group_91 : decode cX3_group 91 = .ok (.invokevirtual 106, 3) := by decide +kernel
theorem dX3_group_94 : decode cX3_group 94 = .ok (.aload_n 0, 1) := by decide +kernel
theorem dX3_group_95 : decode cX3_group 95 = .ok (.getfield 20, 3) := by decide +kernel
theorem dX3_group_98 : decode cX3_group 98 = .ok (.iload_n 3, 1) := by decide +kernel
theorem dX3_group_99 : decode cX3_group 99 = .ok (.iaload, 1) := by decide +kernel
theorem dX3_group_100 : decode cX3_group 100 = .ok (.invokevirtual 137, 3) := by decide +kernel
theorem dX3_group_103 : decode cX3_group 103 = .ok (.iinc 3 1, 3) := by decide +kernel
theorem dX3_group_106 : decode cX3_group 106 = .ok (.goto (-60), 3) := by decide +kernel
theorem dX3_group_109 : decode cX3_group 109 = .ok (.aload_n 0, 1) := by decide +kernel
theorem dX3_group_110 : decode cX3_group 110 = .ok (.getfield 56, 3) := by decide +kernel
theorem dX3_group_113 : decode cX3_group 113 = .ok (.invokevirtual 110, 3) := by decide +kernel
theorem dX3_group_116 : decode cX3_group 116 = .ok (.ifCond .eq 11, 3) := by decide +kernel
theorem dX3_group_119 : decode cX3_group 119 = .ok (.aload_n 0, 1) := by decide +kernel
theorem dX3_group_120 : decode cX3_group 120 = .ok (.getfield 56, 3) := by decide +kernel
theorem dX3_group_123 : decode cX3_group 123 = .ok (.invokevirtual 113, 3) := by decide +kernel
theorem dX3_group_126 : decode cX3_group 126 = .ok (.ireturn, 1) := by decide +kernel
theorem dX3_group_127 : decode cX3_group 127 = .ok (.aload_n 0, 1) := by decide +kernel
theorem dX3_group_128 : decode cX3_group 128 = .ok (.getfield 46, 3) := by decide +kernel
theorem dX3_group_131 : decode cX3_group 131 = .ok (.astore_n 3, 1) := by decide +kernel
theorem dX3_group_132 : decode cX3_group 132 = .ok (.aload_n 0, 1) := by decide +kernel
theorem dX3_group_133 : decode cX3_group 133 = .ok (.aload_n 0, 1) := by decide +kernel
theorem dX3_group_134 : decode cX3_group 134 = .ok (.getfield 50, 3) := by decide +kernel
theorem dX3_group_137 : decode cX3_group 137 = .ok (.putfield 46, 3) := by decide +kernel
theorem dX3_group_140 : decode cX3_group 140 = .ok (.aload_n 0, 1) := by decide +kernel
theorem dX3_group_141 : decode cX3_group 141 = .ok (.aload_n 3, 1) := by decide +kernel
theorem dX3_group_142 : decode cX3_group 142 = .ok (.putfield 50, 3) := by decide +kernel
theorem dX3_group_145 : decode cX3_group 145 = .ok (.aload_n 0, 1) := by decide +kernel
theorem dX3_group_146 : decode cX3_group 146 = .ok (.getfield 46, 3) := by decide +kernel
theorem dX3_group_149 : decode cX3_group 149 = .ok (.getfield 141, 3) := by decide +kernel
theorem dX3_group_152 : decode cX3_group 152 = .ok (.ireturn, 1) := by decide +kernel
theorem dX3_answer_0 : decode cX3_answer 0 = .ok (.aload_n 0, 1) := by decide +kernel
theorem dX3_answer_1 : decode cX3_answer 1 = .ok (.getfield 60, 3) := by decide +kernel
theorem dX3_answer_4 : decode cX3_answer 4 = .ok (.lreturn, 1) := by decide +kernel
theorem dX3_groups_0 : decode cX3_groups 0 = .ok (.aload_n 0, 1) := by decide +kernel
theorem dX3_groups_1 : decode cX3_groups 1 = .ok (.getfield 46, 3) := by decide +kernel
theorem dX3_groups_4 : decode cX3_groups 4 = .ok (.iload_n 1, 1) := by decide +kernel
theorem dX3_groups_5 : decode cX3_groups 5 = .ok (.iload_n 2, 1) := by decide +kernel
theorem dX3_groups_6 : decode cX3_groups 6 = .ok (.invokevirtual 144, 3) := by decide +kernel
theorem dX3_groups_9 : decode cX3_groups 9 = .ok (.lreturn, 1) := by decide +kernel
theorem dX3_count_0 : decode cX3_count 0 = .ok (.iload_n 1, 1) := by decide +kernel
theorem dX3_count_1 : decode cX3_count 1 = .ok (.tableswitch 141 0 10 #[59, 64, 72, 80, 88, 93, 101, 109, 117, 125, 133], 59) := by decide +kernel
theorem dX3_count_60 : decode cX3_count 60 = .ok (.aload_n 0, 1) := by decide +kernel
theorem dX3_count_61 : decode cX3_count 61 = .ok (.getfield 13, 3) := by decide +kernel
theorem dX3_count_64 : decode cX3_count 64 = .ok (.ireturn, 1) := by decide +kernel
theorem dX3_count_65 : decode cX3_count 65 = .ok (.aload_n 0, 1) := by decide +kernel
theorem dX3_count_66 : decode cX3_count 66 = .ok (.getfield 33, 3) := by decide +kernel
theorem dX3_count_69 : decode cX3_count 69 = .ok (.getfield 147, 3) := by decide +kernel
theorem dX3_count_72 : decode cX3_count 72 = .ok (.ireturn, 1) := by decide +kernel
theorem dX3_count_73 : decode cX3_count 73 = .ok (.aload_n 0, 1) := by decide +kernel
theorem dX3_count_74 : decode cX3_count 74 = .ok (.getfield 37, 3) := by decide +kernel
theorem dX3_count_77 : decode cX3_count 77 = .ok (.getfield 147, 3) := by decide +kernel
theorem dX3_count_80 : decode cX3_count 80 = .ok (.ireturn, 1) := by decide +kernel
theorem dX3_count_81 : decode cX3_count 81 = .ok (.aload_n 0, 1) := by decide +kernel
theorem dX3_count_82 : decode cX3_count 82 = .ok (.getfield 40, 3) := by decide +kernel
theorem dX3_count_85 : decode cX3_count 85 = .ok (.getfield 147, 3) := by decide +kernel
theorem dX3_count_88 : decode cX3_count 88 = .ok (.ireturn, 1) := by decide +kernel
theorem dX3_count_89 : decode cX3_count 89 = .ok (.aload_n 0, 1) := by decide +kernel
theorem dX3_count_90 : decode cX3_count 90 = .ok (.getfield 27, 3) := by decide +kernel
theorem dX3_count_93 : decode cX3_count 93 = .ok (.ireturn, 1) := by decide +kernel
theorem dX3_count_94 : decode cX3_count 94 = .ok (.aload_n 0, 1) := by decide +kernel
theorem dX3_count_95 : decode cX3_count 95 = .ok (.getfield 46, 3) := by decide +kernel
theorem dX3_count_98 : decode cX3_count 98 = .ok (.getfield 141, 3) := by decide +kernel
theorem dX3_count_101 : decode cX3_count 101 = .ok (.ireturn, 1) := by decide +kernel
theorem dX3_count_102 : decode cX3_count 102 = .ok (.aload_n 0, 1) := by decide +kernel
theorem dX3_count_103 : decode cX3_count 103 = .ok (.getfield 56, 3) := by decide +kernel
theorem dX3_count_106 : decode cX3_count 106 = .ok (.getfield 148, 3) := by decide +kernel
theorem dX3_count_109 : decode cX3_count 109 = .ok (.ireturn, 1) := by decide +kernel
theorem dX3_count_110 : decode cX3_count 110 = .ok (.aload_n 0, 1) := by decide +kernel
theorem dX3_count_111 : decode cX3_count 111 = .ok (.getfield 56, 3) := by decide +kernel
theorem dX3_count_114 : decode cX3_count 114 = .ok (.getfield 151, 3) := by decide +kernel
theorem dX3_count_117 : decode cX3_count 117 = .ok (.ireturn, 1) := by decide +kernel
theorem dX3_count_118 : decode cX3_count 118 = .ok (.aload_n 0, 1) := by decide +kernel
theorem dX3_count_119 : decode cX3_count 119 = .ok (.getfield 56, 3) := by decide +kernel
theorem dX3_count_122 : decode cX3_count 122 = .ok (.getfield 154, 3) := by decide +kernel
theorem dX3_count_125 : decode cX3_count 125 = .ok (.ireturn, 1) := by decide +kernel
theorem dX3_count_126 : decode cX3_count 126 = .ok (.aload_n 0, 1) := by decide +kernel
theorem dX3_count_127 : decode cX3_count 127 = .ok (.getfield 56, 3) := by decide +kernel
theorem dX3_count_130 : decode cX3_count 130 = .ok (.getfield 157, 3) := by decide +kernel
theorem dX3_count_133 : decode cX3_count 133 = .ok (.ireturn, 1) := by decide +kernel
theorem dX3_count_134 : decode cX3_count 134 = .ok (.aload_n 0, 1) := by decide +kernel
theorem dX3_count_135 : decode cX3_count 135 = .ok (.getfield 56, 3) := by decide +kernel
theorem dX3_count_138 : decode cX3_count 138 = .ok (.getfield 160, 3) := by decide +kernel
theorem dX3_count_141 : decode cX3_count 141 = .ok (.ireturn, 1) := by decide +kernel
theorem dX3_count_142 : decode cX3_count 142 = .ok (.iconst (-1), 1) := by decide +kernel
theorem dX3_count_143 : decode cX3_count 143 = .ok (.ireturn, 1) := by decide +kernel
theorem dX3_isThing_0 : decode cX3_isThing 0 = .ok (.iload_n 1, 1) := by decide +kernel
theorem dX3_isThing_1 : decode cX3_isThing 1 = .ok (.ifCond .lt 15, 3) := by decide +kernel
theorem dX3_isThing_4 : decode cX3_isThing 4 = .ok (.iload_n 1, 1) := by decide +kernel
theorem dX3_isThing_5 : decode cX3_isThing 5 = .ok (.aload_n 0, 1) := by decide +kernel
theorem dX3_isThing_6 : decode cX3_isThing 6 = .ok (.getfield 13, 3) := by decide +kernel
theorem dX3_isThing_9 : decode cX3_isThing 9 = .ok (.if_icmp .ge 7, 3) := by decide +kernel
theorem dX3_isThing_12 : decode cX3_isThing 12 = .ok (.iconst 1, 1) := by decide +kernel
theorem dX3_isThing_13 : decode cX3_isThing 13 = .ok (.goto 4, 3) := by decide +kernel
theorem dX3_isThing_16 : decode cX3_isThing 16 = .ok (.iconst 0, 1) := by decide +kernel
theorem dX3_isThing_17 : decode cX3_isThing 17 = .ok (.ireturn, 1) := by decide +kernel
theorem dX3_isColumn_0 : decode cX3_isColumn 0 = .ok (.iload_n 0, 1) := by decide +kernel
theorem dX3_isColumn_1 : decode cX3_isColumn 1 = .ok (.ifCond .lt 12, 3) := by decide +kernel
theorem dX3_isColumn_4 : decode cX3_isColumn 4 = .ok (.iload_n 0, 1) := by decide +kernel
theorem dX3_isColumn_5 : decode cX3_isColumn 5 = .ok (.iconst 3, 1) := by decide +kernel
theorem dX3_isColumn_6 : decode cX3_isColumn 6 = .ok (.if_icmp .ge 7, 3) := by decide +kernel
theorem dX3_isColumn_9 : decode cX3_isColumn 9 = .ok (.iconst 1, 1) := by decide +kernel
theorem dX3_isColumn_10 : decode cX3_isColumn 10 = .ok (.goto 4, 3) := by decide +kernel
theorem dX3_isColumn_13 : decode cX3_isColumn 13 = .ok (.iconst 0, 1) := by decide +kernel
theorem dX3_isColumn_14 : decode cX3_isColumn 14 = .ok (.ireturn, 1) := by decide +kernel
theorem dX3_isPlaceOfRow_0 : decode cX3_isPlaceOfRow 0 = .ok (.lload_n 0, 1) := by decide +kernel
theorem dX3_isPlaceOfRow_1 : decode cX3_isPlaceOfRow 1 = .ok (.lconst 0, 1) := by decide +kernel
theorem dX3_isPlaceOfRow_2 : decode cX3_isPlaceOfRow 2 = .ok (.lcmp, 1) := by decide +kernel
theorem dX3_isPlaceOfRow_3 : decode cX3_isPlaceOfRow 3 = .ok (.ifCond .lt 15, 3) := by decide +kernel
theorem dX3_isPlaceOfRow_6 : decode cX3_isPlaceOfRow 6 = .ok (.lload_n 0, 1) := by decide +kernel
theorem dX3_isPlaceOfRow_7 : decode cX3_isPlaceOfRow 7 = .ok (.ldc2_w 163, 3) := by decide +kernel
theorem dX3_isPlaceOfRow_10 : decode cX3_isPlaceOfRow 10 = .ok (.lcmp, 1) := by decide +kernel
theorem dX3_isPlaceOfRow_11 : decode cX3_isPlaceOfRow 11 = .ok (.ifCond .ge 7, 3) := by decide +kernel
theorem dX3_isPlaceOfRow_14 : decode cX3_isPlaceOfRow 14 = .ok (.iconst 1, 1) := by decide +kernel
theorem dX3_isPlaceOfRow_15 : decode cX3_isPlaceOfRow 15 = .ok (.goto 4, 3) := by decide +kernel
theorem dX3_isPlaceOfRow_18 : decode cX3_isPlaceOfRow 18 = .ok (.iconst 0, 1) := by decide +kernel
theorem dX3_isPlaceOfRow_19 : decode cX3_isPlaceOfRow 19 = .ok (.ireturn, 1) := by decide +kernel
theorem dX3_cellOf_0 : decode cX3_cellOf 0 = .ok (.iload_n 0, 1) := by decide +kernel
theorem dX3_cellOf_1 : decode cX3_cellOf 1 = .ok (.iconst 3, 1) := by decide +kernel
theorem dX3_cellOf_2 : decode cX3_cellOf 2 = .ok (.imul, 1) := by decide +kernel
theorem dX3_cellOf_3 : decode cX3_cellOf 3 = .ok (.iload_n 1, 1) := by decide +kernel
theorem dX3_cellOf_4 : decode cX3_cellOf 4 = .ok (.iadd, 1) := by decide +kernel
theorem dX3_cellOf_5 : decode cX3_cellOf 5 = .ok (.ireturn, 1) := by decide +kernel
theorem dX3_canMakeScale_0 : decode cX3_canMakeScale 0 = .ok (.iload_n 1, 1) := by decide +kernel
theorem dX3_canMakeScale_1 : decode cX3_canMakeScale 1 = .ok (.tableswitch 166 0 11 #[63, 164, 68, 68, 68, 68, 96, 124, 133, 139, 164, 164], 63) := by decide +kernel
theorem dX3_canMakeScale_64 : decode cX3_canMakeScale 64 = .ok (.iload_n 2, 1) := by decide +kernel
theorem dX3_canMakeScale_65 : decode cX3_canMakeScale 65 = .ok (.invokestatic 72, 3) := by decide +kernel
theorem dX3_canMakeScale_68 : decode cX3_canMakeScale 68 = .ok (.ireturn, 1) := by decide +kernel
theorem dX3_canMakeScale_69 : decode cX3_canMakeScale 69 = .ok (.aload_n 0, 1) := by decide +kernel
theorem dX3_canMakeScale_70 : decode cX3_canMakeScale 70 = .ok (.getfield 33, 3) := by decide +kernel
theorem dX3_canMakeScale_73 : decode cX3_canMakeScale 73 = .ok (.iload_n 2, 1) := by decide +kernel
theorem dX3_canMakeScale_74 : decode cX3_canMakeScale 74 = .ok (.invokevirtual 100, 3) := by decide +kernel
theorem dX3_canMakeScale_77 : decode cX3_canMakeScale 77 = .ok (.ifCond .eq 18, 3) := by decide +kernel
theorem dX3_canMakeScale_80 : decode cX3_canMakeScale 80 = .ok (.aload_n 0, 1) := by decide +kernel
theorem dX3_canMakeScale_81 : decode cX3_canMakeScale 81 = .ok (.getfield 33, 3) := by decide +kernel
theorem dX3_canMakeScale_84 : decode cX3_canMakeScale 84 = .ok (.iload_n 3, 1) := by decide +kernel
theorem dX3_canMakeScale_85 : decode cX3_canMakeScale 85 = .ok (.invokevirtual 100, 3) := by decide +kernel
theorem dX3_canMakeScale_88 : decode cX3_canMakeScale 88 = .ok (.ifCond .eq 7, 3) := by decide +kernel
theorem dX3_canMakeScale_91 : decode cX3_canMakeScale 91 = .ok (.iconst 1, 1) := by decide +kernel
theorem dX3_canMakeScale_92 : decode cX3_canMakeScale 92 = .ok (.goto 4, 3) := by decide +kernel
theorem dX3_canMakeScale_95 : decode cX3_canMakeScale 95 = .ok (.iconst 0, 1) := by decide +kernel
theorem dX3_canMakeScale_96 : decode cX3_canMakeScale 96 = .ok (.ireturn, 1) := by decide +kernel
theorem dX3_canMakeScale_97 : decode cX3_canMakeScale 97 = .ok (.aload_n 0, 1) := by decide +kernel
theorem dX3_canMakeScale_98 : decode cX3_canMakeScale 98 = .ok (.getfield 37, 3) := by decide +kernel
theorem dX3_canMakeScale_101 : decode cX3_canMakeScale 101 = .ok (.iload_n 2, 1) := by decide +kernel
theorem dX3_canMakeScale_102 : decode cX3_canMakeScale 102 = .ok (.invokevirtual 100, 3) := by decide +kernel
theorem dX3_canMakeScale_105 : decode cX3_canMakeScale 105 = .ok (.ifCond .eq 18, 3) := by decide +kernel
theorem dX3_canMakeScale_108 : decode cX3_canMakeScale 108 = .ok (.aload_n 0, 1) := by decide +kernel
theorem dX3_canMakeScale_109 : decode cX3_canMakeScale 109 = .ok (.getfield 33, 3) := by decide +kernel
theorem dX3_canMakeScale_112 : decode cX3_canMakeScale 112 = .ok (.iload_n 3, 1) := by decide +kernel
theorem dX3_canMakeScale_113 : decode cX3_canMakeScale 113 = .ok (.invokevirtual 100, 3) := by decide +kernel
theorem dX3_canMakeScale_116 : decode cX3_canMakeScale 116 = .ok (.ifCond .eq 7, 3) := by decide +kernel
theorem dX3_canMakeScale_119 : decode cX3_canMakeScale 119 = .ok (.iconst 1, 1) := by decide +kernel
theorem dX3_canMakeScale_120 : decode cX3_canMakeScale 120 = .ok (.goto 4, 3) := by decide +kernel
theorem dX3_canMakeScale_123 : decode cX3_canMakeScale 123 = .ok (.iconst 0, 1) := by decide +kernel
theorem dX3_canMakeScale_124 : decode cX3_canMakeScale 124 = .ok (.ireturn, 1) := by decide +kernel
theorem dX3_canMakeScale_125 : decode cX3_canMakeScale 125 = .ok (.aload_n 0, 1) := by decide +kernel
theorem dX3_canMakeScale_126 : decode cX3_canMakeScale 126 = .ok (.getfield 33, 3) := by decide +kernel
theorem dX3_canMakeScale_129 : decode cX3_canMakeScale 129 = .ok (.iload_n 2, 1) := by decide +kernel
theorem dX3_canMakeScale_130 : decode cX3_canMakeScale 130 = .ok (.invokevirtual 100, 3) := by decide +kernel
theorem dX3_canMakeScale_133 : decode cX3_canMakeScale 133 = .ok (.ireturn, 1) := by decide +kernel
theorem dX3_canMakeScale_134 : decode cX3_canMakeScale 134 = .ok (.iload_n 2, 1) := by decide +kernel
theorem dX3_canMakeScale_135 : decode cX3_canMakeScale 135 = .ok (.i2l, 1) := by decide +kernel
theorem dX3_canMakeScale_136 : decode cX3_canMakeScale 136 = .ok (.invokestatic 75, 3) := by decide +kernel
theorem dX3_canMakeScale_139 : decode cX3_canMakeScale 139 = .ok (.ireturn, 1) := by decide +kernel
theorem dX3_canMakeScale_140 : decode cX3_canMakeScale 140 = .ok (.aload_n 0, 1) := by decide +kernel
theorem dX3_canMakeScale_141 : decode cX3_canMakeScale 141 = .ok (.getfield 33, 3) := by decide +kernel
theorem dX3_canMakeScale_144 : decode cX3_canMakeScale 144 = .ok (.iload_n 2, 1) := by decide +kernel
theorem dX3_canMakeScale_145 : decode cX3_canMakeScale 145 = .ok (.invokevirtual 100, 3) := by decide +kernel
theorem dX3_canMakeScale_148 : decode cX3_canMakeScale 148 = .ok (.ifCond .eq 15, 3) := by decide +kernel
theorem dX3_canMakeScale_151 : decode cX3_canMakeScale 151 = .ok (.aload_n 0, 1) := by decide +kernel
theorem dX3_canMakeScale_152 : decode cX3_canMakeScale 152 = .ok (.iload_n 3, 1) := by decide +kernel
theorem dX3_canMakeScale_153 : decode cX3_canMakeScale 153 = .ok (.invokevirtual 68, 3) := by decide +kernel
theorem dX3_canMakeScale_156 : decode cX3_canMakeScale 156 = .ok (.ifCond .eq 7, 3) := by decide +kernel
theorem dX3_canMakeScale_159 : decode cX3_canMakeScale 159 = .ok (.iconst 1, 1) := by decide +kernel
theorem dX3_canMakeScale_160 : decode cX3_canMakeScale 160 = .ok (.goto 4, 3) := by decide +kernel
theorem dX3_canMakeScale_163 : decode cX3_canMakeScale 163 = .ok (.iconst 0, 1) := by decide +kernel
theorem dX3_canMakeScale_164 : decode cX3_canMakeScale 164 = .ok (.ireturn, 1) := by decide +kernel
theorem dX3_canMakeScale_165 : decode cX3_canMakeScale 165 = .ok (.iconst 1, 1) := by decide +kernel
theorem dX3_canMakeScale_166 : decode cX3_canMakeScale 166 = .ok (.ireturn, 1) := by decide +kernel
theorem dX3_canMakeScale_167 : decode cX3_canMakeScale 167 = .ok (.iconst 0, 1) := by decide +kernel
theorem dX3_canMakeScale_168 : decode cX3_canMakeScale 168 = .ok (.ireturn, 1) := by decide +kernel
theorem dX3_canMakeSieve_0 : decode cX3_canMakeSieve 0 = .ok (.iload_n 1, 1) := by decide +kernel
theorem dX3_canMakeSieve_1 : decode cX3_canMakeSieve 1 = .ok (.tableswitch 122 0 9 #[120, 55, 55, 83, 92, 92, 120, 120, 83, 120], 55) := by decide +kernel
theorem dX3_canMakeSieve_56 : decode cX3_canMakeSieve 56 = .ok (.aload_n 0, 1) := by decide +kernel
theorem dX3_canMakeSieve_57 : decode cX3_canMakeSieve 57 = .ok (.getfield 33, 3) := by decide +kernel
theorem dX3_canMakeSieve_60 : decode cX3_canMakeSieve 60 = .ok (.iload_n 2, 1) := by decide +kernel
theorem dX3_canMakeSieve_61 : decode cX3_canMakeSieve 61 = .ok (.invokevirtual 100, 3) := by decide +kernel
theorem dX3_canMakeSieve_64 : decode cX3_canMakeSieve 64 = .ok (.ifCond .eq 18, 3) := by decide +kernel
theorem dX3_canMakeSieve_67 : decode cX3_canMakeSieve 67 = .ok (.aload_n 0, 1) := by decide +kernel
theorem dX3_canMakeSieve_68 : decode cX3_canMakeSieve 68 = .ok (.getfield 33, 3) := by decide +kernel
theorem dX3_canMakeSieve_71 : decode cX3_canMakeSieve 71 = .ok (.iload_n 3, 1) := by decide +kernel
theorem dX3_canMakeSieve_72 : decode cX3_canMakeSieve 72 = .ok (.invokevirtual 100, 3) := by decide +kernel
theorem dX3_canMakeSieve_75 : decode cX3_canMakeSieve 75 = .ok (.ifCond .eq 7, 3) := by decide +kernel
theorem dX3_canMakeSieve_78 : decode cX3_canMakeSieve 78 = .ok (.iconst 1, 1) := by decide +kernel
theorem dX3_canMakeSieve_79 : decode cX3_canMakeSieve 79 = .ok (.goto 4, 3) := by decide +kernel
theorem dX3_canMakeSieve_82 : decode cX3_canMakeSieve 82 = .ok (.iconst 0, 1) := by decide +kernel
theorem dX3_canMakeSieve_83 : decode cX3_canMakeSieve 83 = .ok (.ireturn, 1) := by decide +kernel
theorem dX3_canMakeSieve_84 : decode cX3_canMakeSieve 84 = .ok (.aload_n 0, 1) := by decide +kernel
theorem dX3_canMakeSieve_85 : decode cX3_canMakeSieve 85 = .ok (.getfield 37, 3) := by decide +kernel
theorem dX3_canMakeSieve_88 : decode cX3_canMakeSieve 88 = .ok (.iload_n 2, 1) := by decide +kernel
theorem dX3_canMakeSieve_89 : decode cX3_canMakeSieve 89 = .ok (.invokevirtual 100, 3) := by decide +kernel
theorem dX3_canMakeSieve_92 : decode cX3_canMakeSieve 92 = .ok (.ireturn, 1) := by decide +kernel
theorem dX3_canMakeSieve_93 : decode cX3_canMakeSieve 93 = .ok (.aload_n 0, 1) := by decide +kernel
theorem dX3_canMakeSieve_94 : decode cX3_canMakeSieve 94 = .ok (.getfield 37, 3) := by decide +kernel
theorem dX3_canMakeSieve_97 : decode cX3_canMakeSieve 97 = .ok (.iload_n 2, 1) := by decide +kernel
theorem dX3_canMakeSieve_98 : decode cX3_canMakeSieve 98 = .ok (.invokevirtual 100, 3) := by decide +kernel
theorem dX3_canMakeSieve_101 : decode cX3_canMakeSieve 101 = .ok (.ifCond .eq 18, 3) := by decide +kernel
theorem dX3_canMakeSieve_104 : decode cX3_canMakeSieve 104 = .ok (.aload_n 0, 1) := by decide +kernel
theorem dX3_canMakeSieve_105 : decode cX3_canMakeSieve 105 = .ok (.getfield 37, 3) := by decide +kernel
theorem dX3_canMakeSieve_108 : decode cX3_canMakeSieve 108 = .ok (.iload_n 3, 1) := by decide +kernel
theorem dX3_canMakeSieve_109 : decode cX3_canMakeSieve 109 = .ok (.invokevirtual 100, 3) := by decide +kernel
theorem dX3_canMakeSieve_112 : decode cX3_canMakeSieve 112 = .ok (.ifCond .eq 7, 3) := by decide +kernel
theorem dX3_canMakeSieve_115 : decode cX3_canMakeSieve 115 = .ok (.iconst 1, 1) := by decide +kernel
theorem dX3_canMakeSieve_116 : decode cX3_canMakeSieve 116 = .ok (.goto 4, 3) := by decide +kernel
theorem dX3_canMakeSieve_119 : decode cX3_canMakeSieve 119 = .ok (.iconst 0, 1) := by decide +kernel
theorem dX3_canMakeSieve_120 : decode cX3_canMakeSieve 120 = .ok (.ireturn, 1) := by decide +kernel
theorem dX3_canMakeSieve_121 : decode cX3_canMakeSieve 121 = .ok (.iconst 1, 1) := by decide +kernel
theorem dX3_canMakeSieve_122 : decode cX3_canMakeSieve 122 = .ok (.ireturn, 1) := by decide +kernel
theorem dX3_canMakeSieve_123 : decode cX3_canMakeSieve 123 = .ok (.iconst 0, 1) := by decide +kernel
theorem dX3_canMakeSieve_124 : decode cX3_canMakeSieve 124 = .ok (.ireturn, 1) := by decide +kernel
theorem dX3_canMakeOrder_0 : decode cX3_canMakeOrder 0 = .ok (.iload_n 1, 1) := by decide +kernel
theorem dX3_canMakeOrder_1 : decode cX3_canMakeOrder 1 = .ok (.tableswitch 96 0 5 #[39, 48, 57, 85, 94, 94], 39) := by decide +kernel
theorem dX3_canMakeOrder_40 : decode cX3_canMakeOrder 40 = .ok (.aload_n 0, 1) := by decide +kernel
theorem dX3_canMakeOrder_41 : decode cX3_canMakeOrder 41 = .ok (.getfield 33, 3) := by decide +kernel
theorem dX3_canMakeOrder_44 : decode cX3_canMakeOrder 44 = .ok (.iload_n 2, 1) := by decide +kernel
theorem dX3_canMakeOrder_45 : decode cX3_canMakeOrder 45 = .ok (.invokevirtual 100, 3) := by decide +kernel
theorem dX3_canMakeOrder_48 : decode cX3_canMakeOrder 48 = .ok (.ireturn, 1) := by decide +kernel
theorem dX3_canMakeOrder_49 : decode cX3_canMakeOrder 49 = .ok (.aload_n 0, 1) := by decide +kernel
theorem dX3_canMakeOrder_50 : decode cX3_canMakeOrder 50 = .ok (.getfield 40, 3) := by decide +kernel
theorem dX3_canMakeOrder_53 : decode cX3_canMakeOrder 53 = .ok (.iload_n 2, 1) := by decide +kernel
theorem dX3_canMakeOrder_54 : decode cX3_canMakeOrder 54 = .ok (.invokevirtual 100, 3) := by decide +kernel
theorem dX3_canMakeOrder_57 : decode cX3_canMakeOrder 57 = .ok (.ireturn, 1) := by decide +kernel
theorem dX3_canMakeOrder_58 : decode cX3_canMakeOrder 58 = .ok (.aload_n 0, 1) := by decide +kernel
theorem dX3_canMakeOrder_59 : decode cX3_canMakeOrder 59 = .ok (.getfield 40, 3) := by decide +kernel
theorem dX3_canMakeOrder_62 : decode cX3_canMakeOrder 62 = .ok (.iload_n 2, 1) := by decide +kernel
theorem dX3_canMakeOrder_63 : decode cX3_canMakeOrder 63 = .ok (.invokevirtual 100, 3) := by decide +kernel
theorem dX3_canMakeOrder_66 : decode cX3_canMakeOrder 66 = .ok (.ifCond .eq 18, 3) := by decide +kernel
theorem dX3_canMakeOrder_69 : decode cX3_canMakeOrder 69 = .ok (.aload_n 0, 1) := by decide +kernel
theorem dX3_canMakeOrder_70 : decode cX3_canMakeOrder 70 = .ok (.getfield 40, 3) := by decide +kernel
theorem dX3_canMakeOrder_73 : decode cX3_canMakeOrder 73 = .ok (.iload_n 3, 1) := by decide +kernel
theorem dX3_canMakeOrder_74 : decode cX3_canMakeOrder 74 = .ok (.invokevirtual 100, 3) := by decide +kernel
theorem dX3_canMakeOrder_77 : decode cX3_canMakeOrder 77 = .ok (.ifCond .eq 7, 3) := by decide +kernel
theorem dX3_canMakeOrder_80 : decode cX3_canMakeOrder 80 = .ok (.iconst 1, 1) := by decide +kernel
theorem dX3_canMakeOrder_81 : decode cX3_canMakeOrder 81 = .ok (.goto 4, 3) := by decide +kernel
theorem dX3_canMakeOrder_84 : decode cX3_canMakeOrder 84 = .ok (.iconst 0, 1) := by decide +kernel
theorem dX3_canMakeOrder_85 : decode cX3_canMakeOrder 85 = .ok (.ireturn, 1) := by decide +kernel
theorem dX3_canMakeOrder_86 : decode cX3_canMakeOrder 86 = .ok (.aload_n 0, 1) := by decide +kernel
theorem dX3_canMakeOrder_87 : decode cX3_canMakeOrder 87 = .ok (.getfield 37, 3) := by decide +kernel
theorem dX3_canMakeOrder_90 : decode cX3_canMakeOrder 90 = .ok (.iload_n 2, 1) := by decide +kernel
theorem dX3_canMakeOrder_91 : decode cX3_canMakeOrder 91 = .ok (.invokevirtual 100, 3) := by decide +kernel
theorem dX3_canMakeOrder_94 : decode cX3_canMakeOrder 94 = .ok (.ireturn, 1) := by decide +kernel
theorem dX3_canMakeOrder_95 : decode cX3_canMakeOrder 95 = .ok (.iconst 1, 1) := by decide +kernel
theorem dX3_canMakeOrder_96 : decode cX3_canMakeOrder 96 = .ok (.ireturn, 1) := by decide +kernel
theorem dX3_canMakeOrder_97 : decode cX3_canMakeOrder 97 = .ok (.iconst 0, 1) := by decide +kernel
theorem dX3_canMakeOrder_98 : decode cX3_canMakeOrder 98 = .ok (.ireturn, 1) := by decide +kernel
theorem dX3_makeNow_0 : decode cX3_makeNow 0 = .ok (.aload_n 0, 1) := by decide +kernel
theorem dX3_makeNow_1 : decode cX3_makeNow 1 = .ok (.getfield 56, 3) := by decide +kernel
theorem dX3_makeNow_4 : decode cX3_makeNow 4 = .ok (.invokevirtual 103, 3) := by decide +kernel
theorem dX3_makeNow_7 : decode cX3_makeNow 7 = .ok (.ifCond .ne 6, 3) := by decide +kernel
theorem dX3_makeNow_10 : decode cX3_makeNow 10 = .ok (.bipush (-2), 2) := by decide +kernel
theorem dX3_makeNow_12 : decode cX3_makeNow 12 = .ok (.ireturn, 1) := by decide +kernel
theorem dX3_makeNow_13 : decode cX3_makeNow 13 = .ok (.aload_n 0, 1) := by decide +kernel
theorem dX3_makeNow_14 : decode cX3_makeNow 14 = .ok (.iload_n 1, 1) := by decide +kernel
theorem dX3_makeNow_15 : decode cX3_makeNow 15 = .ok (.iload_n 2, 1) := by decide +kernel
theorem dX3_makeNow_16 : decode cX3_makeNow 16 = .ok (.invokevirtual 106, 3) := by decide +kernel
theorem dX3_makeNow_19 : decode cX3_makeNow 19 = .ok (.lstore_n 3, 1) := by decide +kernel
theorem dX3_makeNow_20 : decode cX3_makeNow 20 = .ok (.aload_n 0, 1) := by decide +kernel
theorem dX3_makeNow_21 : decode cX3_makeNow 21 = .ok (.getfield 56, 3) := by decide +kernel
theorem dX3_makeNow_24 : decode cX3_makeNow 24 = .ok (.invokevirtual 110, 3) := by decide +kernel
theorem dX3_makeNow_27 : decode cX3_makeNow 27 = .ok (.ifCond .eq 11, 3) := by decide +kernel
theorem dX3_makeNow_30 : decode cX3_makeNow 30 = .ok (.aload_n 0, 1) := by decide +kernel
theorem dX3_makeNow_31 : decode cX3_makeNow 31 = .ok (.getfield 56, 3) := by decide +kernel
theorem dX3_makeNow_34 : decode cX3_makeNow 34 = .ok (.invokevirtual 113, 3) := by decide +kernel
theorem dX3_makeNow_37 : decode cX3_makeNow 37 = .ok (.ireturn, 1) := by decide +kernel
theorem dX3_makeNow_38 : decode cX3_makeNow 38 = .ok (.aload_n 0, 1) := by decide +kernel
theorem dX3_makeNow_39 : decode cX3_makeNow 39 = .ok (.getfield 33, 3) := by decide +kernel
theorem dX3_makeNow_42 : decode cX3_makeNow 42 = .ok (.bipush 9, 2) := by decide +kernel
theorem dX3_makeNow_44 : decode cX3_makeNow 44 = .ok (.iload_n 1, 1) := by decide +kernel
theorem dX3_makeNow_45 : decode cX3_makeNow 45 = .ok (.iload_n 2, 1) := by decide +kernel
theorem dX3_makeNow_46 : decode cX3_makeNow 46 = .ok (.lload_n 3, 1) := by decide +kernel
theorem dX3_makeNow_47 : decode cX3_makeNow 47 = .ok (.invokevirtual 90, 3) := by decide +kernel
theorem dX3_makeNow_50 : decode cX3_makeNow 50 = .ok (.ireturn, 1) := by decide +kernel
theorem dX3_takeDraft_0 : decode cX3_takeDraft 0 = .ok (.aload_n 0, 1) := by decide +kernel
theorem dX3_takeDraft_1 : decode cX3_takeDraft 1 = .ok (.getfield 24, 3) := by decide +kernel
theorem dX3_takeDraft_4 : decode cX3_takeDraft 4 = .ok (.iconst 0, 1) := by decide +kernel
theorem dX3_takeDraft_5 : decode cX3_takeDraft 5 = .ok (.aload_n 0, 1) := by decide +kernel
theorem dX3_takeDraft_6 : decode cX3_takeDraft 6 = .ok (.getfield 20, 3) := by decide +kernel
theorem dX3_takeDraft_9 : decode cX3_takeDraft 9 = .ok (.iconst 0, 1) := by decide +kernel
theorem dX3_takeDraft_10 : decode cX3_takeDraft 10 = .ok (.iload_n 1, 1) := by decide +kernel
theorem dX3_takeDraft_11 : decode cX3_takeDraft 11 = .ok (.invokestatic 125, 3) := by decide +kernel
theorem dX3_takeDraft_14 : decode cX3_takeDraft 14 = .ok (.aload_n 0, 1) := by decide +kernel
theorem dX3_takeDraft_15 : decode cX3_takeDraft 15 = .ok (.iload_n 1, 1) := by decide +kernel
theorem dX3_takeDraft_16 : decode cX3_takeDraft 16 = .ok (.putfield 27, 3) := by decide +kernel
theorem dX3_takeDraft_19 : decode cX3_takeDraft 19 = .ok (.return_, 1) := by decide +kernel
theorem dX3_moveForward_0 : decode cX3_moveForward 0 = .ok (.aload_n 0, 1) := by decide +kernel
theorem dX3_moveForward_1 : decode cX3_moveForward 1 = .ok (.getfield 24, 3) := by decide +kernel
theorem dX3_moveForward_4 : decode cX3_moveForward 4 = .ok (.iload_n 2, 1) := by decide +kernel
theorem dX3_moveForward_5 : decode cX3_moveForward 5 = .ok (.iaload, 1) := by decide +kernel
theorem dX3_moveForward_6 : decode cX3_moveForward 6 = .ok (.istore_n 3, 1) := by decide +kernel
theorem dX3_moveForward_7 : decode cX3_moveForward 7 = .ok (.iload_n 2, 1) := by decide +kernel
theorem dX3_moveForward_8 : decode cX3_moveForward 8 = .ok (.istore 4, 2) := by decide +kernel
theorem dX3_moveForward_10 : decode cX3_moveForward 10 = .ok (.iload 4, 2) := by decide +kernel
theorem dX3_moveForward_12 : decode cX3_moveForward 12 = .ok (.ifCond .le 44, 3) := by decide +kernel
theorem dX3_moveForward_15 : decode cX3_moveForward 15 = .ok (.aload_n 0, 1) := by decide +kernel
theorem dX3_moveForward_16 : decode cX3_moveForward 16 = .ok (.iload_n 1, 1) := by decide +kernel
theorem dX3_moveForward_17 : decode cX3_moveForward 17 = .ok (.aload_n 0, 1) := by decide +kernel
theorem dX3_moveForward_18 : decode cX3_moveForward 18 = .ok (.getfield 24, 3) := by decide +kernel
theorem dX3_moveForward_21 : decode cX3_moveForward 21 = .ok (.iload 4, 2) := by decide +kernel
theorem dX3_moveForward_23 : decode cX3_moveForward 23 = .ok (.iconst 1, 1) := by decide +kernel
theorem dX3_moveForward_24 : decode cX3_moveForward 24 = .ok (.isub, 1) := by decide +kernel
theorem dX3_moveForward_25 : decode cX3_moveForward 25 = .ok (.iaload, 1) := by decide +kernel
theorem dX3_moveForward_26 : decode cX3_moveForward 26 = .ok (.iload_n 3, 1) := by decide +kernel
theorem dX3_moveForward_27 : decode cX3_moveForward 27 = .ok (.invokevirtual 165, 3) := by decide +kernel
theorem dX3_moveForward_30 : decode cX3_moveForward 30 = .ok (.iconst 1, 1) := by decide +kernel
theorem dX3_moveForward_31 : decode cX3_moveForward 31 = .ok (.if_icmp .ne 25, 3) := by decide +kernel
theorem dX3_moveForward_34 : decode cX3_moveForward 34 = .ok (.aload_n 0, 1) := by decide +kernel
theorem dX3_moveForward_35 : decode cX3_moveForward 35 = .ok (.getfield 24, 3) := by decide +kernel
theorem dX3_moveForward_38 : decode cX3_moveForward 38 = .ok (.iload 4, 2) := by decide +kernel
theorem dX3_moveForward_40 : decode cX3_moveForward 40 = .ok (.aload_n 0, 1) := by decide +kernel
theorem dX3_moveForward_41 : decode cX3_moveForward 41 = .ok (.getfield 24, 3) := by decide +kernel
theorem dX3_moveForward_44 : decode cX3_moveForward 44 = .ok (.iload 4, 2) := by decide +kernel
theorem dX3_moveForward_46 : decode cX3_moveForward 46 = .ok (.iconst 1, 1) := by decide +kernel
theorem dX3_moveForward_47 : decode cX3_moveForward 47 = .ok (.isub, 1) := by decide +kernel
theorem dX3_moveForward_48 : decode cX3_moveForward 48 = .ok (.iaload, 1) := by decide +kernel
theorem dX3_moveForward_49 : decode cX3_moveForward 49 = .ok (.iastore, 1) := by decide +kernel
theorem dX3_moveForward_50 : decode cX3_moveForward 50 = .ok (.iinc 4 (-1), 3) := by decide +kernel
theorem dX3_moveForward_53 : decode cX3_moveForward 53 = .ok (.goto (-43), 3) := by decide +kernel
theorem dX3_moveForward_56 : decode cX3_moveForward 56 = .ok (.aload_n 0, 1) := by decide +kernel
theorem dX3_moveForward_57 : decode cX3_moveForward 57 = .ok (.getfield 24, 3) := by decide +kernel
theorem dX3_moveForward_60 : decode cX3_moveForward 60 = .ok (.iload 4, 2) := by decide +kernel
theorem dX3_moveForward_62 : decode cX3_moveForward 62 = .ok (.iload_n 3, 1) := by decide +kernel
theorem dX3_moveForward_63 : decode cX3_moveForward 63 = .ok (.iastore, 1) := by decide +kernel
theorem dX3_moveForward_64 : decode cX3_moveForward 64 = .ok (.iload_n 2, 1) := by decide +kernel
theorem dX3_moveForward_65 : decode cX3_moveForward 65 = .ok (.iload 4, 2) := by decide +kernel
theorem dX3_moveForward_67 : decode cX3_moveForward 67 = .ok (.isub, 1) := by decide +kernel
theorem dX3_moveForward_68 : decode cX3_moveForward 68 = .ok (.ireturn, 1) := by decide +kernel
theorem dX3_askScale_0 : decode cX3_askScale 0 = .ok (.aload_n 0, 1) := by decide +kernel
theorem dX3_askScale_1 : decode cX3_askScale 1 = .ok (.getfield 56, 3) := by decide +kernel
theorem dX3_askScale_4 : decode cX3_askScale 4 = .ok (.invokevirtual 169, 3) := by decide +kernel
theorem dX3_askScale_7 : decode cX3_askScale 7 = .ok (.ifCond .ne 5, 3) := by decide +kernel
theorem dX3_askScale_10 : decode cX3_askScale 10 = .ok (.lconst 0, 1) := by decide +kernel
theorem dX3_askScale_11 : decode cX3_askScale 11 = .ok (.lreturn, 1) := by decide +kernel
theorem dX3_askScale_12 : decode cX3_askScale 12 = .ok (.aload_n 0, 1) := by decide +kernel
theorem dX3_askScale_13 : decode cX3_askScale 13 = .ok (.getfield 33, 3) := by decide +kernel
theorem dX3_askScale_16 : decode cX3_askScale 16 = .ok (.getfield 172, 3) := by decide +kernel
theorem dX3_askScale_19 : decode cX3_askScale 19 = .ok (.iload_n 1, 1) := by decide +kernel
theorem dX3_askScale_20 : decode cX3_askScale 20 = .ok (.iaload, 1) := by decide +kernel
theorem dX3_askScale_21 : decode cX3_askScale 21 = .ok (.istore_n 3, 1) := by decide +kernel
theorem dX3_askScale_22 : decode cX3_askScale 22 = .ok (.aload_n 0, 1) := by decide +kernel
theorem dX3_askScale_23 : decode cX3_askScale 23 = .ok (.getfield 33, 3) := by decide +kernel
theorem dX3_askScale_26 : decode cX3_askScale 26 = .ok (.getfield 175, 3) := by decide +kernel
theorem dX3_askScale_29 : decode cX3_askScale 29 = .ok (.iload_n 1, 1) := by decide +kernel
theorem dX3_askScale_30 : decode cX3_askScale 30 = .ok (.iaload, 1) := by decide +kernel
theorem dX3_askScale_31 : decode cX3_askScale 31 = .ok (.istore 4, 2) := by decide +kernel
theorem dX3_askScale_33 : decode cX3_askScale 33 = .ok (.aload_n 0, 1) := by decide +kernel
theorem dX3_askScale_34 : decode cX3_askScale 34 = .ok (.getfield 33, 3) := by decide +kernel
theorem dX3_askScale_37 : decode cX3_askScale 37 = .ok (.getfield 178, 3) := by decide +kernel
theorem dX3_askScale_40 : decode cX3_askScale 40 = .ok (.iload_n 1, 1) := by decide +kernel
theorem dX3_askScale_41 : decode cX3_askScale 41 = .ok (.iaload, 1) := by decide +kernel
theorem dX3_askScale_42 : decode cX3_askScale 42 = .ok (.tableswitch 201 0 10 #[58, 69, 76, 91, 106, 124, 141, 162, 173, 173, 183], 58) := by decide +kernel
theorem dX3_askScale_100 : decode cX3_askScale 100 = .ok (.aload_n 0, 1) := by decide +kernel
theorem dX3_askScale_101 : decode cX3_askScale 101 = .ok (.getfield 9, 3) := by decide +kernel
theorem dX3_askScale_104 : decode cX3_askScale 104 = .ok (.iload_n 2, 1) := by decide +kernel
theorem dX3_askScale_105 : decode cX3_askScale 105 = .ok (.iload_n 3, 1) := by decide +kernel
theorem dX3_askScale_106 : decode cX3_askScale 106 = .ok (.invokestatic 64, 3) := by decide +kernel
theorem dX3_askScale_109 : decode cX3_askScale 109 = .ok (.laload, 1) := by decide +kernel
theorem dX3_askScale_110 : decode cX3_askScale 110 = .ok (.lreturn, 1) := by decide +kernel
theorem dX3_askScale_111 : decode cX3_askScale 111 = .ok (.iload_n 3, 1) := by decide +kernel
theorem dX3_askScale_112 : decode cX3_askScale 112 = .ok (.i2l, 1) := by decide +kernel
theorem dX3_askScale_113 : decode cX3_askScale 113 = .ok (.iload 4, 2) := by decide +kernel
theorem dX3_askScale_115 : decode cX3_askScale 115 = .ok (.i2l, 1) := by decide +kernel
theorem dX3_askScale_116 : decode cX3_askScale 116 = .ok (.ladd, 1) := by decide +kernel
theorem dX3_askScale_117 : decode cX3_askScale 117 = .ok (.lreturn, 1) := by decide +kernel
theorem dX3_askScale_118 : decode cX3_askScale 118 = .ok (.aload_n 0, 1) := by decide +kernel
theorem dX3_askScale_119 : decode cX3_askScale 119 = .ok (.iload_n 3, 1) := by decide +kernel
theorem dX3_askScale_120 : decode cX3_askScale 120 = .ok (.iload_n 2, 1) := by decide +kernel
theorem dX3_askScale_121 : decode cX3_askScale 121 = .ok (.invokevirtual 106, 3) := by decide +kernel
theorem dX3_askScale_124 : decode cX3_askScale 124 = .ok (.aload_n 0, 1) := by decide +kernel
theorem dX3_askScale_125 : decode cX3_askScale 125 = .ok (.iload 4, 2) := by decide +kernel
theorem dX3_askScale_127 : decode cX3_askScale 127 = .ok (.iload_n 2, 1) := by decide +kernel
theorem dX3_askScale_128 : decode cX3_askScale 128 = .ok (.invokevirtual 106, 3) := by decide +kernel
theorem dX3_askScale_131 : decode cX3_askScale 131 = .ok (.ladd, 1) := by decide +kernel
theorem dX3_askScale_132 : decode cX3_askScale 132 = .ok (.lreturn, 1) := by decide +kernel
theorem dX3_askScale_133 : decode cX3_askScale 133 = .ok (.aload_n 0, 1) := by decide +kernel
theorem dX3_askScale_134 : decode cX3_askScale 134 = .ok (.iload_n 3, 1) := by decide +kernel
theorem dX3_askScale_135 : decode cX3_askScale 135 = .ok (.iload_n 2, 1) := by decide +kernel
theorem dX3_askScale_136 : decode cX3_askScale 136 = .ok (.invokevirtual 106, 3) := by decide +kernel
theorem dX3_askScale_139 : decode cX3_askScale 139 = .ok (.aload_n 0, 1) := by decide +kernel
theorem dX3_askScale_140 : decode cX3_askScale 140 = .ok (.iload 4, 2) := by decide +kernel
theorem dX3_askScale_142 : decode cX3_askScale 142 = .ok (.iload_n 2, 1) := by decide +kernel
theorem dX3_askScale_143 : decode cX3_askScale 143 = .ok (.invokevirtual 106, 3) := by decide +kernel
theorem dX3_askScale_146 : decode cX3_askScale 146 = .ok (.lmul, 1) := by decide +kernel
theorem dX3_askScale_147 : decode cX3_askScale 147 = .ok (.lreturn, 1) := by decide +kernel
theorem dX3_askScale_148 : decode cX3_askScale 148 = .ok (.aload_n 0, 1) := by decide +kernel
theorem dX3_askScale_149 : decode cX3_askScale 149 = .ok (.aload_n 0, 1) := by decide +kernel
theorem dX3_askScale_150 : decode cX3_askScale 150 = .ok (.iload_n 3, 1) := by decide +kernel
theorem dX3_askScale_151 : decode cX3_askScale 151 = .ok (.iload_n 2, 1) := by decide +kernel
theorem dX3_askScale_152 : decode cX3_askScale 152 = .ok (.invokevirtual 106, 3) := by decide +kernel
theorem dX3_askScale_155 : decode cX3_askScale 155 = .ok (.aload_n 0, 1) := by decide +kernel
theorem dX3_askScale_156 : decode cX3_askScale 156 = .ok (.iload 4, 2) := by decide +kernel
theorem dX3_askScale_158 : decode cX3_askScale 158 = .ok (.iload_n 2, 1) := by decide +kernel
theorem dX3_askScale_159 : decode cX3_askScale 159 = .ok (.invokevirtual 106, 3) := by decide +kernel
theorem dX3_askScale_162 : decode cX3_askScale 162 = .ok (.invokevirtual 181, 3) := by decide +kernel
theorem dX3_askScale_165 : decode cX3_askScale 165 = .ok (.lreturn, 1) := by decide +kernel
theorem dX3_askScale_166 : decode cX3_askScale 166 = .ok (.aload_n 0, 1) := by decide +kernel
theorem dX3_askScale_167 : decode cX3_askScale 167 = .ok (.iload_n 3, 1) := by decide +kernel
theorem dX3_askScale_168 : decode cX3_askScale 168 = .ok (.iload_n 2, 1) := by decide +kernel
theorem dX3_askScale_169 : decode cX3_askScale 169 = .ok (.invokevirtual 106, 3) := by decide +kernel
theorem dX3_askScale_172 : decode cX3_askScale 172 = .ok (.aload_n 0, 1) := by decide +kernel
theorem dX3_askScale_173 : decode cX3_askScale 173 = .ok (.iload 4, 2) := by decide +kernel
theorem dX3_askScale_175 : decode cX3_askScale 175 = .ok (.iload_n 2, 1) := by decide +kernel
theorem dX3_askScale_176 : decode cX3_askScale 176 = .ok (.invokevirtual 106, 3) := by decide +kernel
theorem dX3_askScale_179 : decode cX3_askScale 179 = .ok (.invokestatic 185, 3) := by decide +kernel
theorem dX3_askScale_182 : decode cX3_askScale 182 = .ok (.lreturn, 1) := by decide +kernel
theorem dX3_askScale_183 : decode cX3_askScale 183 = .ok (.aload_n 0, 1) := by decide +kernel
theorem dX3_askScale_184 : decode cX3_askScale 184 = .ok (.iload_n 3, 1) := by decide +kernel
theorem dX3_askScale_185 : decode cX3_askScale 185 = .ok (.iload_n 2, 1) := by decide +kernel
theorem dX3_askScale_186 : decode cX3_askScale 186 = .ok (.invokevirtual 117, 3) := by decide +kernel
theorem dX3_askScale_189 : decode cX3_askScale 189 = .ok (.ifCond .eq 13, 3) := by decide +kernel
theorem dX3_askScale_192 : decode cX3_askScale 192 = .ok (.aload_n 0, 1) := by decide +kernel
theorem dX3_askScale_193 : decode cX3_askScale 193 = .ok (.iload 4, 2) := by decide +kernel
theorem dX3_askScale_195 : decode cX3_askScale 195 = .ok (.iload_n 2, 1) := by decide +kernel
theorem dX3_askScale_196 : decode cX3_askScale 196 = .ok (.invokevirtual 106, 3) := by decide +kernel
theorem dX3_askScale_199 : decode cX3_askScale 199 = .ok (.goto 4, 3) := by decide +kernel
theorem dX3_askScale_202 : decode cX3_askScale 202 = .ok (.lconst 0, 1) := by decide +kernel
theorem dX3_askScale_203 : decode cX3_askScale 203 = .ok (.lreturn, 1) := by decide +kernel
theorem dX3_askScale_204 : decode cX3_askScale 204 = .ok (.aload_n 0, 1) := by decide +kernel
theorem dX3_askScale_205 : decode cX3_askScale 205 = .ok (.aload_n 0, 1) := by decide +kernel
theorem dX3_askScale_206 : decode cX3_askScale 206 = .ok (.iload_n 3, 1) := by decide +kernel
theorem dX3_askScale_207 : decode cX3_askScale 207 = .ok (.iload_n 2, 1) := by decide +kernel
theorem dX3_askScale_208 : decode cX3_askScale 208 = .ok (.invokevirtual 106, 3) := by decide +kernel
theorem dX3_askScale_211 : decode cX3_askScale 211 = .ok (.invokevirtual 190, 3) := by decide +kernel
theorem dX3_askScale_214 : decode cX3_askScale 214 = .ok (.lreturn, 1) := by decide +kernel
theorem dX3_askScale_215 : decode cX3_askScale 215 = .ok (.aload_n 0, 1) := by decide +kernel
theorem dX3_askScale_216 : decode cX3_askScale 216 = .ok (.getfield 33, 3) := by decide +kernel
theorem dX3_askScale_219 : decode cX3_askScale 219 = .ok (.getfield 194, 3) := by decide +kernel
theorem dX3_askScale_222 : decode cX3_askScale 222 = .ok (.iload_n 1, 1) := by decide +kernel
theorem dX3_askScale_223 : decode cX3_askScale 223 = .ok (.laload, 1) := by decide +kernel
theorem dX3_askScale_224 : decode cX3_askScale 224 = .ok (.lreturn, 1) := by decide +kernel
theorem dX3_askScale_225 : decode cX3_askScale 225 = .ok (.aload_n 0, 1) := by decide +kernel
theorem dX3_askScale_226 : decode cX3_askScale 226 = .ok (.getfield 33, 3) := by decide +kernel
theorem dX3_askScale_229 : decode cX3_askScale 229 = .ok (.iload_n 1, 1) := by decide +kernel
theorem dX3_askScale_230 : decode cX3_askScale 230 = .ok (.invokevirtual 197, 3) := by decide +kernel
theorem dX3_askScale_233 : decode cX3_askScale 233 = .ok (.lconst 1, 1) := by decide +kernel
theorem dX3_askScale_234 : decode cX3_askScale 234 = .ok (.lsub, 1) := by decide +kernel
theorem dX3_askScale_235 : decode cX3_askScale 235 = .ok (.iload_n 3, 1) := by decide +kernel
theorem dX3_askScale_236 : decode cX3_askScale 236 = .ok (.i2l, 1) := by decide +kernel
theorem dX3_askScale_237 : decode cX3_askScale 237 = .ok (.lmul, 1) := by decide +kernel
theorem dX3_askScale_238 : decode cX3_askScale 238 = .ok (.iload 4, 2) := by decide +kernel
theorem dX3_askScale_240 : decode cX3_askScale 240 = .ok (.i2l, 1) := by decide +kernel
theorem dX3_askScale_241 : decode cX3_askScale 241 = .ok (.ladd, 1) := by decide +kernel
theorem dX3_askScale_242 : decode cX3_askScale 242 = .ok (.lreturn, 1) := by decide +kernel
theorem dX3_askScale_243 : decode cX3_askScale 243 = .ok (.aload_n 0, 1) := by decide +kernel
theorem dX3_askScale_244 : decode cX3_askScale 244 = .ok (.getfield 56, 3) := by decide +kernel
theorem dX3_askScale_247 : decode cX3_askScale 247 = .ok (.iconst 3, 1) := by decide +kernel
theorem dX3_askScale_248 : decode cX3_askScale 248 = .ok (.invokevirtual 201, 3) := by decide +kernel
theorem dX3_askScale_251 : decode cX3_askScale 251 = .ok (.lconst 0, 1) := by decide +kernel
theorem dX3_askScale_252 : decode cX3_askScale 252 = .ok (.lreturn, 1) := by decide +kernel
theorem dX3_askSieve_0 : decode cX3_askSieve 0 = .ok (.aload_n 0, 1) := by decide +kernel
theorem dX3_askSieve_1 : decode cX3_askSieve 1 = .ok (.getfield 56, 3) := by decide +kernel
theorem dX3_askSieve_4 : decode cX3_askSieve 4 = .ok (.invokevirtual 169, 3) := by decide +kernel
theorem dX3_askSieve_7 : decode cX3_askSieve 7 = .ok (.ifCond .ne 5, 3) := by decide +kernel
theorem dX3_askSieve_10 : decode cX3_askSieve 10 = .ok (.iconst 0, 1) := by decide +kernel
theorem dX3_askSieve_11 : decode cX3_askSieve 11 = .ok (.ireturn, 1) := by decide +kernel
theorem dX3_askSieve_12 : decode cX3_askSieve 12 = .ok (.aload_n 0, 1) := by decide +kernel
theorem dX3_askSieve_13 : decode cX3_askSieve 13 = .ok (.getfield 37, 3) := by decide +kernel
theorem dX3_askSieve_16 : decode cX3_askSieve 16 = .ok (.getfield 172, 3) := by decide +kernel
theorem dX3_askSieve_19 : decode cX3_askSieve 19 = .ok (.iload_n 1, 1) := by decide +kernel
theorem dX3_askSieve_20 : decode cX3_askSieve 20 = .ok (.iaload, 1) := by decide +kernel
theorem dX3_askSieve_21 : decode cX3_askSieve 21 = .ok (.istore_n 3, 1) := by decide +kernel
theorem dX3_askSieve_22 : decode cX3_askSieve 22 = .ok (.aload_n 0, 1) := by decide +kernel
theorem dX3_askSieve_23 : decode cX3_askSieve 23 = .ok (.getfield 37, 3) := by decide +kernel
theorem dX3_askSieve_26 : decode cX3_askSieve 26 = .ok (.getfield 175, 3) := by decide +kernel
theorem dX3_askSieve_29 : decode cX3_askSieve 29 = .ok (.iload_n 1, 1) := by decide +kernel
theorem dX3_askSieve_30 : decode cX3_askSieve 30 = .ok (.iaload, 1) := by decide +kernel
theorem dX3_askSieve_31 : decode cX3_askSieve 31 = .ok (.istore 4, 2) := by decide +kernel
theorem dX3_askSieve_33 : decode cX3_askSieve 33 = .ok (.aload_n 0, 1) := by decide +kernel
theorem dX3_askSieve_34 : decode cX3_askSieve 34 = .ok (.getfield 37, 3) := by decide +kernel
theorem dX3_askSieve_37 : decode cX3_askSieve 37 = .ok (.getfield 178, 3) := by decide +kernel
theorem dX3_askSieve_40 : decode cX3_askSieve 40 = .ok (.iload_n 1, 1) := by decide +kernel
theorem dX3_askSieve_41 : decode cX3_askSieve 41 = .ok (.iaload, 1) := by decide +kernel
theorem dX3_askSieve_42 : decode cX3_askSieve 42 = .ok (.tableswitch 207 0 8 #[50, 52, 75, 98, 113, 138, 163, 189, 200], 50) := by decide +kernel
theorem dX3_askSieve_92 : decode cX3_askSieve 92 = .ok (.iconst 1, 1) := by decide +kernel
theorem dX3_askSieve_93 : decode cX3_askSieve 93 = .ok (.ireturn, 1) := by decide +kernel
theorem dX3_askSieve_94 : decode cX3_askSieve 94 = .ok (.aload_n 0, 1) := by decide +kernel
theorem dX3_askSieve_95 : decode cX3_askSieve 95 = .ok (.iload_n 3, 1) := by decide +kernel
theorem dX3_askSieve_96 : decode cX3_askSieve 96 = .ok (.iload_n 2, 1) := by decide +kernel
theorem dX3_askSieve_97 : decode cX3_askSieve 97 = .ok (.invokevirtual 106, 3) := by decide +kernel
theorem dX3_askSieve_100 : decode cX3_askSieve 100 = .ok (.aload_n 0, 1) := by decide +kernel
theorem dX3_askSieve_101 : decode cX3_askSieve 101 = .ok (.iload 4, 2) := by decide +kernel
theorem dX3_askSieve_103 : decode cX3_askSieve 103 = .ok (.iload_n 2, 1) := by decide +kernel
theorem dX3_askSieve_104 : decode cX3_askSieve 104 = .ok (.invokevirtual 106, 3) := by decide +kernel
theorem dX3_askSieve_107 : decode cX3_askSieve 107 = .ok (.lcmp, 1) := by decide +kernel
theorem dX3_askSieve_108 : decode cX3_askSieve 108 = .ok (.ifCond .le 7, 3) := by decide +kernel
theorem dX3_askSieve_111 : decode cX3_askSieve 111 = .ok (.iconst 1, 1) := by decide +kernel
theorem dX3_askSieve_112 : decode cX3_askSieve 112 = .ok (.goto 4, 3) := by decide +kernel
theorem dX3_askSieve_115 : decode cX3_askSieve 115 = .ok (.iconst 0, 1) := by decide +kernel
theorem dX3_askSieve_116 : decode cX3_askSieve 116 = .ok (.ireturn, 1) := by decide +kernel
theorem dX3_askSieve_117 : decode cX3_askSieve 117 = .ok (.aload_n 0, 1) := by decide +kernel
theorem dX3_askSieve_118 : decode cX3_askSieve 118 = .ok (.iload_n 3, 1) := by decide +kernel
theorem dX3_askSieve_119 : decode cX3_askSieve 119 = .ok (.iload_n 2, 1) := by decide +kernel
theorem dX3_askSieve_120 : decode cX3_askSieve 120 = .ok (.invokevirtual 106, 3) := by decide +kernel
theorem dX3_askSieve_123 : decode cX3_askSieve 123 = .ok (.aload_n 0, 1) := by decide +kernel
theorem dX3_askSieve_124 : decode cX3_askSieve 124 = .ok (.iload 4, 2) := by decide +kernel
theorem dX3_askSieve_126 : decode cX3_askSieve 126 = .ok (.iload_n 2, 1) := by decide +kernel
theorem dX3_askSieve_127 : decode cX3_askSieve 127 = .ok (.invokevirtual 106, 3) := by decide +kernel
theorem dX3_askSieve_130 : decode cX3_askSieve 130 = .ok (.lcmp, 1) := by decide +kernel
theorem dX3_askSieve_131 : decode cX3_askSieve 131 = .ok (.ifCond .ne 7, 3) := by decide +kernel
theorem dX3_askSieve_134 : decode cX3_askSieve 134 = .ok (.iconst 1, 1) := by decide +kernel
theorem dX3_askSieve_135 : decode cX3_askSieve 135 = .ok (.goto 4, 3) := by decide +kernel
theorem dX3_askSieve_138 : decode cX3_askSieve 138 = .ok (.iconst 0, 1) := by decide +kernel
theorem dX3_askSieve_139 : decode cX3_askSieve 139 = .ok (.ireturn, 1) := by decide +kernel
theorem dX3_askSieve_140 : decode cX3_askSieve 140 = .ok (.aload_n 0, 1) := by decide +kernel
theorem dX3_askSieve_141 : decode cX3_askSieve 141 = .ok (.iload_n 3, 1) := by decide +kernel
theorem dX3_askSieve_142 : decode cX3_askSieve 142 = .ok (.iload_n 2, 1) := by decide +kernel
theorem dX3_askSieve_143 : decode cX3_askSieve 143 = .ok (.invokevirtual 117, 3) := by decide +kernel
theorem dX3_askSieve_146 : decode cX3_askSieve 146 = .ok (.ifCond .ne 7, 3) := by decide +kernel
theorem dX3_askSieve_149 : decode cX3_askSieve 149 = .ok (.iconst 1, 1) := by decide +kernel
theorem dX3_askSieve_150 : decode cX3_askSieve 150 = .ok (.goto 4, 3) := by decide +kernel
theorem dX3_askSieve_153 : decode cX3_askSieve 153 = .ok (.iconst 0, 1) := by decide +kernel
theorem dX3_askSieve_154 : decode cX3_askSieve 154 = .ok (.ireturn, 1) := by decide +kernel
theorem dX3_askSieve_155 : decode cX3_askSieve 155 = .ok (.aload_n 0, 1) := by decide +kernel
theorem dX3_askSieve_156 : decode cX3_askSieve 156 = .ok (.iload_n 3, 1) := by decide +kernel
theorem dX3_askSieve_157 : decode cX3_askSieve 157 = .ok (.iload_n 2, 1) := by decide +kernel
theorem dX3_askSieve_158 : decode cX3_askSieve 158 = .ok (.invokevirtual 117, 3) := by decide +kernel
theorem dX3_askSieve_161 : decode cX3_askSieve 161 = .ok (.ifCond .eq 17, 3) := by decide +kernel
theorem dX3_askSieve_164 : decode cX3_askSieve 164 = .ok (.aload_n 0, 1) := by decide +kernel
theorem dX3_askSieve_165 : decode cX3_askSieve 165 = .ok (.iload 4, 2) := by decide +kernel
theorem dX3_askSieve_167 : decode cX3_askSieve 167 = .ok (.iload_n 2, 1) := by decide +kernel
theorem dX3_askSieve_168 : decode cX3_askSieve 168 = .ok (.invokevirtual 117, 3) := by decide +kernel
theorem dX3_askSieve_171 : decode cX3_askSieve 171 = .ok (.ifCond .eq 7, 3) := by decide +kernel
theorem dX3_askSieve_174 : decode cX3_askSieve 174 = .ok (.iconst 1, 1) := by decide +kernel
theorem dX3_askSieve_175 : decode cX3_askSieve 175 = .ok (.goto 4, 3) := by decide +kernel
theorem dX3_askSieve_178 : decode cX3_askSieve 178 = .ok (.iconst 0, 1) := by decide +kernel
theorem dX3_askSieve_179 : decode cX3_askSieve 179 = .ok (.ireturn, 1) := by decide +kernel
theorem dX3_askSieve_180 : decode cX3_askSieve 180 = .ok (.aload_n 0, 1) := by decide +kernel
theorem dX3_askSieve_181 : decode cX3_askSieve 181 = .ok (.iload_n 3, 1) := by decide +kernel
theorem dX3_askSieve_182 : decode cX3_askSieve 182 = .ok (.iload_n 2, 1) := by decide +kernel
theorem dX3_askSieve_183 : decode cX3_askSieve 183 = .ok (.invokevirtual 117, 3) := by decide +kernel
theorem dX3_askSieve_186 : decode cX3_askSieve 186 = .ok (.ifCond .ne 13, 3) := by decide +kernel
theorem dX3_askSieve_189 : decode cX3_askSieve 189 = .ok (.aload_n 0, 1) := by decide +kernel
theorem dX3_askSieve_190 : decode cX3_askSieve 190 = .ok (.iload 4, 2) := by decide +kernel
theorem dX3_askSieve_192 : decode cX3_askSieve 192 = .ok (.iload_n 2, 1) := by decide +kernel
theorem dX3_askSieve_193 : decode cX3_askSieve 193 = .ok (.invokevirtual 117, 3) := by decide +kernel
theorem dX3_askSieve_196 : decode cX3_askSieve 196 = .ok (.ifCond .eq 7, 3) := by decide +kernel
theorem dX3_askSieve_199 : decode cX3_askSieve 199 = .ok (.iconst 1, 1) := by decide +kernel
theorem dX3_askSieve_200 : decode cX3_askSieve 200 = .ok (.goto 4, 3) := by decide +kernel
theorem dX3_askSieve_203 : decode cX3_askSieve 203 = .ok (.iconst 0, 1) := by decide +kernel
theorem dX3_askSieve_204 : decode cX3_askSieve 204 = .ok (.ireturn, 1) := by decide +kernel
theorem dX3_askSieve_205 : decode cX3_askSieve 205 = .ok (.aload_n 0, 1) := by decide +kernel
theorem dX3_askSieve_206 : decode cX3_askSieve 206 = .ok (.getfield 37, 3) := by decide +kernel
theorem dX3_askSieve_209 : decode cX3_askSieve 209 = .ok (.iload_n 1, 1) := by decide +kernel
theorem dX3_askSieve_210 : decode cX3_askSieve 210 = .ok (.invokevirtual 197, 3) := by decide +kernel
theorem dX3_askSieve_213 : decode cX3_askSieve 213 = .ok (.iload_n 3, 1) := by decide +kernel
theorem dX3_askSieve_214 : decode cX3_askSieve 214 = .ok (.iconst 1, 1) := by decide +kernel
theorem dX3_askSieve_215 : decode cX3_askSieve 215 = .ok (.invokestatic 204, 3) := by decide +kernel
theorem dX3_askSieve_218 : decode cX3_askSieve 218 = .ok (.i2l, 1) := by decide +kernel
theorem dX3_askSieve_219 : decode cX3_askSieve 219 = .ok (.lrem, 1) := by decide +kernel
theorem dX3_askSieve_220 : decode cX3_askSieve 220 = .ok (.lconst 0, 1) := by decide +kernel
theorem dX3_askSieve_221 : decode cX3_askSieve 221 = .ok (.lcmp, 1) := by decide +kernel
theorem dX3_askSieve_222 : decode cX3_askSieve 222 = .ok (.ifCond .ne 7, 3) := by decide +kernel
theorem dX3_askSieve_225 : decode cX3_askSieve 225 = .ok (.iconst 1, 1) := by decide +kernel
theorem dX3_askSieve_226 : decode cX3_askSieve 226 = .ok (.goto 4, 3) := by decide +kernel
theorem dX3_askSieve_229 : decode cX3_askSieve 229 = .ok (.iconst 0, 1) := by decide +kernel
theorem dX3_askSieve_230 : decode cX3_askSieve 230 = .ok (.ireturn, 1) := by decide +kernel
theorem dX3_askSieve_231 : decode cX3_askSieve 231 = .ok (.iload_n 2, 1) := by decide +kernel
theorem dX3_askSieve_232 : decode cX3_askSieve 232 = .ok (.iload_n 3, 1) := by decide +kernel
theorem dX3_askSieve_233 : decode cX3_askSieve 233 = .ok (.if_icmp .ge 7, 3) := by decide +kernel
theorem dX3_askSieve_236 : decode cX3_askSieve 236 = .ok (.iconst 1, 1) := by decide +kernel
theorem dX3_askSieve_237 : decode cX3_askSieve 237 = .ok (.goto 4, 3) := by decide +kernel
theorem dX3_askSieve_240 : decode cX3_askSieve 240 = .ok (.iconst 0, 1) := by decide +kernel
theorem dX3_askSieve_241 : decode cX3_askSieve 241 = .ok (.ireturn, 1) := by decide +kernel
theorem dX3_askSieve_242 : decode cX3_askSieve 242 = .ok (.aload_n 0, 1) := by decide +kernel
theorem dX3_askSieve_243 : decode cX3_askSieve 243 = .ok (.iload_n 3, 1) := by decide +kernel
theorem dX3_askSieve_244 : decode cX3_askSieve 244 = .ok (.iload_n 2, 1) := by decide +kernel
theorem dX3_askSieve_245 : decode cX3_askSieve 245 = .ok (.invokevirtual 207, 3) := by decide +kernel
theorem dX3_askSieve_248 : decode cX3_askSieve 248 = .ok (.ireturn, 1) := by decide +kernel
theorem dX3_askSieve_249 : decode cX3_askSieve 249 = .ok (.aload_n 0, 1) := by decide +kernel
theorem dX3_askSieve_250 : decode cX3_askSieve 250 = .ok (.getfield 56, 3) := by decide +kernel
theorem dX3_askSieve_253 : decode cX3_askSieve 253 = .ok (.iconst 3, 1) := by decide +kernel
theorem dX3_askSieve_254 : decode cX3_askSieve 254 = .ok (.invokevirtual 201, 3) := by decide +kernel
theorem dX3_askSieve_257 : decode cX3_askSieve 257 = .ok (.iconst 0, 1) := by decide +kernel
theorem dX3_askSieve_258 : decode cX3_askSieve 258 = .ok (.ireturn, 1) := by decide +kernel
theorem dX3_askOrder_0 : decode cX3_askOrder 0 = .ok (.aload_n 0, 1) := by decide +kernel
theorem dX3_askOrder_1 : decode cX3_askOrder 1 = .ok (.getfield 56, 3) := by decide +kernel
theorem dX3_askOrder_4 : decode cX3_askOrder 4 = .ok (.invokevirtual 169, 3) := by decide +kernel
theorem dX3_askOrder_7 : decode cX3_askOrder 7 = .ok (.ifCond .ne 5, 3) := by decide +kernel
theorem dX3_askOrder_10 : decode cX3_askOrder 10 = .ok (.iconst 0, 1) := by decide +kernel
theorem dX3_askOrder_11 : decode cX3_askOrder 11 = .ok (.ireturn, 1) := by decide +kernel
theorem dX3_askOrder_12 : decode cX3_askOrder 12 = .ok (.aload_n 0, 1) := by decide +kernel
theorem dX3_askOrder_13 : decode cX3_askOrder 13 = .ok (.getfield 40, 3) := by decide +kernel
theorem dX3_askOrder_16 : decode cX3_askOrder 16 = .ok (.getfield 172, 3) := by decide +kernel
theorem dX3_askOrder_19 : decode cX3_askOrder 19 = .ok (.iload_n 1, 1) := by decide +kernel
theorem dX3_askOrder_20 : decode cX3_askOrder 20 = .ok (.iaload, 1) := by decide +kernel
theorem dX3_askOrder_21 : decode cX3_askOrder 21 = .ok (.istore 4, 2) := by decide +kernel
theorem dX3_askOrder_23 : decode cX3_askOrder 23 = .ok (.aload_n 0, 1) := by decide +kernel
theorem dX3_askOrder_24 : decode cX3_askOrder 24 = .ok (.getfield 40, 3) := by decide +kernel
theorem dX3_askOrder_27 : decode cX3_askOrder 27 = .ok (.getfield 175, 3) := by decide +kernel
theorem dX3_askOrder_30 : decode cX3_askOrder 30 = .ok (.iload_n 1, 1) := by decide +kernel
theorem dX3_askOrder_31 : decode cX3_askOrder 31 = .ok (.iaload, 1) := by decide +kernel
theorem dX3_askOrder_32 : decode cX3_askOrder 32 = .ok (.istore 5, 2) := by decide +kernel
theorem dX3_askOrder_34 : decode cX3_askOrder 34 = .ok (.aload_n 0, 1) := by decide +kernel
theorem dX3_askOrder_35 : decode cX3_askOrder 35 = .ok (.getfield 40, 3) := by decide +kernel
theorem dX3_askOrder_38 : decode cX3_askOrder 38 = .ok (.getfield 178, 3) := by decide +kernel
theorem dX3_askOrder_41 : decode cX3_askOrder 41 = .ok (.iload_n 1, 1) := by decide +kernel
theorem dX3_askOrder_42 : decode cX3_askOrder 42 = .ok (.iaload, 1) := by decide +kernel
theorem dX3_askOrder_43 : decode cX3_askOrder 43 = .ok (.tableswitch 100 0 4 #[33, 51, 61, 72, 92], 33) := by decide +kernel
theorem dX3_askOrder_76 : decode cX3_askOrder 76 = .ok (.aload_n 0, 1) := by decide +kernel
theorem dX3_askOrder_77 : decode cX3_askOrder 77 = .ok (.iload 4, 2) := by decide +kernel
theorem dX3_askOrder_79 : decode cX3_askOrder 79 = .ok (.iload_n 2, 1) := by decide +kernel
theorem dX3_askOrder_80 : decode cX3_askOrder 80 = .ok (.invokevirtual 106, 3) := by decide +kernel
theorem dX3_askOrder_83 : decode cX3_askOrder 83 = .ok (.aload_n 0, 1) := by decide +kernel
theorem dX3_askOrder_84 : decode cX3_askOrder 84 = .ok (.iload 4, 2) := by decide +kernel
theorem dX3_askOrder_86 : decode cX3_askOrder 86 = .ok (.iload_n 3, 1) := by decide +kernel
theorem dX3_askOrder_87 : decode cX3_askOrder 87 = .ok (.invokevirtual 106, 3) := by decide +kernel
theorem dX3_askOrder_90 : decode cX3_askOrder 90 = .ok (.invokestatic 210, 3) := by decide +kernel
theorem dX3_askOrder_93 : decode cX3_askOrder 93 = .ok (.ireturn, 1) := by decide +kernel
theorem dX3_askOrder_94 : decode cX3_askOrder 94 = .ok (.aload_n 0, 1) := by decide +kernel
theorem dX3_askOrder_95 : decode cX3_askOrder 95 = .ok (.iload 4, 2) := by decide +kernel
theorem dX3_askOrder_97 : decode cX3_askOrder 97 = .ok (.iload_n 2, 1) := by decide +kernel
theorem dX3_askOrder_98 : decode cX3_askOrder 98 = .ok (.iload_n 3, 1) := by decide +kernel
theorem dX3_askOrder_99 : decode cX3_askOrder 99 = .ok (.invokevirtual 165, 3) := by decide +kernel
theorem dX3_askOrder_102 : decode cX3_askOrder 102 = .ok (.ineg, 1) := by decide +kernel
theorem dX3_askOrder_103 : decode cX3_askOrder 103 = .ok (.ireturn, 1) := by decide +kernel
theorem dX3_askOrder_104 : decode cX3_askOrder 104 = .ok (.aload_n 0, 1) := by decide +kernel
theorem dX3_askOrder_105 : decode cX3_askOrder 105 = .ok (.iload 4, 2) := by decide +kernel
theorem dX3_askOrder_107 : decode cX3_askOrder 107 = .ok (.iload 5, 2) := by decide +kernel
theorem dX3_askOrder_109 : decode cX3_askOrder 109 = .ok (.iload_n 2, 1) := by decide +kernel
theorem dX3_askOrder_110 : decode cX3_askOrder 110 = .ok (.iload_n 3, 1) := by decide +kernel
theorem dX3_askOrder_111 : decode cX3_askOrder 111 = .ok (.invokevirtual 214, 3) := by decide +kernel
theorem dX3_askOrder_114 : decode cX3_askOrder 114 = .ok (.ireturn, 1) := by decide +kernel
theorem dX3_askOrder_115 : decode cX3_askOrder 115 = .ok (.aload_n 0, 1) := by decide +kernel
theorem dX3_askOrder_116 : decode cX3_askOrder 116 = .ok (.iload 4, 2) := by decide +kernel
theorem dX3_askOrder_118 : decode cX3_askOrder 118 = .ok (.iload_n 2, 1) := by decide +kernel
theorem dX3_askOrder_119 : decode cX3_askOrder 119 = .ok (.invokevirtual 218, 3) := by decide +kernel
theorem dX3_askOrder_122 : decode cX3_askOrder 122 = .ok (.i2l, 1) := by decide +kernel
theorem dX3_askOrder_123 : decode cX3_askOrder 123 = .ok (.aload_n 0, 1) := by decide +kernel
theorem dX3_askOrder_124 : decode cX3_askOrder 124 = .ok (.iload 4, 2) := by decide +kernel
theorem dX3_askOrder_126 : decode cX3_askOrder 126 = .ok (.iload_n 3, 1) := by decide +kernel
theorem dX3_askOrder_127 : decode cX3_askOrder 127 = .ok (.invokevirtual 218, 3) := by decide +kernel
theorem dX3_askOrder_130 : decode cX3_askOrder 130 = .ok (.i2l, 1) := by decide +kernel
theorem dX3_askOrder_131 : decode cX3_askOrder 131 = .ok (.invokestatic 210, 3) := by decide +kernel
theorem dX3_askOrder_134 : decode cX3_askOrder 134 = .ok (.ireturn, 1) := by decide +kernel
theorem dX3_askOrder_135 : decode cX3_askOrder 135 = .ok (.iload_n 2, 1) := by decide +kernel
theorem dX3_askOrder_136 : decode cX3_askOrder 136 = .ok (.i2l, 1) := by decide +kernel
theorem dX3_askOrder_137 : decode cX3_askOrder 137 = .ok (.iload_n 3, 1) := by decide +kernel
theorem dX3_askOrder_138 : decode cX3_askOrder 138 = .ok (.i2l, 1) := by decide +kernel
theorem dX3_askOrder_139 : decode cX3_askOrder 139 = .ok (.invokestatic 210, 3) := by decide +kernel
theorem dX3_askOrder_142 : decode cX3_askOrder 142 = .ok (.ireturn, 1) := by decide +kernel
theorem dX3_askOrder_143 : decode cX3_askOrder 143 = .ok (.aload_n 0, 1) := by decide +kernel
theorem dX3_askOrder_144 : decode cX3_askOrder 144 = .ok (.getfield 56, 3) := by decide +kernel
theorem dX3_askOrder_147 : decode cX3_askOrder 147 = .ok (.iconst 3, 1) := by decide +kernel
theorem dX3_askOrder_148 : decode cX3_askOrder 148 = .ok (.invokevirtual 201, 3) := by decide +kernel
theorem dX3_askOrder_151 : decode cX3_askOrder 151 = .ok (.iconst 0, 1) := by decide +kernel
theorem dX3_askOrder_152 : decode cX3_askOrder 152 = .ok (.ireturn, 1) := by decide +kernel
theorem dX3_askSafely_0 : decode cX3_askSafely 0 = .ok (.aload_n 0, 1) := by decide +kernel
theorem dX3_askSafely_1 : decode cX3_askSafely 1 = .ok (.iload_n 1, 1) := by decide +kernel
theorem dX3_askSafely_2 : decode cX3_askSafely 2 = .ok (.iload_n 2, 1) := by decide +kernel
theorem dX3_askSafely_3 : decode cX3_askSafely 3 = .ok (.invokevirtual 117, 3) := by decide +kernel
theorem dX3_askSafely_6 : decode cX3_askSafely 6 = .ok (.istore_n 3, 1) := by decide +kernel
theorem dX3_askSafely_7 : decode cX3_askSafely 7 = .ok (.aload_n 0, 1) := by decide +kernel
theorem dX3_askSafely_8 : decode cX3_askSafely 8 = .ok (.getfield 56, 3) := by decide +kernel
theorem dX3_askSafely_11 : decode cX3_askSafely 11 = .ok (.invokevirtual 221, 3) := by decide +kernel
theorem dX3_askSafely_14 : decode cX3_askSafely 14 = .ok (.ifCond .ne 11, 3) := by decide +kernel
theorem dX3_askSafely_17 : decode cX3_askSafely 17 = .ok (.iload_n 3, 1) := by decide +kernel
theorem dX3_askSafely_18 : decode cX3_askSafely 18 = .ok (.ifCond .eq 7, 3) := by decide +kernel
theorem dX3_askSafely_21 : decode cX3_askSafely 21 = .ok (.iconst 1, 1) := by decide +kernel
theorem dX3_askSafely_22 : decode cX3_askSafely 22 = .ok (.goto 4, 3) := by decide +kernel
theorem dX3_askSafely_25 : decode cX3_askSafely 25 = .ok (.iconst 0, 1) := by decide +kernel
theorem dX3_askSafely_26 : decode cX3_askSafely 26 = .ok (.ireturn, 1) := by decide +kernel
theorem dX3_askThen_0 : decode cX3_askThen 0 = .ok (.aload_n 0, 1) := by decide +kernel
theorem dX3_askThen_1 : decode cX3_askThen 1 = .ok (.iload_n 1, 1) := by decide +kernel
theorem dX3_askThen_2 : decode cX3_askThen 2 = .ok (.iload_n 3, 1) := by decide +kernel
theorem dX3_askThen_3 : decode cX3_askThen 3 = .ok (.iload 4, 2) := by decide +kernel
theorem dX3_askThen_5 : decode cX3_askThen 5 = .ok (.invokevirtual 165, 3) := by decide +kernel
theorem dX3_askThen_8 : decode cX3_askThen 8 = .ok (.istore 5, 2) := by decide +kernel
theorem dX3_askThen_10 : decode cX3_askThen 10 = .ok (.iload 5, 2) := by decide +kernel
theorem dX3_askThen_12 : decode cX3_askThen 12 = .ok (.ifCond .eq 8, 3) := by decide +kernel
theorem dX3_askThen_15 : decode cX3_askThen 15 = .ok (.iload 5, 2) := by decide +kernel
theorem dX3_askThen_17 : decode cX3_askThen 17 = .ok (.goto 11, 3) := by decide +kernel
theorem dX3_askThen_20 : decode cX3_askThen 20 = .ok (.aload_n 0, 1) := by decide +kernel
theorem dX3_askThen_21 : decode cX3_askThen 21 = .ok (.iload_n 2, 1) := by decide +kernel
theorem dX3_askThen_22 : decode cX3_askThen 22 = .ok (.iload_n 3, 1) := by decide +kernel
theorem dX3_askThen_23 : decode cX3_askThen 23 = .ok (.iload 4, 2) := by decide +kernel
theorem dX3_askThen_25 : decode cX3_askThen 25 = .ok (.invokevirtual 165, 3) := by decide +kernel
theorem dX3_askThen_28 : decode cX3_askThen 28 = .ok (.ireturn, 1) := by decide +kernel
theorem dX3_rankBySieve_0 : decode cX3_rankBySieve 0 = .ok (.aload_n 0, 1) := by decide +kernel
theorem dX3_rankBySieve_1 : decode cX3_rankBySieve 1 = .ok (.iload_n 1, 1) := by decide +kernel
theorem dX3_rankBySieve_2 : decode cX3_rankBySieve 2 = .ok (.iload_n 2, 1) := by decide +kernel
theorem dX3_rankBySieve_3 : decode cX3_rankBySieve 3 = .ok (.invokevirtual 117, 3) := by decide +kernel
theorem dX3_rankBySieve_6 : decode cX3_rankBySieve 6 = .ok (.ifCond .eq 7, 3) := by decide +kernel
theorem dX3_rankBySieve_9 : decode cX3_rankBySieve 9 = .ok (.iconst 0, 1) := by decide +kernel
theorem dX3_rankBySieve_10 : decode cX3_rankBySieve 10 = .ok (.goto 4, 3) := by decide +kernel
theorem dX3_rankBySieve_13 : decode cX3_rankBySieve 13 = .ok (.iconst 1, 1) := by decide +kernel
theorem dX3_rankBySieve_14 : decode cX3_rankBySieve 14 = .ok (.ireturn, 1) := by decide +kernel
theorem dX3_lesserFirst_0 : decode cX3_lesserFirst 0 = .ok (.lload_n 0, 1) := by decide +kernel
theorem dX3_lesserFirst_1 : decode cX3_lesserFirst 1 = .ok (.lload_n 2, 1) := by decide +kernel
theorem dX3_lesserFirst_2 : decode cX3_lesserFirst 2 = .ok (.lcmp, 1) := by decide +kernel
theorem dX3_lesserFirst_3 : decode cX3_lesserFirst 3 = .ok (.ifCond .ne 5, 3) := by decide +kernel
theorem dX3_lesserFirst_6 : decode cX3_lesserFirst 6 = .ok (.iconst 0, 1) := by decide +kernel
theorem dX3_lesserFirst_7 : decode cX3_lesserFirst 7 = .ok (.ireturn, 1) := by decide +kernel
theorem dX3_lesserFirst_8 : decode cX3_lesserFirst 8 = .ok (.lload_n 0, 1) := by decide +kernel
theorem dX3_lesserFirst_9 : decode cX3_lesserFirst 9 = .ok (.lload_n 2, 1) := by decide +kernel
theorem dX3_lesserFirst_10 : decode cX3_lesserFirst 10 = .ok (.lcmp, 1) := by decide +kernel
theorem dX3_lesserFirst_11 : decode cX3_lesserFirst 11 = .ok (.ifCond .ge 7, 3) := by decide +kernel
theorem dX3_lesserFirst_14 : decode cX3_lesserFirst 14 = .ok (.iconst (-1), 1) := by decide +kernel
theorem dX3_lesserFirst_15 : decode cX3_lesserFirst 15 = .ok (.goto 4, 3) := by decide +kernel
theorem dX3_lesserFirst_18 : decode cX3_lesserFirst 18 = .ok (.iconst 1, 1) := by decide +kernel
theorem dX3_lesserFirst_19 : decode cX3_lesserFirst 19 = .ok (.ireturn, 1) := by decide +kernel
theorem dX3_quotient_0 : decode cX3_quotient 0 = .ok (.lload_n 3, 1) := by decide +kernel
theorem dX3_quotient_1 : decode cX3_quotient 1 = .ok (.lconst 0, 1) := by decide +kernel
theorem dX3_quotient_2 : decode cX3_quotient 2 = .ok (.lcmp, 1) := by decide +kernel
theorem dX3_quotient_3 : decode cX3_quotient 3 = .ok (.ifCond .ne 13, 3) := by decide +kernel
theorem dX3_quotient_6 : decode cX3_quotient 6 = .ok (.aload_n 0, 1) := by decide +kernel
theorem dX3_quotient_7 : decode cX3_quotient 7 = .ok (.getfield 56, 3) := by decide +kernel
theorem dX3_quotient_10 : decode cX3_quotient 10 = .ok (.iconst 1, 1) := by decide +kernel
theorem dX3_quotient_11 : decode cX3_quotient 11 = .ok (.invokevirtual 201, 3) := by decide +kernel
theorem dX3_quotient_14 : decode cX3_quotient 14 = .ok (.lconst 0, 1) := by decide +kernel
theorem dX3_quotient_15 : decode cX3_quotient 15 = .ok (.lreturn, 1) := by decide +kernel
theorem dX3_quotient_16 : decode cX3_quotient 16 = .ok (.lload_n 1, 1) := by decide +kernel
theorem dX3_quotient_17 : decode cX3_quotient 17 = .ok (.lload_n 3, 1) := by decide +kernel
theorem dX3_quotient_18 : decode cX3_quotient 18 = .ok (.ldiv, 1) := by decide +kernel
theorem dX3_quotient_19 : decode cX3_quotient 19 = .ok (.lreturn, 1) := by decide +kernel
theorem dX3_itemAt_0 : decode cX3_itemAt 0 = .ok (.lload_n 1, 1) := by decide +kernel
theorem dX3_itemAt_1 : decode cX3_itemAt 1 = .ok (.invokestatic 75, 3) := by decide +kernel
theorem dX3_itemAt_4 : decode cX3_itemAt 4 = .ok (.ifCond .ne 13, 3) := by decide +kernel
theorem dX3_itemAt_7 : decode cX3_itemAt 7 = .ok (.aload_n 0, 1) := by decide +kernel
theorem dX3_itemAt_8 : decode cX3_itemAt 8 = .ok (.getfield 56, 3) := by decide +kernel
theorem dX3_itemAt_11 : decode cX3_itemAt 11 = .ok (.iconst 2, 1) := by decide +kernel
theorem dX3_itemAt_12 : decode cX3_itemAt 12 = .ok (.invokevirtual 201, 3) := by decide +kernel
theorem dX3_itemAt_15 : decode cX3_itemAt 15 = .ok (.lconst 0, 1) := by decide +kernel
theorem dX3_itemAt_16 : decode cX3_itemAt 16 = .ok (.lreturn, 1) := by decide +kernel
theorem dX3_itemAt_17 : decode cX3_itemAt 17 = .ok (.aload_n 0, 1) := by decide +kernel
theorem dX3_itemAt_18 : decode cX3_itemAt 18 = .ok (.getfield 17, 3) := by decide +kernel
theorem dX3_itemAt_21 : decode cX3_itemAt 21 = .ok (.lload_n 1, 1) := by decide +kernel
theorem dX3_itemAt_22 : decode cX3_itemAt 22 = .ok (.l2i, 1) := by decide +kernel
theorem dX3_itemAt_23 : decode cX3_itemAt 23 = .ok (.laload, 1) := by decide +kernel
theorem dX3_itemAt_24 : decode cX3_itemAt 24 = .ok (.lreturn, 1) := by decide +kernel
end
section
theorem dX4_init_0 : decode cX4_init 0 = .ok (.aload_n 0, 1) := by decide +kernel
theorem dX4_init_1 : decode cX4_init 1 = .ok (.invokespecial 1, 3) := by decide +kernel
theorem dX4_init_4 : decode cX4_init 4 = .ok (.aload_n 0, 1) := by decide +kernel
theorem dX4_init_5 : decode cX4_init 5 = .ok (.bipush 120, 2) := by decide +kernel
theorem dX4_init_7 : decode cX4_init 7 = .ok (.newarray .long, 2) := by decide +kernel
theorem dX4_init_9 : decode cX4_init 9 = .ok (.putfield 7, 3) := by decide +kernel
theorem dX4_init_12 : decode cX4_init 12 = .ok (.aload_n 0, 1) := by decide +kernel
theorem dX4_init_13 : decode cX4_init 13 = .ok (.bipush 8, 2) := by decide +kernel
theorem dX4_init_15 : decode cX4_init 15 = .ok (.newarray .long, 2) := by decide +kernel
theorem dX4_init_17 : decode cX4_init 17 = .ok (.putfield 13, 3) := by decide +kernel
theorem dX4_init_20 : decode cX4_init 20 = .ok (.aload_n 0, 1) := by decide +kernel
theorem dX4_init_21 : decode cX4_init 21 = .ok (.bipush 40, 2) := by decide +kernel
theorem dX4_init_23 : decode cX4_init 23 = .ok (.newarray .int, 2) := by decide +kernel
theorem dX4_init_25 : decode cX4_init 25 = .ok (.putfield 16, 3) := by decide +kernel
theorem dX4_init_28 : decode cX4_init 28 = .ok (.aload_n 0, 1) := by decide +kernel
theorem dX4_init_29 : decode cX4_init 29 = .ok (.iconst 3, 1) := by decide +kernel
theorem dX4_init_30 : decode cX4_init 30 = .ok (.newarray .int, 2) := by decide +kernel
theorem dX4_init_32 : decode cX4_init 32 = .ok (.putfield 20, 3) := by decide +kernel
theorem dX4_init_35 : decode cX4_init 35 = .ok (.aload_n 0, 1) := by decide +kernel
theorem dX4_init_36 : decode cX4_init 36 = .ok (.bipush 72, 2) := by decide +kernel
theorem dX4_init_38 : decode cX4_init 38 = .ok (.newarray .int, 2) := by decide +kernel
theorem dX4_init_40 : decode cX4_init 40 = .ok (.putfield 23, 3) := by decide +kernel
theorem dX4_init_43 : decode cX4_init 43 = .ok (.aload_n 0, 1) := by decide +kernel
theorem dX4_init_44 : decode cX4_init 44 = .ok (.bipush 72, 2) := by decide +kernel
theorem dX4_init_46 : decode cX4_init 46 = .ok (.newarray .int, 2) := by decide +kernel
theorem dX4_init_48 : decode cX4_init 48 = .ok (.putfield 26, 3) := by decide +kernel
theorem dX4_init_51 : decode cX4_init 51 = .ok (.aload_n 0, 1) := by decide +kernel
theorem dX4_init_52 : decode cX4_init 52 = .ok (.bipush 72, 2) := by decide +kernel
theorem dX4_init_54 : decode cX4_init 54 = .ok (.newarray .int, 2) := by decide +kernel
theorem dX4_init_56 : decode cX4_init 56 = .ok (.putfield 29, 3) := by decide +kernel
theorem dX4_init_59 : decode cX4_init 59 = .ok (.aload_n 0, 1) := by decide +kernel
theorem dX4_init_60 : decode cX4_init 60 = .ok (.bipush 72, 2) := by decide +kernel
theorem dX4_init_62 : decode cX4_init 62 = .ok (.newarray .long, 2) := by decide +kernel
theorem dX4_init_64 : decode cX4_init 64 = .ok (.putfield 32, 3) := by decide +kernel
theorem dX4_init_67 : decode cX4_init 67 = .ok (.aload_n 0, 1) := by decide +kernel
theorem dX4_init_68 : decode cX4_init 68 = .ok (.bipush 72, 2) := by decide +kernel
theorem dX4_init_70 : decode cX4_init 70 = .ok (.newarray .int, 2) := by decide +kernel
theorem dX4_init_72 : decode cX4_init 72 = .ok (.putfield 35, 3) := by decide +kernel
theorem dX4_init_75 : decode cX4_init 75 = .ok (.aload_n 0, 1) := by decide +kernel
theorem dX4_init_76 : decode cX4_init 76 = .ok (.bipush 80, 2) := by decide +kernel
theorem dX4_init_78 : decode cX4_init 78 = .ok (.newarray .int, 2) := by decide +kernel
theorem dX4_init_80 : decode cX4_init 80 = .ok (.putfield 38, 3) := by decide +kernel
theorem dX4_init_83 : decode cX4_init 83 = .ok (.aload_n 0, 1) := by decide +kernel
theorem dX4_init_84 : decode cX4_init 84 = .ok (.bipush 80, 2) := by decide +kernel
theorem dX4_init_86 : decode cX4_init 86 = .ok (.newarray .int, 2) := by decide +kernel
theorem dX4_init_88 : decode cX4_init 88 = .ok (.putfield 41, 3) := by decide +kernel
theorem dX4_init_91 : decode cX4_init 91 = .ok (.aload_n 0, 1) := by decide +kernel
theorem dX4_init_92 : decode cX4_init 92 = .ok (.bipush 80, 2) := by decide +kernel
theorem dX4_init_94 : decode cX4_init 94 = .ok (.newarray .int, 2) := by decide +kernel
theorem dX4_init_96 : decode cX4_init 96 = .ok (.putfield 44, 3) := by decide +kernel
theorem dX4_init_99 : decode cX4_init 99 = .ok (.aload_n 0, 1) := by decide +kernel
theorem dX4_init_100 : decode cX4_init 100 = .ok (.bipush 80, 2) := by decide +kernel
theorem dX4_init_102 : decode cX4_init 102 = .ok (.newarray .int, 2) := by decide +kernel
theorem dX4_init_104 : decode cX4_init 104 = .ok (.putfield 47, 3) := by decide +kernel
theorem dX4_init_107 : decode cX4_init 107 = .ok (.aload_n 0, 1) := by decide +kernel
theorem dX4_init_108 : decode cX4_init 108 = .ok (.bipush 80, 2) := by decide +kernel
theorem dX4_init_110 : decode cX4_init 110 = .ok (.newarray .long, 2) := by decide +kernel
theorem dX4_init_112 : decode cX4_init 112 = .ok (.putfield 50, 3) := by decide +kernel
theorem dX4_init_115 : decode cX4_init 115 = .ok (.aload_n 0, 1) := by decide +kernel
theorem dX4_init_116 : decode cX4_init 116 = .ok (.bipush 40, 2) := by decide +kernel
theorem dX4_init_118 : decode cX4_init 118 = .ok (.newarray .long, 2) := by decide +kernel
theorem dX4_init_120 : decode cX4_init 120 = .ok (.putfield 53, 3) := by decide +kernel
theorem dX4_init_123 : decode cX4_init 123 = .ok (.aload_n 0, 1) := by decide +kernel
theorem dX4_init_124 : decode cX4_init 124 = .ok (.bipush 40, 2) := by decide +kernel
theorem dX4_init_126 : decode cX4_init 126 = .ok (.newarray .int, 2) := by decide +kernel
theorem dX4_init_128 : decode cX4_init 128 = .ok (.putfield 56, 3) := by decide +kernel
theorem dX4_init_131 : decode cX4_init 131 = .ok (.aload_n 0, 1) := by decide +kernel
theorem dX4_init_132 : decode cX4_init 132 = .ok (.bipush 40, 2) := by decide +kernel
theorem dX4_init_134 : decode cX4_init 134 = .ok (.newarray .long, 2) := by decide +kernel
theorem dX4_init_136 : decode cX4_init 136 = .ok (.putfield 59, 3) := by decide +kernel
theorem dX4_init_139 : decode cX4_init 139 = .ok (.aload_n 0, 1) := by decide +kernel
theorem dX4_init_140 : decode cX4_init 140 = .ok (.bipush 40, 2) := by decide +kernel
theorem dX4_init_142 : decode cX4_init 142 = .ok (.newarray .int, 2) := by decide +kernel
theorem dX4_init_144 : decode cX4_init 144 = .ok (.putfield 62, 3) := by decide +kernel
theorem dX4_init_147 : decode cX4_init 147 = .ok (.aload_n 0, 1) := by decide +kernel
theorem dX4_init_148 : decode cX4_init 148 = .ok (.bipush 40, 2) := by decide +kernel
theorem dX4_init_150 : decode cX4_init 150 = .ok (.newarray .int, 2) := by decide +kernel
theorem dX4_init_152 : decode cX4_init 152 = .ok (.putfield 65, 3) := by decide +kernel
theorem dX4_init_155 : decode cX4_init 155 = .ok (.aload_n 0, 1) := by decide +kernel
theorem dX4_init_156 : decode cX4_init 156 = .ok (.bipush 40, 2) := by decide +kernel
theorem dX4_init_158 : decode cX4_init 158 = .ok (.newarray .long, 2) := by decide +kernel
theorem dX4_init_160 : decode cX4_init 160 = .ok (.putfield 68, 3) := by decide +kernel
theorem dX4_init_163 : decode cX4_init 163 = .ok (.aload_n 0, 1) := by decide +kernel
theorem dX4_init_164 : decode cX4_init 164 = .ok (.bipush 40, 2) := by decide +kernel
theorem dX4_init_166 : decode cX4_init 166 = .ok (.newarray .int, 2) := by decide +kernel
theorem dX4_init_168 : decode cX4_init 168 = .ok (.putfield 71, 3) := by decide +kernel
theorem dX4_init_171 : decode cX4_init 171 = .ok (.aload_n 0, 1) := by decide +kernel
theorem dX4_init_172 : decode cX4_init 172 = .ok (.bipush 40, 2) := by decide +kernel
theorem dX4_init_174 : decode cX4_init 174 = .ok (.newarray .long, 2) := by decide +kernel
theorem dX4_init_176 : decode cX4_init 176 = .ok (.putfield 74, 3) := by decide +kernel
theorem dX4_init_179 : decode cX4_init 179 = .ok (.aload_n 0, 1) := by decide +kernel
theorem dX4_init_180 : decode cX4_init 180 = .ok (.bipush 40, 2) := by decide +kernel
theorem dX4_init_182 : decode cX4_init 182 = .ok (.newarray .int, 2) := by decide +kernel
theorem dX4_init_184 : decode cX4_init 184 = .ok (.putfield 77, 3) := by decide +kernel
theorem dX4_init_187 : decode cX4_init 187 = .ok (.aload_n 0, 1) := by decide +kernel
theorem dX4_init_188 : decode cX4_init 188 = .ok (.iconst 0, 1) := by decide +kernel
theorem dX4_init_189 : decode cX4_init 189 = .ok (.putfield 80, 3) := by decide +kernel
theorem dX4_init_192 : decode cX4_init 192 = .ok (.return_, 1) := by decide +kernel
theorem dX4_in_0 : decode cX4_in 0 = .ok (.iload_n 0, 1) := by decide +kernel
theorem dX4_in_1 : decode cX4_in 1 = .ok (.iload_n 1, 1) := by decide +kernel
theorem dX4_in_2 : decode cX4_in 2 = .ok (.if_icmp .lt 12, 3) := by decide +kernel
theorem dX4_in_5 : decode cX4_in 5 = .ok (.iload_n 0, 1) := by decide +kernel
theorem dX4_in_6 : decode cX4_in 6 = .ok (.iload_n 2, 1) := by decide +kernel
theorem dX4_in_7 : decode cX4_in 7 = .ok (.if_icmp .gt 7, 3) := by decide +kernel
theorem dX4_in_10 : decode cX4_in 10 = .ok (.iconst 1, 1) := by decide +kernel
theorem dX4_in_11 : decode cX4_in 11 = .ok (.goto 4, 3) := by decide +kernel
theorem dX4_in_14 : decode cX4_in 14 = .ok (.iconst 0, 1) := by decide +kernel
theorem dX4_in_15 : decode cX4_in 15 = .ok (.ireturn, 1) := by decide +kernel
theorem dX4_isThing_0 : decode cX4_isThing 0 = .ok (.iload_n 1, 1) := by decide +kernel
theorem dX4_isThing_1 : decode cX4_isThing 1 = .ok (.iconst 0, 1) := by decide +kernel
theorem dX4_isThing_2 : decode cX4_isThing 2 = .ok (.aload_n 0, 1) := by decide +kernel
theorem dX4_isThing_3 : decode cX4_isThing 3 = .ok (.getfield 80, 3) := by decide +kernel
theorem dX4_isThing_6 : decode cX4_isThing 6 = .ok (.iconst 1, 1) := by decide +kernel
theorem dX4_isThing_7 : decode cX4_isThing 7 = .ok (.isub, 1) := by decide +kernel
theorem dX4_isThing_8 : decode cX4_isThing 8 = .ok (.invokestatic 84, 3) := by decide +kernel
theorem dX4_isThing_11 : decode cX4_isThing 11 = .ok (.ireturn, 1) := by decide +kernel
theorem dX4_is_0 : decode cX4_is 0 = .ok (.iload_n 2, 1) := by decide +kernel
theorem dX4_is_1 : decode cX4_is 1 = .ok (.iconst 0, 1) := by decide +kernel
theorem dX4_is_2 : decode cX4_is 2 = .ok (.aload_n 0, 1) := by decide +kernel
theorem dX4_is_3 : decode cX4_is 3 = .ok (.getfield 20, 3) := by decide +kernel
theorem dX4_is_6 : decode cX4_is 6 = .ok (.iload_n 1, 1) := by decide +kernel
theorem dX4_is_7 : decode cX4_is 7 = .ok (.iaload, 1) := by decide +kernel
theorem dX4_is_8 : decode cX4_is 8 = .ok (.iconst 1, 1) := by decide +kernel
theorem dX4_is_9 : decode cX4_is 9 = .ok (.isub, 1) := by decide +kernel
theorem dX4_is_10 : decode cX4_is 10 = .ok (.invokestatic 84, 3) := by decide +kernel
theorem dX4_is_13 : decode cX4_is 13 = .ok (.ireturn, 1) := by decide +kernel
theorem dX4_thing_0 : decode cX4_thing 0 = .ok (.aload_n 0, 1) := by decide +kernel
theorem dX4_thing_1 : decode cX4_thing 1 = .ok (.getfield 80, 3) := by decide +kernel
theorem dX4_thing_4 : decode cX4_thing 4 = .ok (.bipush 40, 2) := by decide +kernel
theorem dX4_thing_6 : decode cX4_thing 6 = .ok (.if_icmp .ne 6, 3) := by decide +kernel
theorem dX4_thing_9 : decode cX4_thing 9 = .ok (.bipush (-2), 2) := by decide +kernel
theorem dX4_thing_11 : decode cX4_thing 11 = .ok (.ireturn, 1) := by decide +kernel
theorem dX4_thing_12 : decode cX4_thing 12 = .ok (.aload_n 0, 1) := by decide +kernel
theorem dX4_thing_13 : decode cX4_thing 13 = .ok (.getfield 7, 3) := by decide +kernel
theorem dX4_thing_16 : decode cX4_thing 16 = .ok (.iconst 3, 1) := by decide +kernel
theorem dX4_thing_17 : decode cX4_thing 17 = .ok (.aload_n 0, 1) := by decide +kernel
theorem dX4_thing_18 : decode cX4_thing 18 = .ok (.getfield 80, 3) := by decide +kernel
theorem dX4_thing_21 : decode cX4_thing 21 = .ok (.imul, 1) := by decide +kernel
theorem dX4_thing_22 : decode cX4_thing 22 = .ok (.lload_n 1, 1) := by decide +kernel
theorem dX4_thing_23 : decode cX4_thing 23 = .ok (.lastore, 1) := by decide +kernel
theorem dX4_thing_24 : decode cX4_thing 24 = .ok (.aload_n 0, 1) := by decide +kernel
theorem dX4_thing_25 : decode cX4_thing 25 = .ok (.getfield 7, 3) := by decide +kernel
theorem dX4_thing_28 : decode cX4_thing 28 = .ok (.iconst 3, 1) := by decide +kernel
theorem dX4_thing_29 : decode cX4_thing 29 = .ok (.aload_n 0, 1) := by decide +kernel
theorem dX4_thing_30 : decode cX4_thing 30 = .ok (.getfield 80, 3) := by decide +kernel
theorem dX4_thing_33 : decode cX4_thing 33 = .ok (.imul, 1) := by decide +kernel
theorem dX4_thing_34 : decode cX4_thing 34 = .ok (.iconst 1, 1) := by decide +kernel
theorem dX4_thing_35 : decode cX4_thing 35 = .ok (.iadd, 1) := by decide +kernel
theorem dX4_thing_36 : decode cX4_thing 36 = .ok (.lload_n 3, 1) := by decide +kernel
theorem dX4_thing_37 : decode cX4_thing 37 = .ok (.lastore, 1) := by decide +kernel
theorem dX4_thing_38 : decode cX4_thing 38 = .ok (.aload_n 0, 1) := by decide +kernel
theorem dX4_thing_39 : decode cX4_thing 39 = .ok (.getfield 7, 3) := by decide +kernel
theorem dX4_thing_42 : decode cX4_thing 42 = .ok (.iconst 3, 1) := by decide +kernel
theorem dX4_thing_43 : decode cX4_thing 43 = .ok (.aload_n 0, 1) := by decide +kernel
theorem dX4_thing_44 : decode cX4_thing 44 = .ok (.getfield 80, 3) := by decide +kernel
theorem dX4_thing_47 : decode cX4_thing 47 = .ok (.imul, 1) := by decide +kernel
theorem dX4_thing_48 : decode cX4_thing 48 = .ok (.iconst 2, 1) := by decide +kernel
theorem dX4_thing_49 : decode cX4_thing 49 = .ok (.iadd, 1) := by decide +kernel
theorem dX4_thing_50 : decode cX4_thing 50 = .ok (.lload 5, 2) := by decide +kernel
theorem dX4_thing_52 : decode cX4_thing 52 = .ok (.lastore, 1) := by decide +kernel
theorem dX4_thing_53 : decode cX4_thing 53 = .ok (.aload_n 0, 1) := by decide +kernel
theorem dX4_thing_54 : decode cX4_thing 54 = .ok (.getfield 16, 3) := by decide +kernel
theorem dX4_thing_57 : decode cX4_thing 57 = .ok (.aload_n 0, 1) := by decide +kernel
theorem dX4_thing_58 : decode cX4_thing 58 = .ok (.getfield 88, 3) := by decide +kernel
theorem dX4_thing_61 : decode cX4_thing 61 = .ok (.aload_n 0, 1) := by decide +kernel
theorem dX4_thing_62 : decode cX4_thing 62 = .ok (.getfield 80, 3) := by decide +kernel
theorem dX4_thing_65 : decode cX4_thing 65 = .ok (.iastore, 1) := by decide +kernel
theorem dX4_thing_66 : decode cX4_thing 66 = .ok (.aload_n 0, 1) := by decide +kernel
theorem dX4_thing_67 : decode cX4_thing 67 = .ok (.dup, 1) := by decide +kernel
theorem dX4_thing_68 : decode cX4_thing 68 = .ok (.getfield 88, 3) := by decide +kernel
theorem dX4_thing_71 : decode cX4_thing 71 = .ok (.iconst 1, 1) := by decide +kernel
theorem dX4_thing_72 : decode cX4_thing 72 = .ok (.iadd, 1) := by decide +kernel
theorem dX4_thing_73 : decode cX4_thing 73 = .ok (.putfield 88, 3) := by decide +kernel
theorem dX4_thing_76 : decode cX4_thing 76 = .ok (.aload_n 0, 1) := by decide +kernel
theorem dX4_thing_77 : decode cX4_thing 77 = .ok (.dup, 1) := by decide +kernel
theorem dX4_thing_78 : decode cX4_thing 78 = .ok (.getfield 80, 3) := by decide +kernel
theorem dX4_thing_81 : decode cX4_thing 81 = .ok (.iconst 1, 1) := by decide +kernel
theorem dX4_thing_82 : decode cX4_thing 82 = .ok (.iadd, 1) := by decide +kernel
theorem dX4_thing_83 : decode cX4_thing 83 = .ok (.putfield 80, 3) := by decide +kernel
theorem dX4_thing_86 : decode cX4_thing 86 = .ok (.aload_n 0, 1) := by decide +kernel
theorem dX4_thing_87 : decode cX4_thing 87 = .ok (.getfield 80, 3) := by decide +kernel
theorem dX4_thing_90 : decode cX4_thing 90 = .ok (.iconst 1, 1) := by decide +kernel
theorem dX4_thing_91 : decode cX4_thing 91 = .ok (.isub, 1) := by decide +kernel
theorem dX4_thing_92 : decode cX4_thing 92 = .ok (.ireturn, 1) := by decide +kernel
theorem dX4_change_0 : decode cX4_change 0 = .ok (.aload_n 0, 1) := by decide +kernel
theorem dX4_change_1 : decode cX4_change 1 = .ok (.iload_n 1, 1) := by decide +kernel
theorem dX4_change_2 : decode cX4_change 2 = .ok (.invokevirtual 91, 3) := by decide +kernel
theorem dX4_change_5 : decode cX4_change 5 = .ok (.ifCond .eq 12, 3) := by decide +kernel
theorem dX4_change_8 : decode cX4_change 8 = .ok (.iload_n 2, 1) := by decide +kernel
theorem dX4_change_9 : decode cX4_change 9 = .ok (.iconst 0, 1) := by decide +kernel
theorem dX4_change_10 : decode cX4_change 10 = .ok (.iconst 2, 1) := by decide +kernel
theorem dX4_change_11 : decode cX4_change 11 = .ok (.invokestatic 84, 3) := by decide +kernel
theorem dX4_change_14 : decode cX4_change 14 = .ok (.ifCond .ne 5, 3) := by decide +kernel
theorem dX4_change_17 : decode cX4_change 17 = .ok (.iconst (-1), 1) := by decide +kernel
theorem dX4_change_18 : decode cX4_change 18 = .ok (.ireturn, 1) := by decide +kernel
theorem dX4_change_19 : decode cX4_change 19 = .ok (.aload_n 0, 1) := by decide +kernel
theorem dX4_change_20 : decode cX4_change 20 = .ok (.getfield 7, 3) := by decide +kernel
theorem dX4_change_23 : decode cX4_change 23 = .ok (.iconst 3, 1) := by decide +kernel
theorem dX4_change_24 : decode cX4_change 24 = .ok (.iload_n 1, 1) := by decide +kernel
theorem dX4_change_25 : decode cX4_change 25 = .ok (.imul, 1) := by decide +kernel
theorem dX4_change_26 : decode cX4_change 26 = .ok (.iload_n 2, 1) := by decide +kernel
theorem dX4_change_27 : decode cX4_change 27 = .ok (.iadd, 1) := by decide +kernel
theorem dX4_change_28 : decode cX4_change 28 = .ok (.lload_n 3, 1) := by decide +kernel
theorem dX4_change_29 : decode cX4_change 29 = .ok (.lastore, 1) := by decide +kernel
theorem dX4_change_30 : decode cX4_change 30 = .ok (.iconst 1, 1) := by decide +kernel
theorem dX4_change_31 : decode cX4_change 31 = .ok (.ireturn, 1) := by decide +kernel
theorem dX4_get_0 : decode cX4_get 0 = .ok (.aload_n 0, 1) := by decide +kernel
theorem dX4_get_1 : decode cX4_get 1 = .ok (.iload_n 1, 1) := by decide +kernel
theorem dX4_get_2 : decode cX4_get 2 = .ok (.invokevirtual 91, 3) := by decide +kernel
theorem dX4_get_5 : decode cX4_get 5 = .ok (.ifCond .eq 25, 3) := by decide +kernel
theorem dX4_get_8 : decode cX4_get 8 = .ok (.iload_n 2, 1) := by decide +kernel
theorem dX4_get_9 : decode cX4_get 9 = .ok (.iconst 0, 1) := by decide +kernel
theorem dX4_get_10 : decode cX4_get 10 = .ok (.iconst 2, 1) := by decide +kernel
theorem dX4_get_11 : decode cX4_get 11 = .ok (.invokestatic 84, 3) := by decide +kernel
theorem dX4_get_14 : decode cX4_get 14 = .ok (.ifCond .eq 16, 3) := by decide +kernel
theorem dX4_get_17 : decode cX4_get 17 = .ok (.aload_n 0, 1) := by decide +kernel
theorem dX4_get_18 : decode cX4_get 18 = .ok (.getfield 7, 3) := by decide +kernel
theorem dX4_get_21 : decode cX4_get 21 = .ok (.iconst 3, 1) := by decide +kernel
theorem dX4_get_22 : decode cX4_get 22 = .ok (.iload_n 1, 1) := by decide +kernel
theorem dX4_get_23 : decode cX4_get 23 = .ok (.imul, 1) := by decide +kernel
theorem dX4_get_24 : decode cX4_get 24 = .ok (.iload_n 2, 1) := by decide +kernel
theorem dX4_get_25 : decode cX4_get 25 = .ok (.iadd, 1) := by decide +kernel
theorem dX4_get_26 : decode cX4_get 26 = .ok (.laload, 1) := by decide +kernel
theorem dX4_get_27 : decode cX4_get 27 = .ok (.goto 4, 3) := by decide +kernel
theorem dX4_get_30 : decode cX4_get 30 = .ok (.lconst 0, 1) := by decide +kernel
theorem dX4_get_31 : decode cX4_get 31 = .ok (.lreturn, 1) := by decide +kernel
theorem dX4_item_0 : decode cX4_item 0 = .ok (.iload_n 1, 1) := by decide +kernel
theorem dX4_item_1 : decode cX4_item 1 = .ok (.iconst 0, 1) := by decide +kernel
theorem dX4_item_2 : decode cX4_item 2 = .ok (.bipush 7, 2) := by decide +kernel
theorem dX4_item_4 : decode cX4_item 4 = .ok (.invokestatic 84, 3) := by decide +kernel
theorem dX4_item_7 : decode cX4_item 7 = .ok (.ifCond .ne 5, 3) := by decide +kernel
theorem dX4_item_10 : decode cX4_item 10 = .ok (.iconst (-1), 1) := by decide +kernel
theorem dX4_item_11 : decode cX4_item 11 = .ok (.ireturn, 1) := by decide +kernel
theorem dX4_item_12 : decode cX4_item 12 = .ok (.aload_n 0, 1) := by decide +kernel
theorem dX4_item_13 : decode cX4_item 13 = .ok (.getfield 13, 3) := by decide +kernel
theorem dX4_item_16 : decode cX4_item 16 = .ok (.iload_n 1, 1) := by decide +kernel
theorem dX4_item_17 : decode cX4_item 17 = .ok (.lload_n 2, 1) := by decide +kernel
theorem dX4_item_18 : decode cX4_item 18 = .ok (.lastore, 1) := by decide +kernel
theorem dX4_item_19 : decode cX4_item 19 = .ok (.iconst 1, 1) := by decide +kernel
theorem dX4_item_20 : decode cX4_item 20 = .ok (.ireturn, 1) := by decide +kernel
theorem dX4_begins_0 : decode cX4_begins 0 = .ok (.aload_n 0, 1) := by decide +kernel
theorem dX4_begins_1 : decode cX4_begins 1 = .ok (.getfield 95, 3) := by decide +kernel
theorem dX4_begins_4 : decode cX4_begins 4 = .ok (.sipush 2000, 3) := by decide +kernel
theorem dX4_begins_7 : decode cX4_begins 7 = .ok (.if_icmp .ne 9, 3) := by decide +kernel
theorem dX4_begins_10 : decode cX4_begins 10 = .ok (.aload_n 0, 1) := by decide +kernel
theorem dX4_begins_11 : decode cX4_begins 11 = .ok (.iconst 4, 1) := by decide +kernel
theorem dX4_begins_12 : decode cX4_begins 12 = .ok (.putfield 98, 3) := by decide +kernel
theorem dX4_begins_15 : decode cX4_begins 15 = .ok (.return_, 1) := by decide +kernel
theorem dX4_begins_16 : decode cX4_begins 16 = .ok (.aload_n 0, 1) := by decide +kernel
theorem dX4_begins_17 : decode cX4_begins 17 = .ok (.dup, 1) := by decide +kernel
theorem dX4_begins_18 : decode cX4_begins 18 = .ok (.getfield 95, 3) := by decide +kernel
theorem dX4_begins_21 : decode cX4_begins 21 = .ok (.iconst 1, 1) := by decide +kernel
theorem dX4_begins_22 : decode cX4_begins 22 = .ok (.iadd, 1) := by decide +kernel
theorem dX4_begins_23 : decode cX4_begins 23 = .ok (.putfield 95, 3) := by decide +kernel
theorem dX4_begins_26 : decode cX4_begins 26 = .ok (.aload_n 0, 1) := by decide +kernel
theorem dX4_begins_27 : decode cX4_begins 27 = .ok (.dup, 1) := by decide +kernel
theorem dX4_begins_28 : decode cX4_begins 28 = .ok (.getfield 101, 3) := by decide +kernel
theorem dX4_begins_31 : decode cX4_begins 31 = .ok (.iconst 1, 1) := by decide +kernel
theorem dX4_begins_32 : decode cX4_begins 32 = .ok (.iadd, 1) := by decide +kernel
theorem dX4_begins_33 : decode cX4_begins 33 = .ok (.putfield 101, 3) := by decide +kernel
theorem dX4_begins_36 : decode cX4_begins 36 = .ok (.aload_n 0, 1) := by decide +kernel
theorem dX4_begins_37 : decode cX4_begins 37 = .ok (.getfield 38, 3) := by decide +kernel
theorem dX4_begins_40 : decode cX4_begins 40 = .ok (.aload_n 0, 1) := by decide +kernel
theorem dX4_begins_41 : decode cX4_begins 41 = .ok (.getfield 104, 3) := by decide +kernel
theorem dX4_begins_44 : decode cX4_begins 44 = .ok (.bipush 24, 2) := by decide +kernel
theorem dX4_begins_46 : decode cX4_begins 46 = .ok (.iload_n 1, 1) := by decide +kernel
theorem dX4_begins_47 : decode cX4_begins 47 = .ok (.imul, 1) := by decide +kernel
theorem dX4_begins_48 : decode cX4_begins 48 = .ok (.iload_n 2, 1) := by decide +kernel
theorem dX4_begins_49 : decode cX4_begins 49 = .ok (.iadd, 1) := by decide +kernel
theorem dX4_begins_50 : decode cX4_begins 50 = .ok (.iastore, 1) := by decide +kernel
theorem dX4_begins_51 : decode cX4_begins 51 = .ok (.aload_n 0, 1) := by decide +kernel
theorem dX4_begins_52 : decode cX4_begins 52 = .ok (.getfield 41, 3) := by decide +kernel
theorem dX4_begins_55 : decode cX4_begins 55 = .ok (.aload_n 0, 1) := by decide +kernel
theorem dX4_begins_56 : decode cX4_begins 56 = .ok (.getfield 104, 3) := by decide +kernel
theorem dX4_begins_59 : decode cX4_begins 59 = .ok (.iload_n 3, 1) := by decide +kernel
theorem dX4_begins_60 : decode cX4_begins 60 = .ok (.iastore, 1) := by decide +kernel
theorem dX4_begins_61 : decode cX4_begins 61 = .ok (.aload_n 0, 1) := by decide +kernel
theorem dX4_begins_62 : decode cX4_begins 62 = .ok (.getfield 44, 3) := by decide +kernel
theorem dX4_begins_65 : decode cX4_begins 65 = .ok (.aload_n 0, 1) := by decide +kernel
theorem dX4_begins_66 : decode cX4_begins 66 = .ok (.getfield 104, 3) := by decide +kernel
theorem dX4_begins_69 : decode cX4_begins 69 = .ok (.iload 4, 2) := by decide +kernel
theorem dX4_begins_71 : decode cX4_begins 71 = .ok (.iastore, 1) := by decide +kernel
theorem dX4_begins_72 : decode cX4_begins 72 = .ok (.aload_n 0, 1) := by decide +kernel
theorem dX4_begins_73 : decode cX4_begins 73 = .ok (.getfield 47, 3) := by decide +kernel
theorem dX4_begins_76 : decode cX4_begins 76 = .ok (.aload_n 0, 1) := by decide +kernel
theorem dX4_begins_77 : decode cX4_begins 77 = .ok (.getfield 104, 3) := by decide +kernel
theorem dX4_begins_80 : decode cX4_begins 80 = .ok (.iconst 0, 1) := by decide +kernel
theorem dX4_begins_81 : decode cX4_begins 81 = .ok (.iastore, 1) := by decide +kernel
theorem dX4_begins_82 : decode cX4_begins 82 = .ok (.aload_n 0, 1) := by decide +kernel
theorem dX4_begins_83 : decode cX4_begins 83 = .ok (.dup, 1) := by decide +kernel
theorem dX4_begins_84 : decode cX4_begins 84 = .ok (.getfield 104, 3) := by decide +kernel
theorem dX4_begins_87 : decode cX4_begins 87 = .ok (.iconst 1, 1) := by decide +kernel
theorem dX4_begins_88 : decode cX4_begins 88 = .ok (.iadd, 1) := by decide +kernel
theorem dX4_begins_89 : decode cX4_begins 89 = .ok (.putfield 104, 3) := by decide +kernel
theorem dX4_begins_92 : decode cX4_begins 92 = .ok (.return_, 1) := by decide +kernel
theorem dX4_tells_0 : decode cX4_tells 0 = .ok (.aload_n 0, 1) := by decide +kernel
theorem dX4_tells_1 : decode cX4_tells 1 = .ok (.lload_n 1, 1) := by decide +kernel
theorem dX4_tells_2 : decode cX4_tells 2 = .ok (.putfield 107, 3) := by decide +kernel
theorem dX4_tells_5 : decode cX4_tells 5 = .ok (.aload_n 0, 1) := by decide +kernel
theorem dX4_tells_6 : decode cX4_tells 6 = .ok (.dup, 1) := by decide +kernel
theorem dX4_tells_7 : decode cX4_tells 7 = .ok (.getfield 104, 3) := by decide +kernel
theorem dX4_tells_10 : decode cX4_tells 10 = .ok (.iconst 1, 1) := by decide +kernel
theorem dX4_tells_11 : decode cX4_tells 11 = .ok (.isub, 1) := by decide +kernel
theorem dX4_tells_12 : decode cX4_tells 12 = .ok (.putfield 104, 3) := by decide +kernel
theorem dX4_tells_15 : decode cX4_tells 15 = .ok (.return_, 1) := by decide +kernel
theorem dX4_goesScale_0 : decode cX4_goesScale 0 = .ok (.aload_n 0, 1) := by decide +kernel
theorem dX4_goesScale_1 : decode cX4_goesScale 1 = .ok (.getfield 23, 3) := by decide +kernel
theorem dX4_goesScale_4 : decode cX4_goesScale 4 = .ok (.iload_n 1, 1) := by decide +kernel
theorem dX4_goesScale_5 : decode cX4_goesScale 5 = .ok (.iaload, 1) := by decide +kernel
theorem dX4_goesScale_6 : decode cX4_goesScale 6 = .ok (.istore 6, 2) := by decide +kernel
theorem dX4_goesScale_8 : decode cX4_goesScale 8 = .ok (.aload_n 0, 1) := by decide +kernel
theorem dX4_goesScale_9 : decode cX4_goesScale 9 = .ok (.getfield 26, 3) := by decide +kernel
theorem dX4_goesScale_12 : decode cX4_goesScale 12 = .ok (.iload_n 1, 1) := by decide +kernel
theorem dX4_goesScale_13 : decode cX4_goesScale 13 = .ok (.iaload, 1) := by decide +kernel
theorem dX4_goesScale_14 : decode cX4_goesScale 14 = .ok (.istore 7, 2) := by decide +kernel
theorem dX4_goesScale_16 : decode cX4_goesScale 16 = .ok (.aload_n 0, 1) := by decide +kernel
theorem dX4_goesScale_17 : decode cX4_goesScale 17 = .ok (.getfield 29, 3) := by decide +kernel
theorem dX4_goesScale_20 : decode cX4_goesScale 20 = .ok (.iload_n 1, 1) := by decide +kernel
theorem dX4_goesScale_21 : decode cX4_goesScale 21 = .ok (.iaload, 1) := by decide +kernel
theorem dX4_goesScale_22 : decode cX4_goesScale 22 = .ok (.istore 8, 2) := by decide +kernel
theorem dX4_goesScale_24 : decode cX4_goesScale 24 = .ok (.iload 6, 2) := by decide +kernel
theorem dX4_goesScale_26 : decode cX4_goesScale 26 = .ok (.bipush 11, 2) := by decide +kernel
theorem dX4_goesScale_28 : decode cX4_goesScale 28 = .ok (.if_icmp .ne 11, 3) := by decide +kernel
theorem dX4_goesScale_31 : decode cX4_goesScale 31 = .ok (.aload_n 0, 1) := by decide +kernel
theorem dX4_goesScale_32 : decode cX4_goesScale 32 = .ok (.iconst 3, 1) := by decide +kernel
theorem dX4_goesScale_33 : decode cX4_goesScale 33 = .ok (.putfield 98, 3) := by decide +kernel
theorem dX4_goesScale_36 : decode cX4_goesScale 36 = .ok (.goto 254, 3) := by decide +kernel
theorem dX4_goesScale_39 : decode cX4_goesScale 39 = .ok (.iload 6, 2) := by decide +kernel
theorem dX4_goesScale_41 : decode cX4_goesScale 41 = .ok (.iconst 2, 1) := by decide +kernel
theorem dX4_goesScale_42 : decode cX4_goesScale 42 = .ok (.if_icmp .ge 36, 3) := by decide +kernel
theorem dX4_goesScale_45 : decode cX4_goesScale 45 = .ok (.aload_n 0, 1) := by decide +kernel
theorem dX4_goesScale_46 : decode cX4_goesScale 46 = .ok (.iload 6, 2) := by decide +kernel
theorem dX4_goesScale_48 : decode cX4_goesScale 48 = .ok (.ifCond .ne 17, 3) := by decide +kernel
theorem dX4_goesScale_51 : decode cX4_goesScale 51 = .ok (.aload_n 0, 1) := by decide +kernel
theorem dX4_goesScale_52 : decode cX4_goesScale 52 = .ok (.getfield 7, 3) := by decide +kernel
theorem dX4_goesScale_55 : decode cX4_goesScale 55 = .ok (.iconst 3, 1) := by decide +kernel
theorem dX4_goesScale_56 : decode cX4_goesScale 56 = .ok (.iload_n 2, 1) := by decide +kernel
theorem dX4_goesScale_57 : decode cX4_goesScale 57 = .ok (.imul, 1) := by decide +kernel
theorem dX4_goesScale_58 : decode cX4_goesScale 58 = .ok (.iload 7, 2) := by decide +kernel
theorem dX4_goesScale_60 : decode cX4_goesScale 60 = .ok (.iadd, 1) := by decide +kernel
theorem dX4_goesScale_61 : decode cX4_goesScale 61 = .ok (.laload, 1) := by decide +kernel
theorem dX4_goesScale_62 : decode cX4_goesScale 62 = .ok (.goto 10, 3) := by decide +kernel
theorem dX4_goesScale_65 : decode cX4_goesScale 65 = .ok (.iload 7, 2) := by decide +kernel
theorem dX4_goesScale_67 : decode cX4_goesScale 67 = .ok (.i2l, 1) := by decide +kernel
theorem dX4_goesScale_68 : decode cX4_goesScale 68 = .ok (.iload 8, 2) := by decide +kernel
theorem dX4_goesScale_70 : decode cX4_goesScale 70 = .ok (.i2l, 1) := by decide +kernel
theorem dX4_goesScale_71 : decode cX4_goesScale 71 = .ok (.ladd, 1) := by decide +kernel
theorem dX4_goesScale_72 : decode cX4_goesScale 72 = .ok (.invokevirtual 111, 3) := by decide +kernel
theorem dX4_goesScale_75 : decode cX4_goesScale 75 = .ok (.goto 215, 3) := by decide +kernel
theorem dX4_goesScale_78 : decode cX4_goesScale 78 = .ok (.iload 6, 2) := by decide +kernel
theorem dX4_goesScale_80 : decode cX4_goesScale 80 = .ok (.bipush 8, 2) := by decide +kernel
theorem dX4_goesScale_82 : decode cX4_goesScale 82 = .ok (.if_icmp .eq 10, 3) := by decide +kernel
theorem dX4_goesScale_85 : decode cX4_goesScale 85 = .ok (.iload 6, 2) := by decide +kernel
theorem dX4_goesScale_87 : decode cX4_goesScale 87 = .ok (.bipush 9, 2) := by decide +kernel
theorem dX4_goesScale_89 : decode cX4_goesScale 89 = .ok (.if_icmp .ne 16, 3) := by decide +kernel
theorem dX4_goesScale_92 : decode cX4_goesScale 92 = .ok (.aload_n 0, 1) := by decide +kernel
theorem dX4_goesScale_93 : decode cX4_goesScale 93 = .ok (.aload_n 0, 1) := by decide +kernel
theorem dX4_goesScale_94 : decode cX4_goesScale 94 = .ok (.getfield 32, 3) := by decide +kernel
theorem dX4_goesScale_97 : decode cX4_goesScale 97 = .ok (.iload_n 1, 1) := by decide +kernel
theorem dX4_goesScale_98 : decode cX4_goesScale 98 = .ok (.laload, 1) := by decide +kernel
theorem dX4_goesScale_99 : decode cX4_goesScale 99 = .ok (.invokevirtual 111, 3) := by decide +kernel
theorem dX4_goesScale_102 : decode cX4_goesScale 102 = .ok (.goto 188, 3) := by decide +kernel
theorem dX4_goesScale_105 : decode cX4_goesScale 105 = .ok (.iload 6, 2) := by decide +kernel
theorem dX4_goesScale_107 : decode cX4_goesScale 107 = .ok (.bipush 10, 2) := by decide +kernel
theorem dX4_goesScale_109 : decode cX4_goesScale 109 = .ok (.if_icmp .ne 37, 3) := by decide +kernel
theorem dX4_goesScale_112 : decode cX4_goesScale 112 = .ok (.aload_n 0, 1) := by decide +kernel
theorem dX4_goesScale_113 : decode cX4_goesScale 113 = .ok (.getfield 35, 3) := by decide +kernel
theorem dX4_goesScale_116 : decode cX4_goesScale 116 = .ok (.iload_n 1, 1) := by decide +kernel
theorem dX4_goesScale_117 : decode cX4_goesScale 117 = .ok (.dup2, 1) := by decide +kernel
theorem dX4_goesScale_118 : decode cX4_goesScale 118 = .ok (.iaload, 1) := by decide +kernel
theorem dX4_goesScale_119 : decode cX4_goesScale 119 = .ok (.iconst 1, 1) := by decide +kernel
theorem dX4_goesScale_120 : decode cX4_goesScale 120 = .ok (.iadd, 1) := by decide +kernel
theorem dX4_goesScale_121 : decode cX4_goesScale 121 = .ok (.iastore, 1) := by decide +kernel
theorem dX4_goesScale_122 : decode cX4_goesScale 122 = .ok (.aload_n 0, 1) := by decide +kernel
theorem dX4_goesScale_123 : decode cX4_goesScale 123 = .ok (.aload_n 0, 1) := by decide +kernel
theorem dX4_goesScale_124 : decode cX4_goesScale 124 = .ok (.getfield 35, 3) := by decide +kernel
theorem dX4_goesScale_127 : decode cX4_goesScale 127 = .ok (.iload_n 1, 1) := by decide +kernel
theorem dX4_goesScale_128 : decode cX4_goesScale 128 = .ok (.iaload, 1) := by decide +kernel
theorem dX4_goesScale_129 : decode cX4_goesScale 129 = .ok (.i2l, 1) := by decide +kernel
theorem dX4_goesScale_130 : decode cX4_goesScale 130 = .ok (.lconst 1, 1) := by decide +kernel
theorem dX4_goesScale_131 : decode cX4_goesScale 131 = .ok (.lsub, 1) := by decide +kernel
theorem dX4_goesScale_132 : decode cX4_goesScale 132 = .ok (.iload 7, 2) := by decide +kernel
theorem dX4_goesScale_134 : decode cX4_goesScale 134 = .ok (.i2l, 1) := by decide +kernel
theorem dX4_goesScale_135 : decode cX4_goesScale 135 = .ok (.lmul, 1) := by decide +kernel
theorem dX4_goesScale_136 : decode cX4_goesScale 136 = .ok (.iload 8, 2) := by decide +kernel
theorem dX4_goesScale_138 : decode cX4_goesScale 138 = .ok (.i2l, 1) := by decide +kernel
theorem dX4_goesScale_139 : decode cX4_goesScale 139 = .ok (.ladd, 1) := by decide +kernel
theorem dX4_goesScale_140 : decode cX4_goesScale 140 = .ok (.invokevirtual 111, 3) := by decide +kernel
theorem dX4_goesScale_143 : decode cX4_goesScale 143 = .ok (.goto 147, 3) := by decide +kernel
theorem dX4_goesScale_146 : decode cX4_goesScale 146 = .ok (.iload_n 3, 1) := by decide +kernel
theorem dX4_goesScale_147 : decode cX4_goesScale 147 = .ok (.ifCond .ne 26, 3) := by decide +kernel
theorem dX4_goesScale_150 : decode cX4_goesScale 150 = .ok (.aload_n 0, 1) := by decide +kernel
theorem dX4_goesScale_151 : decode cX4_goesScale 151 = .ok (.iload 6, 2) := by decide +kernel
theorem dX4_goesScale_153 : decode cX4_goesScale 153 = .ok (.bipush 6, 2) := by decide +kernel
theorem dX4_goesScale_155 : decode cX4_goesScale 155 = .ok (.if_icmp .ne 7, 3) := by decide +kernel
theorem dX4_goesScale_158 : decode cX4_goesScale 158 = .ok (.iconst 1, 1) := by decide +kernel
theorem dX4_goesScale_159 : decode cX4_goesScale 159 = .ok (.goto 4, 3) := by decide +kernel
theorem dX4_goesScale_162 : decode cX4_goesScale 162 = .ok (.iconst 0, 1) := by decide +kernel
theorem dX4_goesScale_163 : decode cX4_goesScale 163 = .ok (.iload 7, 2) := by decide +kernel
theorem dX4_goesScale_165 : decode cX4_goesScale 165 = .ok (.iload_n 2, 1) := by decide +kernel
theorem dX4_goesScale_166 : decode cX4_goesScale 166 = .ok (.iload_n 2, 1) := by decide +kernel
theorem dX4_goesScale_167 : decode cX4_goesScale 167 = .ok (.invokevirtual 115, 3) := by decide +kernel
theorem dX4_goesScale_170 : decode cX4_goesScale 170 = .ok (.goto 120, 3) := by decide +kernel
theorem dX4_goesScale_173 : decode cX4_goesScale 173 = .ok (.iload 6, 2) := by decide +kernel
theorem dX4_goesScale_175 : decode cX4_goesScale 175 = .ok (.bipush 7, 2) := by decide +kernel
theorem dX4_goesScale_177 : decode cX4_goesScale 177 = .ok (.if_icmp .ne 42, 3) := by decide +kernel
theorem dX4_goesScale_180 : decode cX4_goesScale 180 = .ok (.lload 4, 2) := by decide +kernel
theorem dX4_goesScale_182 : decode cX4_goesScale 182 = .ok (.lconst 0, 1) := by decide +kernel
theorem dX4_goesScale_183 : decode cX4_goesScale 183 = .ok (.lcmp, 1) := by decide +kernel
theorem dX4_goesScale_184 : decode cX4_goesScale 184 = .ok (.ifCond .lt 12, 3) := by decide +kernel
theorem dX4_goesScale_187 : decode cX4_goesScale 187 = .ok (.lload 4, 2) := by decide +kernel
theorem dX4_goesScale_189 : decode cX4_goesScale 189 = .ok (.ldc2_w 119, 3) := by decide +kernel
theorem dX4_goesScale_192 : decode cX4_goesScale 192 = .ok (.lcmp, 1) := by decide +kernel
theorem dX4_goesScale_193 : decode cX4_goesScale 193 = .ok (.ifCond .le 11, 3) := by decide +kernel
theorem dX4_goesScale_196 : decode cX4_goesScale 196 = .ok (.aload_n 0, 1) := by decide +kernel
theorem dX4_goesScale_197 : decode cX4_goesScale 197 = .ok (.iconst 2, 1) := by decide +kernel
theorem dX4_goesScale_198 : decode cX4_goesScale 198 = .ok (.putfield 98, 3) := by decide +kernel
theorem dX4_goesScale_201 : decode cX4_goesScale 201 = .ok (.goto 89, 3) := by decide +kernel
theorem dX4_goesScale_204 : decode cX4_goesScale 204 = .ok (.aload_n 0, 1) := by decide +kernel
theorem dX4_goesScale_205 : decode cX4_goesScale 205 = .ok (.aload_n 0, 1) := by decide +kernel
theorem dX4_goesScale_206 : decode cX4_goesScale 206 = .ok (.getfield 13, 3) := by decide +kernel
theorem dX4_goesScale_209 : decode cX4_goesScale 209 = .ok (.lload 4, 2) := by decide +kernel
theorem dX4_goesScale_211 : decode cX4_goesScale 211 = .ok (.l2i, 1) := by decide +kernel
theorem dX4_goesScale_212 : decode cX4_goesScale 212 = .ok (.laload, 1) := by decide +kernel
theorem dX4_goesScale_213 : decode cX4_goesScale 213 = .ok (.invokevirtual 111, 3) := by decide +kernel
theorem dX4_goesScale_216 : decode cX4_goesScale 216 = .ok (.goto 74, 3) := by decide +kernel
theorem dX4_goesScale_219 : decode cX4_goesScale 219 = .ok (.iload_n 3, 1) := by decide +kernel
theorem dX4_goesScale_220 : decode cX4_goesScale 220 = .ok (.iconst 1, 1) := by decide +kernel
theorem dX4_goesScale_221 : decode cX4_goesScale 221 = .ok (.if_icmp .ne 50, 3) := by decide +kernel
theorem dX4_goesScale_224 : decode cX4_goesScale 224 = .ok (.iload 6, 2) := by decide +kernel
theorem dX4_goesScale_226 : decode cX4_goesScale 226 = .ok (.bipush 6, 2) := by decide +kernel
theorem dX4_goesScale_228 : decode cX4_goesScale 228 = .ok (.if_icmp .ne 18, 3) := by decide +kernel
theorem dX4_goesScale_231 : decode cX4_goesScale 231 = .ok (.lload 4, 2) := by decide +kernel
theorem dX4_goesScale_233 : decode cX4_goesScale 233 = .ok (.lconst 0, 1) := by decide +kernel
theorem dX4_goesScale_234 : decode cX4_goesScale 234 = .ok (.lcmp, 1) := by decide +kernel
theorem dX4_goesScale_235 : decode cX4_goesScale 235 = .ok (.ifCond .ne 11, 3) := by decide +kernel
theorem dX4_goesScale_238 : decode cX4_goesScale 238 = .ok (.aload_n 0, 1) := by decide +kernel
theorem dX4_goesScale_239 : decode cX4_goesScale 239 = .ok (.lconst 0, 1) := by decide +kernel
theorem dX4_goesScale_240 : decode cX4_goesScale 240 = .ok (.invokevirtual 111, 3) := by decide +kernel
theorem dX4_goesScale_243 : decode cX4_goesScale 243 = .ok (.goto 47, 3) := by decide +kernel
theorem dX4_goesScale_246 : decode cX4_goesScale 246 = .ok (.aload_n 0, 1) := by decide +kernel
theorem dX4_goesScale_247 : decode cX4_goesScale 247 = .ok (.getfield 50, 3) := by decide +kernel
theorem dX4_goesScale_250 : decode cX4_goesScale 250 = .ok (.aload_n 0, 1) := by decide +kernel
theorem dX4_goesScale_251 : decode cX4_goesScale 251 = .ok (.getfield 104, 3) := by decide +kernel
theorem dX4_goesScale_254 : decode cX4_goesScale 254 = .ok (.iconst 1, 1) := by decide +kernel
theorem dX4_goesScale_255 : decode cX4_goesScale 255 = .ok (.isub, 1) := by decide +kernel
theorem dX4_goesScale_256 : decode cX4_goesScale 256 = .ok (.lload 4, 2) := by decide +kernel
theorem dX4_goesScale_258 : decode cX4_goesScale 258 = .ok (.lastore, 1) := by decide +kernel
theorem dX4_goesScale_259 : decode cX4_goesScale 259 = .ok (.aload_n 0, 1) := by decide +kernel
theorem dX4_goesScale_260 : decode cX4_goesScale 260 = .ok (.iconst 0, 1) := by decide +kernel
theorem dX4_goesScale_261 : decode cX4_goesScale 261 = .ok (.iload 8, 2) := by decide +kernel
theorem dX4_goesScale_263 : decode cX4_goesScale 263 = .ok (.iload_n 2, 1) := by decide +kernel
theorem dX4_goesScale_264 : decode cX4_goesScale 264 = .ok (.iload_n 2, 1) := by decide +kernel
theorem dX4_goesScale_265 : decode cX4_goesScale 265 = .ok (.invokevirtual 115, 3) := by decide +kernel
theorem dX4_goesScale_268 : decode cX4_goesScale 268 = .ok (.goto 22, 3) := by decide +kernel
theorem dX4_goesScale_271 : decode cX4_goesScale 271 = .ok (.aload_n 0, 1) := by decide +kernel
theorem dX4_goesScale_272 : decode cX4_goesScale 272 = .ok (.iload 6, 2) := by decide +kernel
theorem dX4_goesScale_274 : decode cX4_goesScale 274 = .ok (.aload_n 0, 1) := by decide +kernel
theorem dX4_goesScale_275 : decode cX4_goesScale 275 = .ok (.getfield 50, 3) := by decide +kernel
theorem dX4_goesScale_278 : decode cX4_goesScale 278 = .ok (.aload_n 0, 1) := by decide +kernel
theorem dX4_goesScale_279 : decode cX4_goesScale 279 = .ok (.getfield 104, 3) := by decide +kernel
theorem dX4_goesScale_282 : decode cX4_goesScale 282 = .ok (.iconst 1, 1) := by decide +kernel
theorem dX4_goesScale_283 : decode cX4_goesScale 283 = .ok (.isub, 1) := by decide +kernel
theorem dX4_goesScale_284 : decode cX4_goesScale 284 = .ok (.laload, 1) := by decide +kernel
theorem dX4_goesScale_285 : decode cX4_goesScale 285 = .ok (.lload 4, 2) := by decide +kernel
theorem dX4_goesScale_287 : decode cX4_goesScale 287 = .ok (.invokevirtual 121, 3) := by decide +kernel
theorem dX4_goesScale_290 : decode cX4_goesScale 290 = .ok (.return_, 1) := by decide +kernel
theorem dX4_both_0 : decode cX4_both 0 = .ok (.iload_n 1, 1) := by decide +kernel
theorem dX4_both_1 : decode cX4_both 1 = .ok (.iconst 4, 1) := by decide +kernel
theorem dX4_both_2 : decode cX4_both 2 = .ok (.if_icmp .ne 16, 3) := by decide +kernel
theorem dX4_both_5 : decode cX4_both 5 = .ok (.lload 4, 2) := by decide +kernel
theorem dX4_both_7 : decode cX4_both 7 = .ok (.lconst 0, 1) := by decide +kernel
theorem dX4_both_8 : decode cX4_both 8 = .ok (.lcmp, 1) := by decide +kernel
theorem dX4_both_9 : decode cX4_both 9 = .ok (.ifCond .ne 9, 3) := by decide +kernel
theorem dX4_both_12 : decode cX4_both 12 = .ok (.aload_n 0, 1) := by decide +kernel
theorem dX4_both_13 : decode cX4_both 13 = .ok (.iconst 1, 1) := by decide +kernel
theorem dX4_both_14 : decode cX4_both 14 = .ok (.putfield 98, 3) := by decide +kernel
theorem dX4_both_17 : decode cX4_both 17 = .ok (.return_, 1) := by decide +kernel
theorem dX4_both_18 : decode cX4_both 18 = .ok (.aload_n 0, 1) := by decide +kernel
theorem dX4_both_19 : decode cX4_both 19 = .ok (.iload_n 1, 1) := by decide +kernel
theorem dX4_both_20 : decode cX4_both 20 = .ok (.iconst 2, 1) := by decide +kernel
theorem dX4_both_21 : decode cX4_both 21 = .ok (.if_icmp .ne 10, 3) := by decide +kernel
theorem dX4_both_24 : decode cX4_both 24 = .ok (.lload_n 2, 1) := by decide +kernel
theorem dX4_both_25 : decode cX4_both 25 = .ok (.lload 4, 2) := by decide +kernel
theorem dX4_both_27 : decode cX4_both 27 = .ok (.ladd, 1) := by decide +kernel
theorem dX4_both_28 : decode cX4_both 28 = .ok (.goto 50, 3) := by decide +kernel
theorem dX4_both_31 : decode cX4_both 31 = .ok (.iload_n 1, 1) := by decide +kernel
theorem dX4_both_32 : decode cX4_both 32 = .ok (.iconst 3, 1) := by decide +kernel
theorem dX4_both_33 : decode cX4_both 33 = .ok (.if_icmp .ne 10, 3) := by decide +kernel
theorem dX4_both_36 : decode cX4_both 36 = .ok (.lload_n 2, 1) := by decide +kernel
theorem dX4_both_37 : decode cX4_both 37 = .ok (.lload 4, 2) := by decide +kernel
theorem dX4_both_39 : decode cX4_both 39 = .ok (.lmul, 1) := by decide +kernel
theorem dX4_both_40 : decode cX4_both 40 = .ok (.goto 38, 3) := by decide +kernel
theorem dX4_both_43 : decode cX4_both 43 = .ok (.iload_n 1, 1) := by decide +kernel
theorem dX4_both_44 : decode cX4_both 44 = .ok (.iconst 4, 1) := by decide +kernel
theorem dX4_both_45 : decode cX4_both 45 = .ok (.if_icmp .ne 10, 3) := by decide +kernel
theorem dX4_both_48 : decode cX4_both 48 = .ok (.lload_n 2, 1) := by decide +kernel
theorem dX4_both_49 : decode cX4_both 49 = .ok (.lload 4, 2) := by decide +kernel
theorem dX4_both_51 : decode cX4_both 51 = .ok (.ldiv, 1) := by decide +kernel
theorem dX4_both_52 : decode cX4_both 52 = .ok (.goto 26, 3) := by decide +kernel
theorem dX4_both_55 : decode cX4_both 55 = .ok (.iload_n 1, 1) := by decide +kernel
theorem dX4_both_56 : decode cX4_both 56 = .ok (.iconst 5, 1) := by decide +kernel
theorem dX4_both_57 : decode cX4_both 57 = .ok (.if_icmp .ne 19, 3) := by decide +kernel
theorem dX4_both_60 : decode cX4_both 60 = .ok (.lload_n 2, 1) := by decide +kernel
theorem dX4_both_61 : decode cX4_both 61 = .ok (.lload 4, 2) := by decide +kernel
theorem dX4_both_63 : decode cX4_both 63 = .ok (.lcmp, 1) := by decide +kernel
theorem dX4_both_64 : decode cX4_both 64 = .ok (.ifCond .ge 7, 3) := by decide +kernel
theorem dX4_both_67 : decode cX4_both 67 = .ok (.lload_n 2, 1) := by decide +kernel
theorem dX4_both_68 : decode cX4_both 68 = .ok (.goto 10, 3) := by decide +kernel
theorem dX4_both_71 : decode cX4_both 71 = .ok (.lload 4, 2) := by decide +kernel
theorem dX4_both_73 : decode cX4_both 73 = .ok (.goto 5, 3) := by decide +kernel
theorem dX4_both_76 : decode cX4_both 76 = .ok (.lload 4, 2) := by decide +kernel
theorem dX4_both_78 : decode cX4_both 78 = .ok (.invokevirtual 111, 3) := by decide +kernel
theorem dX4_both_81 : decode cX4_both 81 = .ok (.return_, 1) := by decide +kernel
theorem dX4_goesSieve_0 : decode cX4_goesSieve 0 = .ok (.aload_n 0, 1) := by decide +kernel
theorem dX4_goesSieve_1 : decode cX4_goesSieve 1 = .ok (.getfield 23, 3) := by decide +kernel
theorem dX4_goesSieve_4 : decode cX4_goesSieve 4 = .ok (.iload_n 1, 1) := by decide +kernel
theorem dX4_goesSieve_5 : decode cX4_goesSieve 5 = .ok (.iaload, 1) := by decide +kernel
theorem dX4_goesSieve_6 : decode cX4_goesSieve 6 = .ok (.istore 6, 2) := by decide +kernel
theorem dX4_goesSieve_8 : decode cX4_goesSieve 8 = .ok (.aload_n 0, 1) := by decide +kernel
theorem dX4_goesSieve_9 : decode cX4_goesSieve 9 = .ok (.getfield 26, 3) := by decide +kernel
theorem dX4_goesSieve_12 : decode cX4_goesSieve 12 = .ok (.iload_n 1, 1) := by decide +kernel
theorem dX4_goesSieve_13 : decode cX4_goesSieve 13 = .ok (.iaload, 1) := by decide +kernel
theorem dX4_goesSieve_14 : decode cX4_goesSieve 14 = .ok (.istore 7, 2) := by decide +kernel
theorem dX4_goesSieve_16 : decode cX4_goesSieve 16 = .ok (.iload 6, 2) := by decide +kernel
theorem dX4_goesSieve_18 : decode cX4_goesSieve 18 = .ok (.bipush 9, 2) := by decide +kernel
theorem dX4_goesSieve_20 : decode cX4_goesSieve 20 = .ok (.if_icmp .ne 11, 3) := by decide +kernel
theorem dX4_goesSieve_23 : decode cX4_goesSieve 23 = .ok (.aload_n 0, 1) := by decide +kernel
theorem dX4_goesSieve_24 : decode cX4_goesSieve 24 = .ok (.iconst 3, 1) := by decide +kernel
theorem dX4_goesSieve_25 : decode cX4_goesSieve 25 = .ok (.putfield 98, 3) := by decide +kernel
theorem dX4_goesSieve_28 : decode cX4_goesSieve 28 = .ok (.goto 329, 3) := by decide +kernel
theorem dX4_goesSieve_31 : decode cX4_goesSieve 31 = .ok (.iload 6, 2) := by decide +kernel
theorem dX4_goesSieve_33 : decode cX4_goesSieve 33 = .ok (.ifCond .ne 11, 3) := by decide +kernel
theorem dX4_goesSieve_36 : decode cX4_goesSieve 36 = .ok (.aload_n 0, 1) := by decide +kernel
theorem dX4_goesSieve_37 : decode cX4_goesSieve 37 = .ok (.lconst 1, 1) := by decide +kernel
theorem dX4_goesSieve_38 : decode cX4_goesSieve 38 = .ok (.invokevirtual 111, 3) := by decide +kernel
theorem dX4_goesSieve_41 : decode cX4_goesSieve 41 = .ok (.goto 316, 3) := by decide +kernel
theorem dX4_goesSieve_44 : decode cX4_goesSieve 44 = .ok (.iload 6, 2) := by decide +kernel
theorem dX4_goesSieve_46 : decode cX4_goesSieve 46 = .ok (.bipush 6, 2) := by decide +kernel
theorem dX4_goesSieve_48 : decode cX4_goesSieve 48 = .ok (.if_icmp .ne 83, 3) := by decide +kernel
theorem dX4_goesSieve_51 : decode cX4_goesSieve 51 = .ok (.iload 7, 2) := by decide +kernel
theorem dX4_goesSieve_53 : decode cX4_goesSieve 53 = .ok (.iconst 1, 1) := by decide +kernel
theorem dX4_goesSieve_54 : decode cX4_goesSieve 54 = .ok (.if_icmp .ge 7, 3) := by decide +kernel
theorem dX4_goesSieve_57 : decode cX4_goesSieve 57 = .ok (.iconst 1, 1) := by decide +kernel
theorem dX4_goesSieve_58 : decode cX4_goesSieve 58 = .ok (.goto 5, 3) := by decide +kernel
theorem dX4_goesSieve_61 : decode cX4_goesSieve 61 = .ok (.iload 7, 2) := by decide +kernel
theorem dX4_goesSieve_63 : decode cX4_goesSieve 63 = .ok (.istore 8, 2) := by decide +kernel
theorem dX4_goesSieve_65 : decode cX4_goesSieve 65 = .ok (.aload_n 0, 1) := by decide +kernel
theorem dX4_goesSieve_66 : decode cX4_goesSieve 66 = .ok (.getfield 35, 3) := by decide +kernel
theorem dX4_goesSieve_69 : decode cX4_goesSieve 69 = .ok (.iload_n 1, 1) := by decide +kernel
theorem dX4_goesSieve_70 : decode cX4_goesSieve 70 = .ok (.dup2, 1) := by decide +kernel
theorem dX4_goesSieve_71 : decode cX4_goesSieve 71 = .ok (.iaload, 1) := by decide +kernel
theorem dX4_goesSieve_72 : decode cX4_goesSieve 72 = .ok (.iconst 1, 1) := by decide +kernel
theorem dX4_goesSieve_73 : decode cX4_goesSieve 73 = .ok (.iadd, 1) := by decide +kernel
theorem dX4_goesSieve_74 : decode cX4_goesSieve 74 = .ok (.iastore, 1) := by decide +kernel
theorem dX4_goesSieve_75 : decode cX4_goesSieve 75 = .ok (.aload_n 0, 1) := by decide +kernel
theorem dX4_goesSieve_76 : decode cX4_goesSieve 76 = .ok (.getfield 35, 3) := by decide +kernel
theorem dX4_goesSieve_79 : decode cX4_goesSieve 79 = .ok (.iload_n 1, 1) := by decide +kernel
theorem dX4_goesSieve_80 : decode cX4_goesSieve 80 = .ok (.iaload, 1) := by decide +kernel
theorem dX4_goesSieve_81 : decode cX4_goesSieve 81 = .ok (.iload 8, 2) := by decide +kernel
theorem dX4_goesSieve_83 : decode cX4_goesSieve 83 = .ok (.if_icmp .ne 7, 3) := by decide +kernel
theorem dX4_goesSieve_86 : decode cX4_goesSieve 86 = .ok (.iconst 1, 1) := by decide +kernel
theorem dX4_goesSieve_87 : decode cX4_goesSieve 87 = .ok (.goto 4, 3) := by decide +kernel
theorem dX4_goesSieve_90 : decode cX4_goesSieve 90 = .ok (.iconst 0, 1) := by decide +kernel
theorem dX4_goesSieve_91 : decode cX4_goesSieve 91 = .ok (.istore 9, 2) := by decide +kernel
theorem dX4_goesSieve_93 : decode cX4_goesSieve 93 = .ok (.aload_n 0, 1) := by decide +kernel
theorem dX4_goesSieve_94 : decode cX4_goesSieve 94 = .ok (.getfield 35, 3) := by decide +kernel
theorem dX4_goesSieve_97 : decode cX4_goesSieve 97 = .ok (.iload_n 1, 1) := by decide +kernel
theorem dX4_goesSieve_98 : decode cX4_goesSieve 98 = .ok (.iload 9, 2) := by decide +kernel
theorem dX4_goesSieve_100 : decode cX4_goesSieve 100 = .ok (.ifCond .eq 7, 3) := by decide +kernel
theorem dX4_goesSieve_103 : decode cX4_goesSieve 103 = .ok (.iconst 0, 1) := by decide +kernel
theorem dX4_goesSieve_104 : decode cX4_goesSieve 104 = .ok (.goto 9, 3) := by decide +kernel
theorem dX4_goesSieve_107 : decode cX4_goesSieve 107 = .ok (.aload_n 0, 1) := by decide +kernel
theorem dX4_goesSieve_108 : decode cX4_goesSieve 108 = .ok (.getfield 35, 3) := by decide +kernel
theorem dX4_goesSieve_111 : decode cX4_goesSieve 111 = .ok (.iload_n 1, 1) := by decide +kernel
theorem dX4_goesSieve_112 : decode cX4_goesSieve 112 = .ok (.iaload, 1) := by decide +kernel
theorem dX4_goesSieve_113 : decode cX4_goesSieve 113 = .ok (.iastore, 1) := by decide +kernel
theorem dX4_goesSieve_114 : decode cX4_goesSieve 114 = .ok (.aload_n 0, 1) := by decide +kernel
theorem dX4_goesSieve_115 : decode cX4_goesSieve 115 = .ok (.iload 9, 2) := by decide +kernel
theorem dX4_goesSieve_117 : decode cX4_goesSieve 117 = .ok (.ifCond .eq 7, 3) := by decide +kernel
theorem dX4_goesSieve_120 : decode cX4_goesSieve 120 = .ok (.lconst 1, 1) := by decide +kernel
theorem dX4_goesSieve_121 : decode cX4_goesSieve 121 = .ok (.goto 4, 3) := by decide +kernel
theorem dX4_goesSieve_124 : decode cX4_goesSieve 124 = .ok (.lconst 0, 1) := by decide +kernel
theorem dX4_goesSieve_125 : decode cX4_goesSieve 125 = .ok (.invokevirtual 111, 3) := by decide +kernel
theorem dX4_goesSieve_128 : decode cX4_goesSieve 128 = .ok (.goto 229, 3) := by decide +kernel
theorem dX4_goesSieve_131 : decode cX4_goesSieve 131 = .ok (.iload 6, 2) := by decide +kernel
theorem dX4_goesSieve_133 : decode cX4_goesSieve 133 = .ok (.bipush 7, 2) := by decide +kernel
theorem dX4_goesSieve_135 : decode cX4_goesSieve 135 = .ok (.if_icmp .ne 21, 3) := by decide +kernel
theorem dX4_goesSieve_138 : decode cX4_goesSieve 138 = .ok (.aload_n 0, 1) := by decide +kernel
theorem dX4_goesSieve_139 : decode cX4_goesSieve 139 = .ok (.iload_n 2, 1) := by decide +kernel
theorem dX4_goesSieve_140 : decode cX4_goesSieve 140 = .ok (.iload 7, 2) := by decide +kernel
theorem dX4_goesSieve_142 : decode cX4_goesSieve 142 = .ok (.if_icmp .ge 7, 3) := by decide +kernel
theorem dX4_goesSieve_145 : decode cX4_goesSieve 145 = .ok (.lconst 1, 1) := by decide +kernel
theorem dX4_goesSieve_146 : decode cX4_goesSieve 146 = .ok (.goto 4, 3) := by decide +kernel
theorem dX4_goesSieve_149 : decode cX4_goesSieve 149 = .ok (.lconst 0, 1) := by decide +kernel
theorem dX4_goesSieve_150 : decode cX4_goesSieve 150 = .ok (.invokevirtual 111, 3) := by decide +kernel
theorem dX4_goesSieve_153 : decode cX4_goesSieve 153 = .ok (.goto 204, 3) := by decide +kernel
theorem dX4_goesSieve_156 : decode cX4_goesSieve 156 = .ok (.iload_n 3, 1) := by decide +kernel
theorem dX4_goesSieve_157 : decode cX4_goesSieve 157 = .ok (.ifCond .ne 25, 3) := by decide +kernel
theorem dX4_goesSieve_160 : decode cX4_goesSieve 160 = .ok (.aload_n 0, 1) := by decide +kernel
theorem dX4_goesSieve_161 : decode cX4_goesSieve 161 = .ok (.iload 6, 2) := by decide +kernel
theorem dX4_goesSieve_163 : decode cX4_goesSieve 163 = .ok (.iconst 3, 1) := by decide +kernel
theorem dX4_goesSieve_164 : decode cX4_goesSieve 164 = .ok (.if_icmp .ge 7, 3) := by decide +kernel
theorem dX4_goesSieve_167 : decode cX4_goesSieve 167 = .ok (.iconst 0, 1) := by decide +kernel
theorem dX4_goesSieve_168 : decode cX4_goesSieve 168 = .ok (.goto 4, 3) := by decide +kernel
theorem dX4_goesSieve_171 : decode cX4_goesSieve 171 = .ok (.iconst 1, 1) := by decide +kernel
theorem dX4_goesSieve_172 : decode cX4_goesSieve 172 = .ok (.iload 7, 2) := by decide +kernel
theorem dX4_goesSieve_174 : decode cX4_goesSieve 174 = .ok (.iload_n 2, 1) := by decide +kernel
theorem dX4_goesSieve_175 : decode cX4_goesSieve 175 = .ok (.iload_n 2, 1) := by decide +kernel
theorem dX4_goesSieve_176 : decode cX4_goesSieve 176 = .ok (.invokevirtual 115, 3) := by decide +kernel
theorem dX4_goesSieve_179 : decode cX4_goesSieve 179 = .ok (.goto 178, 3) := by decide +kernel
theorem dX4_goesSieve_182 : decode cX4_goesSieve 182 = .ok (.iload 6, 2) := by decide +kernel
theorem dX4_goesSieve_184 : decode cX4_goesSieve 184 = .ok (.iconst 3, 1) := by decide +kernel
theorem dX4_goesSieve_185 : decode cX4_goesSieve 185 = .ok (.if_icmp .ne 14, 3) := by decide +kernel
theorem dX4_goesSieve_188 : decode cX4_goesSieve 188 = .ok (.aload_n 0, 1) := by decide +kernel
theorem dX4_goesSieve_189 : decode cX4_goesSieve 189 = .ok (.lconst 1, 1) := by decide +kernel
theorem dX4_goesSieve_190 : decode cX4_goesSieve 190 = .ok (.lload 4, 2) := by decide +kernel
theorem dX4_goesSieve_192 : decode cX4_goesSieve 192 = .ok (.lsub, 1) := by decide +kernel
theorem dX4_goesSieve_193 : decode cX4_goesSieve 193 = .ok (.invokevirtual 111, 3) := by decide +kernel
theorem dX4_goesSieve_196 : decode cX4_goesSieve 196 = .ok (.goto 161, 3) := by decide +kernel
theorem dX4_goesSieve_199 : decode cX4_goesSieve 199 = .ok (.iload 6, 2) := by decide +kernel
theorem dX4_goesSieve_201 : decode cX4_goesSieve 201 = .ok (.bipush 8, 2) := by decide +kernel
theorem dX4_goesSieve_203 : decode cX4_goesSieve 203 = .ok (.if_icmp .ne 12, 3) := by decide +kernel
theorem dX4_goesSieve_206 : decode cX4_goesSieve 206 = .ok (.aload_n 0, 1) := by decide +kernel
theorem dX4_goesSieve_207 : decode cX4_goesSieve 207 = .ok (.lload 4, 2) := by decide +kernel
theorem dX4_goesSieve_209 : decode cX4_goesSieve 209 = .ok (.invokevirtual 111, 3) := by decide +kernel
theorem dX4_goesSieve_212 : decode cX4_goesSieve 212 = .ok (.goto 145, 3) := by decide +kernel
theorem dX4_goesSieve_215 : decode cX4_goesSieve 215 = .ok (.iload_n 3, 1) := by decide +kernel
theorem dX4_goesSieve_216 : decode cX4_goesSieve 216 = .ok (.iconst 1, 1) := by decide +kernel
theorem dX4_goesSieve_217 : decode cX4_goesSieve 217 = .ok (.if_icmp .ne 77, 3) := by decide +kernel
theorem dX4_goesSieve_220 : decode cX4_goesSieve 220 = .ok (.iload 6, 2) := by decide +kernel
theorem dX4_goesSieve_222 : decode cX4_goesSieve 222 = .ok (.iconst 4, 1) := by decide +kernel
theorem dX4_goesSieve_223 : decode cX4_goesSieve 223 = .ok (.if_icmp .ne 10, 3) := by decide +kernel
theorem dX4_goesSieve_226 : decode cX4_goesSieve 226 = .ok (.lload 4, 2) := by decide +kernel
theorem dX4_goesSieve_228 : decode cX4_goesSieve 228 = .ok (.lconst 0, 1) := by decide +kernel
theorem dX4_goesSieve_229 : decode cX4_goesSieve 229 = .ok (.lcmp, 1) := by decide +kernel
theorem dX4_goesSieve_230 : decode cX4_goesSieve 230 = .ok (.ifCond .eq 16, 3) := by decide +kernel
theorem dX4_goesSieve_233 : decode cX4_goesSieve 233 = .ok (.iload 6, 2) := by decide +kernel
theorem dX4_goesSieve_235 : decode cX4_goesSieve 235 = .ok (.iconst 5, 1) := by decide +kernel
theorem dX4_goesSieve_236 : decode cX4_goesSieve 236 = .ok (.if_icmp .ne 19, 3) := by decide +kernel
theorem dX4_goesSieve_239 : decode cX4_goesSieve 239 = .ok (.lload 4, 2) := by decide +kernel
theorem dX4_goesSieve_241 : decode cX4_goesSieve 241 = .ok (.lconst 1, 1) := by decide +kernel
theorem dX4_goesSieve_242 : decode cX4_goesSieve 242 = .ok (.lcmp, 1) := by decide +kernel
theorem dX4_goesSieve_243 : decode cX4_goesSieve 243 = .ok (.ifCond .ne 12, 3) := by decide +kernel
theorem dX4_goesSieve_246 : decode cX4_goesSieve 246 = .ok (.aload_n 0, 1) := by decide +kernel
theorem dX4_goesSieve_247 : decode cX4_goesSieve 247 = .ok (.lload 4, 2) := by decide +kernel
theorem dX4_goesSieve_249 : decode cX4_goesSieve 249 = .ok (.invokevirtual 111, 3) := by decide +kernel
theorem dX4_goesSieve_252 : decode cX4_goesSieve 252 = .ok (.goto 105, 3) := by decide +kernel
theorem dX4_goesSieve_255 : decode cX4_goesSieve 255 = .ok (.aload_n 0, 1) := by decide +kernel
theorem dX4_goesSieve_256 : decode cX4_goesSieve 256 = .ok (.getfield 50, 3) := by decide +kernel
theorem dX4_goesSieve_259 : decode cX4_goesSieve 259 = .ok (.aload_n 0, 1) := by decide +kernel
theorem dX4_goesSieve_260 : decode cX4_goesSieve 260 = .ok (.getfield 104, 3) := by decide +kernel
theorem dX4_goesSieve_263 : decode cX4_goesSieve 263 = .ok (.iconst 1, 1) := by decide +kernel
theorem dX4_goesSieve_264 : decode cX4_goesSieve 264 = .ok (.isub, 1) := by decide +kernel
theorem dX4_goesSieve_265 : decode cX4_goesSieve 265 = .ok (.lload 4, 2) := by decide +kernel
theorem dX4_goesSieve_267 : decode cX4_goesSieve 267 = .ok (.lastore, 1) := by decide +kernel
theorem dX4_goesSieve_268 : decode cX4_goesSieve 268 = .ok (.aload_n 0, 1) := by decide +kernel
theorem dX4_goesSieve_269 : decode cX4_goesSieve 269 = .ok (.iload 6, 2) := by decide +kernel
theorem dX4_goesSieve_271 : decode cX4_goesSieve 271 = .ok (.iconst 3, 1) := by decide +kernel
theorem dX4_goesSieve_272 : decode cX4_goesSieve 272 = .ok (.if_icmp .ge 7, 3) := by decide +kernel
theorem dX4_goesSieve_275 : decode cX4_goesSieve 275 = .ok (.iconst 0, 1) := by decide +kernel
theorem dX4_goesSieve_276 : decode cX4_goesSieve 276 = .ok (.goto 4, 3) := by decide +kernel
theorem dX4_goesSieve_279 : decode cX4_goesSieve 279 = .ok (.iconst 1, 1) := by decide +kernel
theorem dX4_goesSieve_280 : decode cX4_goesSieve 280 = .ok (.aload_n 0, 1) := by decide +kernel
theorem dX4_goesSieve_281 : decode cX4_goesSieve 281 = .ok (.getfield 29, 3) := by decide +kernel
theorem dX4_goesSieve_284 : decode cX4_goesSieve 284 = .ok (.iload_n 1, 1) := by decide +kernel
theorem dX4_goesSieve_285 : decode cX4_goesSieve 285 = .ok (.iaload, 1) := by decide +kernel
theorem dX4_goesSieve_286 : decode cX4_goesSieve 286 = .ok (.iload_n 2, 1) := by decide +kernel
theorem dX4_goesSieve_287 : decode cX4_goesSieve 287 = .ok (.iload_n 2, 1) := by decide +kernel
theorem dX4_goesSieve_288 : decode cX4_goesSieve 288 = .ok (.invokevirtual 115, 3) := by decide +kernel
theorem dX4_goesSieve_291 : decode cX4_goesSieve 291 = .ok (.goto 66, 3) := by decide +kernel
theorem dX4_goesSieve_294 : decode cX4_goesSieve 294 = .ok (.aload_n 0, 1) := by decide +kernel
theorem dX4_goesSieve_295 : decode cX4_goesSieve 295 = .ok (.getfield 50, 3) := by decide +kernel
theorem dX4_goesSieve_298 : decode cX4_goesSieve 298 = .ok (.aload_n 0, 1) := by decide +kernel
theorem dX4_goesSieve_299 : decode cX4_goesSieve 299 = .ok (.getfield 104, 3) := by decide +kernel
theorem dX4_goesSieve_302 : decode cX4_goesSieve 302 = .ok (.iconst 1, 1) := by decide +kernel
theorem dX4_goesSieve_303 : decode cX4_goesSieve 303 = .ok (.isub, 1) := by decide +kernel
theorem dX4_goesSieve_304 : decode cX4_goesSieve 304 = .ok (.laload, 1) := by decide +kernel
theorem dX4_goesSieve_305 : decode cX4_goesSieve 305 = .ok (.lstore 8, 2) := by decide +kernel
theorem dX4_goesSieve_307 : decode cX4_goesSieve 307 = .ok (.aload_n 0, 1) := by decide +kernel
theorem dX4_goesSieve_308 : decode cX4_goesSieve 308 = .ok (.iload 6, 2) := by decide +kernel
theorem dX4_goesSieve_310 : decode cX4_goesSieve 310 = .ok (.iconst 1, 1) := by decide +kernel
theorem dX4_goesSieve_311 : decode cX4_goesSieve 311 = .ok (.if_icmp .ne 19, 3) := by decide +kernel
theorem dX4_goesSieve_314 : decode cX4_goesSieve 314 = .ok (.lload 8, 2) := by decide +kernel
theorem dX4_goesSieve_316 : decode cX4_goesSieve 316 = .ok (.lload 4, 2) := by decide +kernel
theorem dX4_goesSieve_318 : decode cX4_goesSieve 318 = .ok (.lcmp, 1) := by decide +kernel
theorem dX4_goesSieve_319 : decode cX4_goesSieve 319 = .ok (.ifCond .le 7, 3) := by decide +kernel
theorem dX4_goesSieve_322 : decode cX4_goesSieve 322 = .ok (.lconst 1, 1) := by decide +kernel
theorem dX4_goesSieve_323 : decode cX4_goesSieve 323 = .ok (.goto 31, 3) := by decide +kernel
theorem dX4_goesSieve_326 : decode cX4_goesSieve 326 = .ok (.lconst 0, 1) := by decide +kernel
theorem dX4_goesSieve_327 : decode cX4_goesSieve 327 = .ok (.goto 27, 3) := by decide +kernel
theorem dX4_goesSieve_330 : decode cX4_goesSieve 330 = .ok (.iload 6, 2) := by decide +kernel
theorem dX4_goesSieve_332 : decode cX4_goesSieve 332 = .ok (.iconst 2, 1) := by decide +kernel
theorem dX4_goesSieve_333 : decode cX4_goesSieve 333 = .ok (.if_icmp .ne 19, 3) := by decide +kernel
theorem dX4_goesSieve_336 : decode cX4_goesSieve 336 = .ok (.lload 8, 2) := by decide +kernel
theorem dX4_goesSieve_338 : decode cX4_goesSieve 338 = .ok (.lload 4, 2) := by decide +kernel
theorem dX4_goesSieve_340 : decode cX4_goesSieve 340 = .ok (.lcmp, 1) := by decide +kernel
theorem dX4_goesSieve_341 : decode cX4_goesSieve 341 = .ok (.ifCond .ne 7, 3) := by decide +kernel
theorem dX4_goesSieve_344 : decode cX4_goesSieve 344 = .ok (.lconst 1, 1) := by decide +kernel
theorem dX4_goesSieve_345 : decode cX4_goesSieve 345 = .ok (.goto 9, 3) := by decide +kernel
theorem dX4_goesSieve_348 : decode cX4_goesSieve 348 = .ok (.lconst 0, 1) := by decide +kernel
theorem dX4_goesSieve_349 : decode cX4_goesSieve 349 = .ok (.goto 5, 3) := by decide +kernel
theorem dX4_goesSieve_352 : decode cX4_goesSieve 352 = .ok (.lload 4, 2) := by decide +kernel
theorem dX4_goesSieve_354 : decode cX4_goesSieve 354 = .ok (.invokevirtual 111, 3) := by decide +kernel
theorem dX4_goesSieve_357 : decode cX4_goesSieve 357 = .ok (.return_, 1) := by decide +kernel
theorem dX4_goesOrder_0 : decode cX4_goesOrder 0 = .ok (.aload_n 0, 1) := by decide +kernel
theorem dX4_goesOrder_1 : decode cX4_goesOrder 1 = .ok (.getfield 23, 3) := by decide +kernel
theorem dX4_goesOrder_4 : decode cX4_goesOrder 4 = .ok (.iload_n 1, 1) := by decide +kernel
theorem dX4_goesOrder_5 : decode cX4_goesOrder 5 = .ok (.iaload, 1) := by decide +kernel
theorem dX4_goesOrder_6 : decode cX4_goesOrder 6 = .ok (.istore 5, 2) := by decide +kernel
theorem dX4_goesOrder_8 : decode cX4_goesOrder 8 = .ok (.aload_n 0, 1) := by decide +kernel
theorem dX4_goesOrder_9 : decode cX4_goesOrder 9 = .ok (.getfield 41, 3) := by decide +kernel
theorem dX4_goesOrder_12 : decode cX4_goesOrder 12 = .ok (.aload_n 0, 1) := by decide +kernel
theorem dX4_goesOrder_13 : decode cX4_goesOrder 13 = .ok (.getfield 104, 3) := by decide +kernel
theorem dX4_goesOrder_16 : decode cX4_goesOrder 16 = .ok (.iconst 1, 1) := by decide +kernel
theorem dX4_goesOrder_17 : decode cX4_goesOrder 17 = .ok (.isub, 1) := by decide +kernel
theorem dX4_goesOrder_18 : decode cX4_goesOrder 18 = .ok (.iaload, 1) := by decide +kernel
theorem dX4_goesOrder_19 : decode cX4_goesOrder 19 = .ok (.istore 6, 2) := by decide +kernel
theorem dX4_goesOrder_21 : decode cX4_goesOrder 21 = .ok (.aload_n 0, 1) := by decide +kernel
theorem dX4_goesOrder_22 : decode cX4_goesOrder 22 = .ok (.getfield 44, 3) := by decide +kernel
theorem dX4_goesOrder_25 : decode cX4_goesOrder 25 = .ok (.aload_n 0, 1) := by decide +kernel
theorem dX4_goesOrder_26 : decode cX4_goesOrder 26 = .ok (.getfield 104, 3) := by decide +kernel
theorem dX4_goesOrder_29 : decode cX4_goesOrder 29 = .ok (.iconst 1, 1) := by decide +kernel
theorem dX4_goesOrder_30 : decode cX4_goesOrder 30 = .ok (.isub, 1) := by decide +kernel
theorem dX4_goesOrder_31 : decode cX4_goesOrder 31 = .ok (.iaload, 1) := by decide +kernel
theorem dX4_goesOrder_32 : decode cX4_goesOrder 32 = .ok (.istore 7, 2) := by decide +kernel
theorem dX4_goesOrder_34 : decode cX4_goesOrder 34 = .ok (.iload 5, 2) := by decide +kernel
theorem dX4_goesOrder_36 : decode cX4_goesOrder 36 = .ok (.iconst 5, 1) := by decide +kernel
theorem dX4_goesOrder_37 : decode cX4_goesOrder 37 = .ok (.if_icmp .ne 11, 3) := by decide +kernel
theorem dX4_goesOrder_40 : decode cX4_goesOrder 40 = .ok (.aload_n 0, 1) := by decide +kernel
theorem dX4_goesOrder_41 : decode cX4_goesOrder 41 = .ok (.iconst 3, 1) := by decide +kernel
theorem dX4_goesOrder_42 : decode cX4_goesOrder 42 = .ok (.putfield 98, 3) := by decide +kernel
theorem dX4_goesOrder_45 : decode cX4_goesOrder 45 = .ok (.goto 257, 3) := by decide +kernel
theorem dX4_goesOrder_48 : decode cX4_goesOrder 48 = .ok (.iload 5, 2) := by decide +kernel
theorem dX4_goesOrder_50 : decode cX4_goesOrder 50 = .ok (.iconst 4, 1) := by decide +kernel
theorem dX4_goesOrder_51 : decode cX4_goesOrder 51 = .ok (.if_icmp .ne 35, 3) := by decide +kernel
theorem dX4_goesOrder_54 : decode cX4_goesOrder 54 = .ok (.aload_n 0, 1) := by decide +kernel
theorem dX4_goesOrder_55 : decode cX4_goesOrder 55 = .ok (.iload 6, 2) := by decide +kernel
theorem dX4_goesOrder_57 : decode cX4_goesOrder 57 = .ok (.iload 7, 2) := by decide +kernel
theorem dX4_goesOrder_59 : decode cX4_goesOrder 59 = .ok (.if_icmp .ge 9, 3) := by decide +kernel
theorem dX4_goesOrder_62 : decode cX4_goesOrder 62 = .ok (.ldc2_w 125, 3) := by decide +kernel
theorem dX4_goesOrder_65 : decode cX4_goesOrder 65 = .ok (.goto 15, 3) := by decide +kernel
theorem dX4_goesOrder_68 : decode cX4_goesOrder 68 = .ok (.iload 6, 2) := by decide +kernel
theorem dX4_goesOrder_70 : decode cX4_goesOrder 70 = .ok (.iload 7, 2) := by decide +kernel
theorem dX4_goesOrder_72 : decode cX4_goesOrder 72 = .ok (.if_icmp .le 7, 3) := by decide +kernel
theorem dX4_goesOrder_75 : decode cX4_goesOrder 75 = .ok (.lconst 1, 1) := by decide +kernel
theorem dX4_goesOrder_76 : decode cX4_goesOrder 76 = .ok (.goto 4, 3) := by decide +kernel
theorem dX4_goesOrder_79 : decode cX4_goesOrder 79 = .ok (.lconst 0, 1) := by decide +kernel
theorem dX4_goesOrder_80 : decode cX4_goesOrder 80 = .ok (.invokevirtual 111, 3) := by decide +kernel
theorem dX4_goesOrder_83 : decode cX4_goesOrder 83 = .ok (.goto 219, 3) := by decide +kernel
theorem dX4_goesOrder_86 : decode cX4_goesOrder 86 = .ok (.iload_n 2, 1) := by decide +kernel
theorem dX4_goesOrder_87 : decode cX4_goesOrder 87 = .ok (.ifCond .ne 56, 3) := by decide +kernel
theorem dX4_goesOrder_90 : decode cX4_goesOrder 90 = .ok (.aload_n 0, 1) := by decide +kernel
theorem dX4_goesOrder_91 : decode cX4_goesOrder 91 = .ok (.iload 5, 2) := by decide +kernel
theorem dX4_goesOrder_93 : decode cX4_goesOrder 93 = .ok (.ifCond .ne 7, 3) := by decide +kernel
theorem dX4_goesOrder_96 : decode cX4_goesOrder 96 = .ok (.iconst 0, 1) := by decide +kernel
theorem dX4_goesOrder_97 : decode cX4_goesOrder 97 = .ok (.goto 14, 3) := by decide +kernel
theorem dX4_goesOrder_100 : decode cX4_goesOrder 100 = .ok (.iload 5, 2) := by decide +kernel
theorem dX4_goesOrder_102 : decode cX4_goesOrder 102 = .ok (.iconst 3, 1) := by decide +kernel
theorem dX4_goesOrder_103 : decode cX4_goesOrder 103 = .ok (.if_icmp .ne 7, 3) := by decide +kernel
theorem dX4_goesOrder_106 : decode cX4_goesOrder 106 = .ok (.iconst 1, 1) := by decide +kernel
theorem dX4_goesOrder_107 : decode cX4_goesOrder 107 = .ok (.goto 4, 3) := by decide +kernel
theorem dX4_goesOrder_110 : decode cX4_goesOrder 110 = .ok (.iconst 2, 1) := by decide +kernel
theorem dX4_goesOrder_111 : decode cX4_goesOrder 111 = .ok (.aload_n 0, 1) := by decide +kernel
theorem dX4_goesOrder_112 : decode cX4_goesOrder 112 = .ok (.getfield 26, 3) := by decide +kernel
theorem dX4_goesOrder_115 : decode cX4_goesOrder 115 = .ok (.iload_n 1, 1) := by decide +kernel
theorem dX4_goesOrder_116 : decode cX4_goesOrder 116 = .ok (.iaload, 1) := by decide +kernel
theorem dX4_goesOrder_117 : decode cX4_goesOrder 117 = .ok (.iload 6, 2) := by decide +kernel
theorem dX4_goesOrder_119 : decode cX4_goesOrder 119 = .ok (.iload 5, 2) := by decide +kernel
theorem dX4_goesOrder_121 : decode cX4_goesOrder 121 = .ok (.ifCond .eq 9, 3) := by decide +kernel
theorem dX4_goesOrder_124 : decode cX4_goesOrder 124 = .ok (.iload 5, 2) := by decide +kernel
theorem dX4_goesOrder_126 : decode cX4_goesOrder 126 = .ok (.iconst 3, 1) := by decide +kernel
theorem dX4_goesOrder_127 : decode cX4_goesOrder 127 = .ok (.if_icmp .ne 8, 3) := by decide +kernel
theorem dX4_goesOrder_130 : decode cX4_goesOrder 130 = .ok (.iload 6, 2) := by decide +kernel
theorem dX4_goesOrder_132 : decode cX4_goesOrder 132 = .ok (.goto 5, 3) := by decide +kernel
theorem dX4_goesOrder_135 : decode cX4_goesOrder 135 = .ok (.iload 7, 2) := by decide +kernel
theorem dX4_goesOrder_137 : decode cX4_goesOrder 137 = .ok (.invokevirtual 115, 3) := by decide +kernel
theorem dX4_goesOrder_140 : decode cX4_goesOrder 140 = .ok (.goto 162, 3) := by decide +kernel
theorem dX4_goesOrder_143 : decode cX4_goesOrder 143 = .ok (.iload 5, 2) := by decide +kernel
theorem dX4_goesOrder_145 : decode cX4_goesOrder 145 = .ok (.iconst 1, 1) := by decide +kernel
theorem dX4_goesOrder_146 : decode cX4_goesOrder 146 = .ok (.if_icmp .ne 12, 3) := by decide +kernel
theorem dX4_goesOrder_149 : decode cX4_goesOrder 149 = .ok (.aload_n 0, 1) := by decide +kernel
theorem dX4_goesOrder_150 : decode cX4_goesOrder 150 = .ok (.lload_n 3, 1) := by decide +kernel
theorem dX4_goesOrder_151 : decode cX4_goesOrder 151 = .ok (.lneg, 1) := by decide +kernel
theorem dX4_goesOrder_152 : decode cX4_goesOrder 152 = .ok (.invokevirtual 111, 3) := by decide +kernel
theorem dX4_goesOrder_155 : decode cX4_goesOrder 155 = .ok (.goto 147, 3) := by decide +kernel
theorem dX4_goesOrder_158 : decode cX4_goesOrder 158 = .ok (.iload 5, 2) := by decide +kernel
theorem dX4_goesOrder_160 : decode cX4_goesOrder 160 = .ok (.iconst 2, 1) := by decide +kernel
theorem dX4_goesOrder_161 : decode cX4_goesOrder 161 = .ok (.if_icmp .ne 40, 3) := by decide +kernel
theorem dX4_goesOrder_164 : decode cX4_goesOrder 164 = .ok (.iload_n 2, 1) := by decide +kernel
theorem dX4_goesOrder_165 : decode cX4_goesOrder 165 = .ok (.iconst 1, 1) := by decide +kernel
theorem dX4_goesOrder_166 : decode cX4_goesOrder 166 = .ok (.if_icmp .ne 27, 3) := by decide +kernel
theorem dX4_goesOrder_169 : decode cX4_goesOrder 169 = .ok (.lload_n 3, 1) := by decide +kernel
theorem dX4_goesOrder_170 : decode cX4_goesOrder 170 = .ok (.lconst 0, 1) := by decide +kernel
theorem dX4_goesOrder_171 : decode cX4_goesOrder 171 = .ok (.lcmp, 1) := by decide +kernel
theorem dX4_goesOrder_172 : decode cX4_goesOrder 172 = .ok (.ifCond .ne 21, 3) := by decide +kernel
theorem dX4_goesOrder_175 : decode cX4_goesOrder 175 = .ok (.aload_n 0, 1) := by decide +kernel
theorem dX4_goesOrder_176 : decode cX4_goesOrder 176 = .ok (.iconst 2, 1) := by decide +kernel
theorem dX4_goesOrder_177 : decode cX4_goesOrder 177 = .ok (.aload_n 0, 1) := by decide +kernel
theorem dX4_goesOrder_178 : decode cX4_goesOrder 178 = .ok (.getfield 29, 3) := by decide +kernel
theorem dX4_goesOrder_181 : decode cX4_goesOrder 181 = .ok (.iload_n 1, 1) := by decide +kernel
theorem dX4_goesOrder_182 : decode cX4_goesOrder 182 = .ok (.iaload, 1) := by decide +kernel
theorem dX4_goesOrder_183 : decode cX4_goesOrder 183 = .ok (.iload 6, 2) := by decide +kernel
theorem dX4_goesOrder_185 : decode cX4_goesOrder 185 = .ok (.iload 7, 2) := by decide +kernel
theorem dX4_goesOrder_187 : decode cX4_goesOrder 187 = .ok (.invokevirtual 115, 3) := by decide +kernel
theorem dX4_goesOrder_190 : decode cX4_goesOrder 190 = .ok (.goto 112, 3) := by decide +kernel
theorem dX4_goesOrder_193 : decode cX4_goesOrder 193 = .ok (.aload_n 0, 1) := by decide +kernel
theorem dX4_goesOrder_194 : decode cX4_goesOrder 194 = .ok (.lload_n 3, 1) := by decide +kernel
theorem dX4_goesOrder_195 : decode cX4_goesOrder 195 = .ok (.invokevirtual 111, 3) := by decide +kernel
theorem dX4_goesOrder_198 : decode cX4_goesOrder 198 = .ok (.goto 104, 3) := by decide +kernel
theorem dX4_goesOrder_201 : decode cX4_goesOrder 201 = .ok (.iload_n 2, 1) := by decide +kernel
theorem dX4_goesOrder_202 : decode cX4_goesOrder 202 = .ok (.iconst 1, 1) := by decide +kernel
theorem dX4_goesOrder_203 : decode cX4_goesOrder 203 = .ok (.if_icmp .ne 42, 3) := by decide +kernel
theorem dX4_goesOrder_206 : decode cX4_goesOrder 206 = .ok (.aload_n 0, 1) := by decide +kernel
theorem dX4_goesOrder_207 : decode cX4_goesOrder 207 = .ok (.getfield 50, 3) := by decide +kernel
theorem dX4_goesOrder_210 : decode cX4_goesOrder 210 = .ok (.aload_n 0, 1) := by decide +kernel
theorem dX4_goesOrder_211 : decode cX4_goesOrder 211 = .ok (.getfield 104, 3) := by decide +kernel
theorem dX4_goesOrder_214 : decode cX4_goesOrder 214 = .ok (.iconst 1, 1) := by decide +kernel
theorem dX4_goesOrder_215 : decode cX4_goesOrder 215 = .ok (.isub, 1) := by decide +kernel
theorem dX4_goesOrder_216 : decode cX4_goesOrder 216 = .ok (.lload_n 3, 1) := by decide +kernel
theorem dX4_goesOrder_217 : decode cX4_goesOrder 217 = .ok (.lastore, 1) := by decide +kernel
theorem dX4_goesOrder_218 : decode cX4_goesOrder 218 = .ok (.aload_n 0, 1) := by decide +kernel
theorem dX4_goesOrder_219 : decode cX4_goesOrder 219 = .ok (.iload 5, 2) := by decide +kernel
theorem dX4_goesOrder_221 : decode cX4_goesOrder 221 = .ok (.ifCond .ne 7, 3) := by decide +kernel
theorem dX4_goesOrder_224 : decode cX4_goesOrder 224 = .ok (.iconst 0, 1) := by decide +kernel
theorem dX4_goesOrder_225 : decode cX4_goesOrder 225 = .ok (.goto 4, 3) := by decide +kernel
theorem dX4_goesOrder_228 : decode cX4_goesOrder 228 = .ok (.iconst 1, 1) := by decide +kernel
theorem dX4_goesOrder_229 : decode cX4_goesOrder 229 = .ok (.aload_n 0, 1) := by decide +kernel
theorem dX4_goesOrder_230 : decode cX4_goesOrder 230 = .ok (.getfield 26, 3) := by decide +kernel
theorem dX4_goesOrder_233 : decode cX4_goesOrder 233 = .ok (.iload_n 1, 1) := by decide +kernel
theorem dX4_goesOrder_234 : decode cX4_goesOrder 234 = .ok (.iaload, 1) := by decide +kernel
theorem dX4_goesOrder_235 : decode cX4_goesOrder 235 = .ok (.iload 7, 2) := by decide +kernel
theorem dX4_goesOrder_237 : decode cX4_goesOrder 237 = .ok (.iload 7, 2) := by decide +kernel
theorem dX4_goesOrder_239 : decode cX4_goesOrder 239 = .ok (.invokevirtual 115, 3) := by decide +kernel
theorem dX4_goesOrder_242 : decode cX4_goesOrder 242 = .ok (.goto 60, 3) := by decide +kernel
theorem dX4_goesOrder_245 : decode cX4_goesOrder 245 = .ok (.aload_n 0, 1) := by decide +kernel
theorem dX4_goesOrder_246 : decode cX4_goesOrder 246 = .ok (.getfield 50, 3) := by decide +kernel
theorem dX4_goesOrder_249 : decode cX4_goesOrder 249 = .ok (.aload_n 0, 1) := by decide +kernel
theorem dX4_goesOrder_250 : decode cX4_goesOrder 250 = .ok (.getfield 104, 3) := by decide +kernel
theorem dX4_goesOrder_253 : decode cX4_goesOrder 253 = .ok (.iconst 1, 1) := by decide +kernel
theorem dX4_goesOrder_254 : decode cX4_goesOrder 254 = .ok (.isub, 1) := by decide +kernel
theorem dX4_goesOrder_255 : decode cX4_goesOrder 255 = .ok (.laload, 1) := by decide +kernel
theorem dX4_goesOrder_256 : decode cX4_goesOrder 256 = .ok (.lstore 8, 2) := by decide +kernel
theorem dX4_goesOrder_258 : decode cX4_goesOrder 258 = .ok (.lload 8, 2) := by decide +kernel
theorem dX4_goesOrder_260 : decode cX4_goesOrder 260 = .ok (.lload_n 3, 1) := by decide +kernel
theorem dX4_goesOrder_261 : decode cX4_goesOrder 261 = .ok (.lcmp, 1) := by decide +kernel
theorem dX4_goesOrder_262 : decode cX4_goesOrder 262 = .ok (.ifCond .ge 9, 3) := by decide +kernel
theorem dX4_goesOrder_265 : decode cX4_goesOrder 265 = .ok (.ldc2_w 125, 3) := by decide +kernel
theorem dX4_goesOrder_268 : decode cX4_goesOrder 268 = .ok (.goto 15, 3) := by decide +kernel
theorem dX4_goesOrder_271 : decode cX4_goesOrder 271 = .ok (.lload 8, 2) := by decide +kernel
theorem dX4_goesOrder_273 : decode cX4_goesOrder 273 = .ok (.lload_n 3, 1) := by decide +kernel
theorem dX4_goesOrder_274 : decode cX4_goesOrder 274 = .ok (.lcmp, 1) := by decide +kernel
theorem dX4_goesOrder_275 : decode cX4_goesOrder 275 = .ok (.ifCond .le 7, 3) := by decide +kernel
theorem dX4_goesOrder_278 : decode cX4_goesOrder 278 = .ok (.lconst 1, 1) := by decide +kernel
theorem dX4_goesOrder_279 : decode cX4_goesOrder 279 = .ok (.goto 4, 3) := by decide +kernel
theorem dX4_goesOrder_282 : decode cX4_goesOrder 282 = .ok (.lconst 0, 1) := by decide +kernel
theorem dX4_goesOrder_283 : decode cX4_goesOrder 283 = .ok (.lstore 10, 2) := by decide +kernel
theorem dX4_goesOrder_285 : decode cX4_goesOrder 285 = .ok (.aload_n 0, 1) := by decide +kernel
theorem dX4_goesOrder_286 : decode cX4_goesOrder 286 = .ok (.iload 5, 2) := by decide +kernel
theorem dX4_goesOrder_288 : decode cX4_goesOrder 288 = .ok (.ifCond .ne 8, 3) := by decide +kernel
theorem dX4_goesOrder_291 : decode cX4_goesOrder 291 = .ok (.lload 10, 2) := by decide +kernel
theorem dX4_goesOrder_293 : decode cX4_goesOrder 293 = .ok (.goto 6, 3) := by decide +kernel
theorem dX4_goesOrder_296 : decode cX4_goesOrder 296 = .ok (.lload 10, 2) := by decide +kernel
theorem dX4_goesOrder_298 : decode cX4_goesOrder 298 = .ok (.lneg, 1) := by decide +kernel
theorem dX4_goesOrder_299 : decode cX4_goesOrder 299 = .ok (.invokevirtual 111, 3) := by decide +kernel
theorem dX4_goesOrder_302 : decode cX4_goesOrder 302 = .ok (.return_, 1) := by decide +kernel
theorem dX4_recovers_0 : decode cX4_recovers 0 = .ok (.iconst 0, 1) := by decide +kernel
theorem dX4_recovers_1 : decode cX4_recovers 1 = .ok (.istore_n 1, 1) := by decide +kernel
theorem dX4_recovers_2 : decode cX4_recovers 2 = .ok (.aload_n 0, 1) := by decide +kernel
theorem dX4_recovers_3 : decode cX4_recovers 3 = .ok (.getfield 104, 3) := by decide +kernel
theorem dX4_recovers_6 : decode cX4_recovers 6 = .ok (.ifCond .le 83, 3) := by decide +kernel
theorem dX4_recovers_9 : decode cX4_recovers 9 = .ok (.iload_n 1, 1) := by decide +kernel
theorem dX4_recovers_10 : decode cX4_recovers 10 = .ok (.ifCond .ne 79, 3) := by decide +kernel
theorem dX4_recovers_13 : decode cX4_recovers 13 = .ok (.aload_n 0, 1) := by decide +kernel
theorem dX4_recovers_14 : decode cX4_recovers 14 = .ok (.getfield 38, 3) := by decide +kernel
theorem dX4_recovers_17 : decode cX4_recovers 17 = .ok (.aload_n 0, 1) := by decide +kernel
theorem dX4_recovers_18 : decode cX4_recovers 18 = .ok (.getfield 104, 3) := by decide +kernel
theorem dX4_recovers_21 : decode cX4_recovers 21 = .ok (.iconst 1, 1) := by decide +kernel
theorem dX4_recovers_22 : decode cX4_recovers 22 = .ok (.isub, 1) := by decide +kernel
theorem dX4_recovers_23 : decode cX4_recovers 23 = .ok (.iaload, 1) := by decide +kernel
theorem dX4_recovers_24 : decode cX4_recovers 24 = .ok (.istore_n 2, 1) := by decide +kernel
theorem dX4_recovers_25 : decode cX4_recovers 25 = .ok (.aload_n 0, 1) := by decide +kernel
theorem dX4_recovers_26 : decode cX4_recovers 26 = .ok (.getfield 98, 3) := by decide +kernel
theorem dX4_recovers_29 : decode cX4_recovers 29 = .ok (.iconst 4, 1) := by decide +kernel
theorem dX4_recovers_30 : decode cX4_recovers 30 = .ok (.if_icmp .eq 44, 3) := by decide +kernel
theorem dX4_recovers_33 : decode cX4_recovers 33 = .ok (.iload_n 2, 1) := by decide +kernel
theorem dX4_recovers_34 : decode cX4_recovers 34 = .ok (.bipush 24, 2) := by decide +kernel
theorem dX4_recovers_36 : decode cX4_recovers 36 = .ok (.if_icmp .lt 38, 3) := by decide +kernel
theorem dX4_recovers_39 : decode cX4_recovers 39 = .ok (.iload_n 2, 1) := by decide +kernel
theorem dX4_recovers_40 : decode cX4_recovers 40 = .ok (.bipush 48, 2) := by decide +kernel
theorem dX4_recovers_42 : decode cX4_recovers 42 = .ok (.if_icmp .ge 32, 3) := by decide +kernel
theorem dX4_recovers_45 : decode cX4_recovers 45 = .ok (.aload_n 0, 1) := by decide +kernel
theorem dX4_recovers_46 : decode cX4_recovers 46 = .ok (.getfield 23, 3) := by decide +kernel
theorem dX4_recovers_49 : decode cX4_recovers 49 = .ok (.iload_n 2, 1) := by decide +kernel
theorem dX4_recovers_50 : decode cX4_recovers 50 = .ok (.iaload, 1) := by decide +kernel
theorem dX4_recovers_51 : decode cX4_recovers 51 = .ok (.bipush 8, 2) := by decide +kernel
theorem dX4_recovers_53 : decode cX4_recovers 53 = .ok (.if_icmp .ne 21, 3) := by decide +kernel
theorem dX4_recovers_56 : decode cX4_recovers 56 = .ok (.aload_n 0, 1) := by decide +kernel
theorem dX4_recovers_57 : decode cX4_recovers 57 = .ok (.getfield 47, 3) := by decide +kernel
theorem dX4_recovers_60 : decode cX4_recovers 60 = .ok (.aload_n 0, 1) := by decide +kernel
theorem dX4_recovers_61 : decode cX4_recovers 61 = .ok (.getfield 104, 3) := by decide +kernel
theorem dX4_recovers_64 : decode cX4_recovers 64 = .ok (.iconst 1, 1) := by decide +kernel
theorem dX4_recovers_65 : decode cX4_recovers 65 = .ok (.isub, 1) := by decide +kernel
theorem dX4_recovers_66 : decode cX4_recovers 66 = .ok (.iaload, 1) := by decide +kernel
theorem dX4_recovers_67 : decode cX4_recovers 67 = .ok (.ifCond .le 7, 3) := by decide +kernel
theorem dX4_recovers_70 : decode cX4_recovers 70 = .ok (.iconst 1, 1) := by decide +kernel
theorem dX4_recovers_71 : decode cX4_recovers 71 = .ok (.goto 4, 3) := by decide +kernel
theorem dX4_recovers_74 : decode cX4_recovers 74 = .ok (.iconst 0, 1) := by decide +kernel
theorem dX4_recovers_75 : decode cX4_recovers 75 = .ok (.istore_n 1, 1) := by decide +kernel
theorem dX4_recovers_76 : decode cX4_recovers 76 = .ok (.aload_n 0, 1) := by decide +kernel
theorem dX4_recovers_77 : decode cX4_recovers 77 = .ok (.dup, 1) := by decide +kernel
theorem dX4_recovers_78 : decode cX4_recovers 78 = .ok (.getfield 104, 3) := by decide +kernel
theorem dX4_recovers_81 : decode cX4_recovers 81 = .ok (.iconst 1, 1) := by decide +kernel
theorem dX4_recovers_82 : decode cX4_recovers 82 = .ok (.isub, 1) := by decide +kernel
theorem dX4_recovers_83 : decode cX4_recovers 83 = .ok (.putfield 104, 3) := by decide +kernel
theorem dX4_recovers_86 : decode cX4_recovers 86 = .ok (.goto (-84), 3) := by decide +kernel
theorem dX4_recovers_89 : decode cX4_recovers 89 = .ok (.iload_n 1, 1) := by decide +kernel
theorem dX4_recovers_90 : decode cX4_recovers 90 = .ok (.ifCond .eq 23, 3) := by decide +kernel
theorem dX4_recovers_93 : decode cX4_recovers 93 = .ok (.aload_n 0, 1) := by decide +kernel
theorem dX4_recovers_94 : decode cX4_recovers 94 = .ok (.iconst 0, 1) := by decide +kernel
theorem dX4_recovers_95 : decode cX4_recovers 95 = .ok (.putfield 98, 3) := by decide +kernel
theorem dX4_recovers_98 : decode cX4_recovers 98 = .ok (.aload_n 0, 1) := by decide +kernel
theorem dX4_recovers_99 : decode cX4_recovers 99 = .ok (.dup, 1) := by decide +kernel
theorem dX4_recovers_100 : decode cX4_recovers 100 = .ok (.getfield 127, 3) := by decide +kernel
theorem dX4_recovers_103 : decode cX4_recovers 103 = .ok (.iconst 1, 1) := by decide +kernel
theorem dX4_recovers_104 : decode cX4_recovers 104 = .ok (.iadd, 1) := by decide +kernel
theorem dX4_recovers_105 : decode cX4_recovers 105 = .ok (.putfield 127, 3) := by decide +kernel
theorem dX4_recovers_108 : decode cX4_recovers 108 = .ok (.aload_n 0, 1) := by decide +kernel
theorem dX4_recovers_109 : decode cX4_recovers 109 = .ok (.lconst 0, 1) := by decide +kernel
theorem dX4_recovers_110 : decode cX4_recovers 110 = .ok (.putfield 107, 3) := by decide +kernel
theorem dX4_recovers_113 : decode cX4_recovers 113 = .ok (.return_, 1) := by decide +kernel
theorem dX4_ask_0 : decode cX4_ask 0 = .ok (.aload_n 0, 1) := by decide +kernel
theorem dX4_ask_1 : decode cX4_ask 1 = .ok (.iconst 0, 1) := by decide +kernel
theorem dX4_ask_2 : decode cX4_ask 2 = .ok (.putfield 104, 3) := by decide +kernel
theorem dX4_ask_5 : decode cX4_ask 5 = .ok (.aload_n 0, 1) := by decide +kernel
theorem dX4_ask_6 : decode cX4_ask 6 = .ok (.iconst 0, 1) := by decide +kernel
theorem dX4_ask_7 : decode cX4_ask 7 = .ok (.putfield 98, 3) := by decide +kernel
theorem dX4_ask_10 : decode cX4_ask 10 = .ok (.aload_n 0, 1) := by decide +kernel
theorem dX4_ask_11 : decode cX4_ask 11 = .ok (.iload_n 1, 1) := by decide +kernel
theorem dX4_ask_12 : decode cX4_ask 12 = .ok (.iload_n 2, 1) := by decide +kernel
theorem dX4_ask_13 : decode cX4_ask 13 = .ok (.iload_n 3, 1) := by decide +kernel
theorem dX4_ask_14 : decode cX4_ask 14 = .ok (.iload 4, 2) := by decide +kernel
theorem dX4_ask_16 : decode cX4_ask 16 = .ok (.invokevirtual 115, 3) := by decide +kernel
theorem dX4_ask_19 : decode cX4_ask 19 = .ok (.aload_n 0, 1) := by decide +kernel
theorem dX4_ask_20 : decode cX4_ask 20 = .ok (.getfield 104, 3) := by decide +kernel
theorem dX4_ask_23 : decode cX4_ask 23 = .ok (.ifCond .le 131, 3) := by decide +kernel
theorem dX4_ask_26 : decode cX4_ask 26 = .ok (.aload_n 0, 1) := by decide +kernel
theorem dX4_ask_27 : decode cX4_ask 27 = .ok (.getfield 98, 3) := by decide +kernel
theorem dX4_ask_30 : decode cX4_ask 30 = .ok (.ifCond .ne 124, 3) := by decide +kernel
theorem dX4_ask_33 : decode cX4_ask 33 = .ok (.aload_n 0, 1) := by decide +kernel
theorem dX4_ask_34 : decode cX4_ask 34 = .ok (.getfield 104, 3) := by decide +kernel
theorem dX4_ask_37 : decode cX4_ask 37 = .ok (.iconst 1, 1) := by decide +kernel
theorem dX4_ask_38 : decode cX4_ask 38 = .ok (.isub, 1) := by decide +kernel
theorem dX4_ask_39 : decode cX4_ask 39 = .ok (.istore 5, 2) := by decide +kernel
theorem dX4_ask_41 : decode cX4_ask 41 = .ok (.aload_n 0, 1) := by decide +kernel
theorem dX4_ask_42 : decode cX4_ask 42 = .ok (.getfield 38, 3) := by decide +kernel
theorem dX4_ask_45 : decode cX4_ask 45 = .ok (.iload 5, 2) := by decide +kernel
theorem dX4_ask_47 : decode cX4_ask 47 = .ok (.iaload, 1) := by decide +kernel
theorem dX4_ask_48 : decode cX4_ask 48 = .ok (.istore 6, 2) := by decide +kernel
theorem dX4_ask_50 : decode cX4_ask 50 = .ok (.aload_n 0, 1) := by decide +kernel
theorem dX4_ask_51 : decode cX4_ask 51 = .ok (.getfield 47, 3) := by decide +kernel
theorem dX4_ask_54 : decode cX4_ask 54 = .ok (.iload 5, 2) := by decide +kernel
theorem dX4_ask_56 : decode cX4_ask 56 = .ok (.iaload, 1) := by decide +kernel
theorem dX4_ask_57 : decode cX4_ask 57 = .ok (.istore 7, 2) := by decide +kernel
theorem dX4_ask_59 : decode cX4_ask 59 = .ok (.aload_n 0, 1) := by decide +kernel
theorem dX4_ask_60 : decode cX4_ask 60 = .ok (.getfield 47, 3) := by decide +kernel
theorem dX4_ask_63 : decode cX4_ask 63 = .ok (.iload 5, 2) := by decide +kernel
theorem dX4_ask_65 : decode cX4_ask 65 = .ok (.dup2, 1) := by decide +kernel
theorem dX4_ask_66 : decode cX4_ask 66 = .ok (.iaload, 1) := by decide +kernel
theorem dX4_ask_67 : decode cX4_ask 67 = .ok (.iconst 1, 1) := by decide +kernel
theorem dX4_ask_68 : decode cX4_ask 68 = .ok (.iadd, 1) := by decide +kernel
theorem dX4_ask_69 : decode cX4_ask 69 = .ok (.iastore, 1) := by decide +kernel
theorem dX4_ask_70 : decode cX4_ask 70 = .ok (.iload 6, 2) := by decide +kernel
theorem dX4_ask_72 : decode cX4_ask 72 = .ok (.bipush 24, 2) := by decide +kernel
theorem dX4_ask_74 : decode cX4_ask 74 = .ok (.if_icmp .ge 25, 3) := by decide +kernel
theorem dX4_ask_77 : decode cX4_ask 77 = .ok (.aload_n 0, 1) := by decide +kernel
theorem dX4_ask_78 : decode cX4_ask 78 = .ok (.iload 6, 2) := by decide +kernel
theorem dX4_ask_80 : decode cX4_ask 80 = .ok (.aload_n 0, 1) := by decide +kernel
theorem dX4_ask_81 : decode cX4_ask 81 = .ok (.getfield 41, 3) := by decide +kernel
theorem dX4_ask_84 : decode cX4_ask 84 = .ok (.iload 5, 2) := by decide +kernel
theorem dX4_ask_86 : decode cX4_ask 86 = .ok (.iaload, 1) := by decide +kernel
theorem dX4_ask_87 : decode cX4_ask 87 = .ok (.iload 7, 2) := by decide +kernel
theorem dX4_ask_89 : decode cX4_ask 89 = .ok (.aload_n 0, 1) := by decide +kernel
theorem dX4_ask_90 : decode cX4_ask 90 = .ok (.getfield 107, 3) := by decide +kernel
theorem dX4_ask_93 : decode cX4_ask 93 = .ok (.invokevirtual 130, 3) := by decide +kernel
theorem dX4_ask_96 : decode cX4_ask 96 = .ok (.goto 44, 3) := by decide +kernel
theorem dX4_ask_99 : decode cX4_ask 99 = .ok (.iload 6, 2) := by decide +kernel
theorem dX4_ask_101 : decode cX4_ask 101 = .ok (.bipush 48, 2) := by decide +kernel
theorem dX4_ask_103 : decode cX4_ask 103 = .ok (.if_icmp .ge 25, 3) := by decide +kernel
theorem dX4_ask_106 : decode cX4_ask 106 = .ok (.aload_n 0, 1) := by decide +kernel
theorem dX4_ask_107 : decode cX4_ask 107 = .ok (.iload 6, 2) := by decide +kernel
theorem dX4_ask_109 : decode cX4_ask 109 = .ok (.aload_n 0, 1) := by decide +kernel
theorem dX4_ask_110 : decode cX4_ask 110 = .ok (.getfield 41, 3) := by decide +kernel
theorem dX4_ask_113 : decode cX4_ask 113 = .ok (.iload 5, 2) := by decide +kernel
theorem dX4_ask_115 : decode cX4_ask 115 = .ok (.iaload, 1) := by decide +kernel
theorem dX4_ask_116 : decode cX4_ask 116 = .ok (.iload 7, 2) := by decide +kernel
theorem dX4_ask_118 : decode cX4_ask 118 = .ok (.aload_n 0, 1) := by decide +kernel
theorem dX4_ask_119 : decode cX4_ask 119 = .ok (.getfield 107, 3) := by decide +kernel
theorem dX4_ask_122 : decode cX4_ask 122 = .ok (.invokevirtual 134, 3) := by decide +kernel
theorem dX4_ask_125 : decode cX4_ask 125 = .ok (.goto 15, 3) := by decide +kernel
end
section
theorem dX4_ask_128 : decode cX4_ask 128 = .ok (.aload_n 0, 1) := by decide +kernel
theorem dX4_ask_129 : decode cX4_ask 129 = .ok (.iload 6, 2) := by decide +kernel
theorem dX4_ask_131 : decode cX4_ask 131 = .ok (.iload 7, 2) := by decide +kernel
theorem dX4_ask_133 : decode cX4_ask 133 = .ok (.aload_n 0, 1) := by decide +kernel
theorem dX4_ask_134 : decode cX4_ask 134 = .ok (.getfield 107, 3) := by decide +kernel
theorem dX4_ask_137 : decode cX4_ask 137 = .ok (.invokevirtual 137, 3) := by decide +kernel
theorem dX4_ask_140 : decode cX4_ask 140 = .ok (.aload_n 0, 1) := by decide +kernel
theorem dX4_ask_141 : decode cX4_ask 141 = .ok (.getfield 98, 3) := by decide +kernel
theorem dX4_ask_144 : decode cX4_ask 144 = .ok (.ifCond .le 7, 3) := by decide +kernel
theorem dX4_ask_147 : decode cX4_ask 147 = .ok (.aload_n 0, 1) := by decide +kernel
theorem dX4_ask_148 : decode cX4_ask 148 = .ok (.invokevirtual 141, 3) := by decide +kernel
theorem dX4_ask_151 : decode cX4_ask 151 = .ok (.goto (-132), 3) := by decide +kernel
theorem dX4_ask_154 : decode cX4_ask 154 = .ok (.aload_n 0, 1) := by decide +kernel
theorem dX4_ask_155 : decode cX4_ask 155 = .ok (.getfield 98, 3) := by decide +kernel
theorem dX4_ask_158 : decode cX4_ask 158 = .ok (.ifCond .ne 7, 3) := by decide +kernel
theorem dX4_ask_161 : decode cX4_ask 161 = .ok (.iconst 1, 1) := by decide +kernel
theorem dX4_ask_162 : decode cX4_ask 162 = .ok (.goto 4, 3) := by decide +kernel
theorem dX4_ask_165 : decode cX4_ask 165 = .ok (.iconst 0, 1) := by decide +kernel
theorem dX4_ask_166 : decode cX4_ask 166 = .ok (.ireturn, 1) := by decide +kernel
theorem dX4_startsCall_0 : decode cX4_startsCall 0 = .ok (.aload_n 0, 1) := by decide +kernel
theorem dX4_startsCall_1 : decode cX4_startsCall 1 = .ok (.iconst 0, 1) := by decide +kernel
theorem dX4_startsCall_2 : decode cX4_startsCall 2 = .ok (.putfield 95, 3) := by decide +kernel
theorem dX4_startsCall_5 : decode cX4_startsCall 5 = .ok (.aload_n 0, 1) := by decide +kernel
theorem dX4_startsCall_6 : decode cX4_startsCall 6 = .ok (.iconst 0, 1) := by decide +kernel
theorem dX4_startsCall_7 : decode cX4_startsCall 7 = .ok (.putfield 98, 3) := by decide +kernel
theorem dX4_startsCall_10 : decode cX4_startsCall 10 = .ok (.return_, 1) := by decide +kernel
theorem dX4_ends_0 : decode cX4_ends 0 = .ok (.aload_n 0, 1) := by decide +kernel
theorem dX4_ends_1 : decode cX4_ends 1 = .ok (.aload_n 0, 1) := by decide +kernel
theorem dX4_ends_2 : decode cX4_ends 2 = .ok (.getfield 95, 3) := by decide +kernel
theorem dX4_ends_5 : decode cX4_ends 5 = .ok (.putfield 144, 3) := by decide +kernel
theorem dX4_ends_8 : decode cX4_ends 8 = .ok (.aload_n 0, 1) := by decide +kernel
theorem dX4_ends_9 : decode cX4_ends 9 = .ok (.getfield 98, 3) := by decide +kernel
theorem dX4_ends_12 : decode cX4_ends 12 = .ok (.ifCond .ne 5, 3) := by decide +kernel
theorem dX4_ends_15 : decode cX4_ends 15 = .ok (.iload_n 1, 1) := by decide +kernel
theorem dX4_ends_16 : decode cX4_ends 16 = .ok (.ireturn, 1) := by decide +kernel
theorem dX4_ends_17 : decode cX4_ends 17 = .ok (.aload_n 0, 1) := by decide +kernel
theorem dX4_ends_18 : decode cX4_ends 18 = .ok (.dup, 1) := by decide +kernel
theorem dX4_ends_19 : decode cX4_ends 19 = .ok (.getfield 127, 3) := by decide +kernel
theorem dX4_ends_22 : decode cX4_ends 22 = .ok (.iconst 1, 1) := by decide +kernel
theorem dX4_ends_23 : decode cX4_ends 23 = .ok (.iadd, 1) := by decide +kernel
theorem dX4_ends_24 : decode cX4_ends 24 = .ok (.putfield 127, 3) := by decide +kernel
theorem dX4_ends_27 : decode cX4_ends 27 = .ok (.aload_n 0, 1) := by decide +kernel
theorem dX4_ends_28 : decode cX4_ends 28 = .ok (.dup, 1) := by decide +kernel
theorem dX4_ends_29 : decode cX4_ends 29 = .ok (.getfield 147, 3) := by decide +kernel
theorem dX4_ends_32 : decode cX4_ends 32 = .ok (.iconst 1, 1) := by decide +kernel
theorem dX4_ends_33 : decode cX4_ends 33 = .ok (.iadd, 1) := by decide +kernel
theorem dX4_ends_34 : decode cX4_ends 34 = .ok (.putfield 147, 3) := by decide +kernel
theorem dX4_ends_37 : decode cX4_ends 37 = .ok (.aload_n 0, 1) := by decide +kernel
theorem dX4_ends_38 : decode cX4_ends 38 = .ok (.aload_n 0, 1) := by decide +kernel
theorem dX4_ends_39 : decode cX4_ends 39 = .ok (.getfield 98, 3) := by decide +kernel
theorem dX4_ends_42 : decode cX4_ends 42 = .ok (.putfield 150, 3) := by decide +kernel
theorem dX4_ends_45 : decode cX4_ends 45 = .ok (.bipush (-10), 2) := by decide +kernel
theorem dX4_ends_47 : decode cX4_ends 47 = .ok (.aload_n 0, 1) := by decide +kernel
theorem dX4_ends_48 : decode cX4_ends 48 = .ok (.getfield 98, 3) := by decide +kernel
theorem dX4_ends_51 : decode cX4_ends 51 = .ok (.isub, 1) := by decide +kernel
theorem dX4_ends_52 : decode cX4_ends 52 = .ok (.ireturn, 1) := by decide +kernel
theorem dX4_made_0 : decode cX4_made 0 = .ok (.bipush 24, 2) := by decide +kernel
theorem dX4_made_2 : decode cX4_made 2 = .ok (.iload_n 1, 1) := by decide +kernel
theorem dX4_made_3 : decode cX4_made 3 = .ok (.imul, 1) := by decide +kernel
theorem dX4_made_4 : decode cX4_made 4 = .ok (.aload_n 0, 1) := by decide +kernel
theorem dX4_made_5 : decode cX4_made 5 = .ok (.getfield 20, 3) := by decide +kernel
theorem dX4_made_8 : decode cX4_made 8 = .ok (.iload_n 1, 1) := by decide +kernel
theorem dX4_made_9 : decode cX4_made 9 = .ok (.iaload, 1) := by decide +kernel
theorem dX4_made_10 : decode cX4_made 10 = .ok (.iadd, 1) := by decide +kernel
theorem dX4_made_11 : decode cX4_made 11 = .ok (.istore 7, 2) := by decide +kernel
theorem dX4_made_13 : decode cX4_made 13 = .ok (.aload_n 0, 1) := by decide +kernel
theorem dX4_made_14 : decode cX4_made 14 = .ok (.getfield 23, 3) := by decide +kernel
theorem dX4_made_17 : decode cX4_made 17 = .ok (.iload 7, 2) := by decide +kernel
theorem dX4_made_19 : decode cX4_made 19 = .ok (.iload_n 2, 1) := by decide +kernel
theorem dX4_made_20 : decode cX4_made 20 = .ok (.iastore, 1) := by decide +kernel
theorem dX4_made_21 : decode cX4_made 21 = .ok (.aload_n 0, 1) := by decide +kernel
theorem dX4_made_22 : decode cX4_made 22 = .ok (.getfield 26, 3) := by decide +kernel
theorem dX4_made_25 : decode cX4_made 25 = .ok (.iload 7, 2) := by decide +kernel
theorem dX4_made_27 : decode cX4_made 27 = .ok (.iload_n 3, 1) := by decide +kernel
theorem dX4_made_28 : decode cX4_made 28 = .ok (.iastore, 1) := by decide +kernel
theorem dX4_made_29 : decode cX4_made 29 = .ok (.aload_n 0, 1) := by decide +kernel
theorem dX4_made_30 : decode cX4_made 30 = .ok (.getfield 29, 3) := by decide +kernel
theorem dX4_made_33 : decode cX4_made 33 = .ok (.iload 7, 2) := by decide +kernel
theorem dX4_made_35 : decode cX4_made 35 = .ok (.iload 4, 2) := by decide +kernel
theorem dX4_made_37 : decode cX4_made 37 = .ok (.iastore, 1) := by decide +kernel
theorem dX4_made_38 : decode cX4_made 38 = .ok (.aload_n 0, 1) := by decide +kernel
theorem dX4_made_39 : decode cX4_made 39 = .ok (.getfield 32, 3) := by decide +kernel
theorem dX4_made_42 : decode cX4_made 42 = .ok (.iload 7, 2) := by decide +kernel
theorem dX4_made_44 : decode cX4_made 44 = .ok (.lload 5, 2) := by decide +kernel
theorem dX4_made_46 : decode cX4_made 46 = .ok (.lastore, 1) := by decide +kernel
theorem dX4_made_47 : decode cX4_made 47 = .ok (.aload_n 0, 1) := by decide +kernel
theorem dX4_made_48 : decode cX4_made 48 = .ok (.getfield 35, 3) := by decide +kernel
theorem dX4_made_51 : decode cX4_made 51 = .ok (.iload 7, 2) := by decide +kernel
theorem dX4_made_53 : decode cX4_made 53 = .ok (.iconst 0, 1) := by decide +kernel
theorem dX4_made_54 : decode cX4_made 54 = .ok (.iastore, 1) := by decide +kernel
theorem dX4_made_55 : decode cX4_made 55 = .ok (.aload_n 0, 1) := by decide +kernel
theorem dX4_made_56 : decode cX4_made 56 = .ok (.getfield 20, 3) := by decide +kernel
theorem dX4_made_59 : decode cX4_made 59 = .ok (.iload_n 1, 1) := by decide +kernel
theorem dX4_made_60 : decode cX4_made 60 = .ok (.dup2, 1) := by decide +kernel
theorem dX4_made_61 : decode cX4_made 61 = .ok (.iaload, 1) := by decide +kernel
theorem dX4_made_62 : decode cX4_made 62 = .ok (.iconst 1, 1) := by decide +kernel
theorem dX4_made_63 : decode cX4_made 63 = .ok (.iadd, 1) := by decide +kernel
theorem dX4_made_64 : decode cX4_made 64 = .ok (.iastore, 1) := by decide +kernel
theorem dX4_made_65 : decode cX4_made 65 = .ok (.aload_n 0, 1) := by decide +kernel
theorem dX4_made_66 : decode cX4_made 66 = .ok (.getfield 20, 3) := by decide +kernel
theorem dX4_made_69 : decode cX4_made 69 = .ok (.iload_n 1, 1) := by decide +kernel
theorem dX4_made_70 : decode cX4_made 70 = .ok (.iaload, 1) := by decide +kernel
theorem dX4_made_71 : decode cX4_made 71 = .ok (.iconst 1, 1) := by decide +kernel
theorem dX4_made_72 : decode cX4_made 72 = .ok (.isub, 1) := by decide +kernel
theorem dX4_made_73 : decode cX4_made 73 = .ok (.ireturn, 1) := by decide +kernel
theorem dX4_scale_0 : decode cX4_scale 0 = .ok (.iload_n 1, 1) := by decide +kernel
theorem dX4_scale_1 : decode cX4_scale 1 = .ok (.iconst 0, 1) := by decide +kernel
theorem dX4_scale_2 : decode cX4_scale 2 = .ok (.bipush 11, 2) := by decide +kernel
theorem dX4_scale_4 : decode cX4_scale 4 = .ok (.invokestatic 84, 3) := by decide +kernel
theorem dX4_scale_7 : decode cX4_scale 7 = .ok (.ifCond .eq 114, 3) := by decide +kernel
theorem dX4_scale_10 : decode cX4_scale 10 = .ok (.iload_n 1, 1) := by decide +kernel
theorem dX4_scale_11 : decode cX4_scale 11 = .ok (.ifCond .ne 12, 3) := by decide +kernel
theorem dX4_scale_14 : decode cX4_scale 14 = .ok (.iload_n 2, 1) := by decide +kernel
theorem dX4_scale_15 : decode cX4_scale 15 = .ok (.iconst 0, 1) := by decide +kernel
theorem dX4_scale_16 : decode cX4_scale 16 = .ok (.iconst 2, 1) := by decide +kernel
theorem dX4_scale_17 : decode cX4_scale 17 = .ok (.invokestatic 84, 3) := by decide +kernel
theorem dX4_scale_20 : decode cX4_scale 20 = .ok (.ifCond .eq 101, 3) := by decide +kernel
theorem dX4_scale_23 : decode cX4_scale 23 = .ok (.iload_n 1, 1) := by decide +kernel
theorem dX4_scale_24 : decode cX4_scale 24 = .ok (.bipush 8, 2) := by decide +kernel
theorem dX4_scale_26 : decode cX4_scale 26 = .ok (.if_icmp .ne 13, 3) := by decide +kernel
theorem dX4_scale_29 : decode cX4_scale 29 = .ok (.iload_n 2, 1) := by decide +kernel
theorem dX4_scale_30 : decode cX4_scale 30 = .ok (.iconst 0, 1) := by decide +kernel
theorem dX4_scale_31 : decode cX4_scale 31 = .ok (.bipush 7, 2) := by decide +kernel
theorem dX4_scale_33 : decode cX4_scale 33 = .ok (.invokestatic 84, 3) := by decide +kernel
theorem dX4_scale_36 : decode cX4_scale 36 = .ok (.ifCond .eq 85, 3) := by decide +kernel
theorem dX4_scale_39 : decode cX4_scale 39 = .ok (.iload_n 1, 1) := by decide +kernel
theorem dX4_scale_40 : decode cX4_scale 40 = .ok (.iconst 2, 1) := by decide +kernel
theorem dX4_scale_41 : decode cX4_scale 41 = .ok (.iconst 5, 1) := by decide +kernel
theorem dX4_scale_42 : decode cX4_scale 42 = .ok (.invokestatic 84, 3) := by decide +kernel
theorem dX4_scale_45 : decode cX4_scale 45 = .ok (.ifCond .ne 15, 3) := by decide +kernel
theorem dX4_scale_48 : decode cX4_scale 48 = .ok (.iload_n 1, 1) := by decide +kernel
theorem dX4_scale_49 : decode cX4_scale 49 = .ok (.bipush 7, 2) := by decide +kernel
theorem dX4_scale_51 : decode cX4_scale 51 = .ok (.if_icmp .eq 9, 3) := by decide +kernel
theorem dX4_scale_54 : decode cX4_scale 54 = .ok (.iload_n 1, 1) := by decide +kernel
theorem dX4_scale_55 : decode cX4_scale 55 = .ok (.bipush 9, 2) := by decide +kernel
theorem dX4_scale_57 : decode cX4_scale 57 = .ok (.if_icmp .ne 12, 3) := by decide +kernel
theorem dX4_scale_60 : decode cX4_scale 60 = .ok (.aload_n 0, 1) := by decide +kernel
theorem dX4_scale_61 : decode cX4_scale 61 = .ok (.iconst 0, 1) := by decide +kernel
theorem dX4_scale_62 : decode cX4_scale 62 = .ok (.iload_n 2, 1) := by decide +kernel
theorem dX4_scale_63 : decode cX4_scale 63 = .ok (.invokevirtual 153, 3) := by decide +kernel
theorem dX4_scale_66 : decode cX4_scale 66 = .ok (.ifCond .eq 55, 3) := by decide +kernel
theorem dX4_scale_69 : decode cX4_scale 69 = .ok (.iload_n 1, 1) := by decide +kernel
theorem dX4_scale_70 : decode cX4_scale 70 = .ok (.bipush 6, 2) := by decide +kernel
theorem dX4_scale_72 : decode cX4_scale 72 = .ok (.if_icmp .ne 12, 3) := by decide +kernel
theorem dX4_scale_75 : decode cX4_scale 75 = .ok (.aload_n 0, 1) := by decide +kernel
theorem dX4_scale_76 : decode cX4_scale 76 = .ok (.iconst 1, 1) := by decide +kernel
theorem dX4_scale_77 : decode cX4_scale 77 = .ok (.iload_n 2, 1) := by decide +kernel
theorem dX4_scale_78 : decode cX4_scale 78 = .ok (.invokevirtual 153, 3) := by decide +kernel
theorem dX4_scale_81 : decode cX4_scale 81 = .ok (.ifCond .eq 40, 3) := by decide +kernel
theorem dX4_scale_84 : decode cX4_scale 84 = .ok (.iload_n 1, 1) := by decide +kernel
theorem dX4_scale_85 : decode cX4_scale 85 = .ok (.iconst 2, 1) := by decide +kernel
theorem dX4_scale_86 : decode cX4_scale 86 = .ok (.bipush 6, 2) := by decide +kernel
theorem dX4_scale_88 : decode cX4_scale 88 = .ok (.invokestatic 84, 3) := by decide +kernel
theorem dX4_scale_91 : decode cX4_scale 91 = .ok (.ifCond .eq 12, 3) := by decide +kernel
theorem dX4_scale_94 : decode cX4_scale 94 = .ok (.aload_n 0, 1) := by decide +kernel
theorem dX4_scale_95 : decode cX4_scale 95 = .ok (.iconst 0, 1) := by decide +kernel
theorem dX4_scale_96 : decode cX4_scale 96 = .ok (.iload_n 3, 1) := by decide +kernel
theorem dX4_scale_97 : decode cX4_scale 97 = .ok (.invokevirtual 153, 3) := by decide +kernel
theorem dX4_scale_100 : decode cX4_scale 100 = .ok (.ifCond .eq 21, 3) := by decide +kernel
theorem dX4_scale_103 : decode cX4_scale 103 = .ok (.iload_n 1, 1) := by decide +kernel
theorem dX4_scale_104 : decode cX4_scale 104 = .ok (.bipush 9, 2) := by decide +kernel
theorem dX4_scale_106 : decode cX4_scale 106 = .ok (.if_icmp .ne 11, 3) := by decide +kernel
theorem dX4_scale_109 : decode cX4_scale 109 = .ok (.aload_n 0, 1) := by decide +kernel
theorem dX4_scale_110 : decode cX4_scale 110 = .ok (.iload_n 3, 1) := by decide +kernel
theorem dX4_scale_111 : decode cX4_scale 111 = .ok (.invokevirtual 91, 3) := by decide +kernel
theorem dX4_scale_114 : decode cX4_scale 114 = .ok (.ifCond .eq 7, 3) := by decide +kernel
theorem dX4_scale_117 : decode cX4_scale 117 = .ok (.iconst 1, 1) := by decide +kernel
theorem dX4_scale_118 : decode cX4_scale 118 = .ok (.goto 4, 3) := by decide +kernel
theorem dX4_scale_121 : decode cX4_scale 121 = .ok (.iconst 0, 1) := by decide +kernel
theorem dX4_scale_122 : decode cX4_scale 122 = .ok (.istore 4, 2) := by decide +kernel
theorem dX4_scale_124 : decode cX4_scale 124 = .ok (.iload 4, 2) := by decide +kernel
theorem dX4_scale_126 : decode cX4_scale 126 = .ok (.ifCond .ne 5, 3) := by decide +kernel
theorem dX4_scale_129 : decode cX4_scale 129 = .ok (.iconst (-1), 1) := by decide +kernel
theorem dX4_scale_130 : decode cX4_scale 130 = .ok (.ireturn, 1) := by decide +kernel
theorem dX4_scale_131 : decode cX4_scale 131 = .ok (.aload_n 0, 1) := by decide +kernel
theorem dX4_scale_132 : decode cX4_scale 132 = .ok (.getfield 20, 3) := by decide +kernel
theorem dX4_scale_135 : decode cX4_scale 135 = .ok (.iconst 0, 1) := by decide +kernel
theorem dX4_scale_136 : decode cX4_scale 136 = .ok (.iaload, 1) := by decide +kernel
theorem dX4_scale_137 : decode cX4_scale 137 = .ok (.bipush 24, 2) := by decide +kernel
theorem dX4_scale_139 : decode cX4_scale 139 = .ok (.if_icmp .eq 19, 3) := by decide +kernel
theorem dX4_scale_142 : decode cX4_scale 142 = .ok (.iload_n 1, 1) := by decide +kernel
theorem dX4_scale_143 : decode cX4_scale 143 = .ok (.bipush 9, 2) := by decide +kernel
theorem dX4_scale_145 : decode cX4_scale 145 = .ok (.if_icmp .ne 16, 3) := by decide +kernel
theorem dX4_scale_148 : decode cX4_scale 148 = .ok (.aload_n 0, 1) := by decide +kernel
theorem dX4_scale_149 : decode cX4_scale 149 = .ok (.getfield 127, 3) := by decide +kernel
theorem dX4_scale_152 : decode cX4_scale 152 = .ok (.sipush 2000, 3) := by decide +kernel
theorem dX4_scale_155 : decode cX4_scale 155 = .ok (.if_icmp .lt 6, 3) := by decide +kernel
theorem dX4_scale_158 : decode cX4_scale 158 = .ok (.bipush (-2), 2) := by decide +kernel
theorem dX4_scale_160 : decode cX4_scale 160 = .ok (.ireturn, 1) := by decide +kernel
theorem dX4_scale_161 : decode cX4_scale 161 = .ok (.iload_n 1, 1) := by decide +kernel
theorem dX4_scale_162 : decode cX4_scale 162 = .ok (.bipush 9, 2) := by decide +kernel
theorem dX4_scale_164 : decode cX4_scale 164 = .ok (.if_icmp .eq 28, 3) := by decide +kernel
theorem dX4_scale_167 : decode cX4_scale 167 = .ok (.aload_n 0, 1) := by decide +kernel
theorem dX4_scale_168 : decode cX4_scale 168 = .ok (.iconst 0, 1) := by decide +kernel
theorem dX4_scale_169 : decode cX4_scale 169 = .ok (.iload_n 1, 1) := by decide +kernel
theorem dX4_scale_170 : decode cX4_scale 170 = .ok (.iload_n 2, 1) := by decide +kernel
theorem dX4_scale_171 : decode cX4_scale 171 = .ok (.iload_n 3, 1) := by decide +kernel
theorem dX4_scale_172 : decode cX4_scale 172 = .ok (.iload_n 1, 1) := by decide +kernel
theorem dX4_scale_173 : decode cX4_scale 173 = .ok (.bipush 8, 2) := by decide +kernel
theorem dX4_scale_175 : decode cX4_scale 175 = .ok (.if_icmp .ne 12, 3) := by decide +kernel
theorem dX4_scale_178 : decode cX4_scale 178 = .ok (.aload_n 0, 1) := by decide +kernel
theorem dX4_scale_179 : decode cX4_scale 179 = .ok (.getfield 13, 3) := by decide +kernel
theorem dX4_scale_182 : decode cX4_scale 182 = .ok (.iload_n 2, 1) := by decide +kernel
theorem dX4_scale_183 : decode cX4_scale 183 = .ok (.laload, 1) := by decide +kernel
theorem dX4_scale_184 : decode cX4_scale 184 = .ok (.goto 4, 3) := by decide +kernel
theorem dX4_scale_187 : decode cX4_scale 187 = .ok (.lconst 0, 1) := by decide +kernel
theorem dX4_scale_188 : decode cX4_scale 188 = .ok (.invokevirtual 157, 3) := by decide +kernel
theorem dX4_scale_191 : decode cX4_scale 191 = .ok (.ireturn, 1) := by decide +kernel
theorem dX4_scale_192 : decode cX4_scale 192 = .ok (.aload_n 0, 1) := by decide +kernel
theorem dX4_scale_193 : decode cX4_scale 193 = .ok (.invokevirtual 161, 3) := by decide +kernel
theorem dX4_scale_196 : decode cX4_scale 196 = .ok (.aload_n 0, 1) := by decide +kernel
theorem dX4_scale_197 : decode cX4_scale 197 = .ok (.iconst 0, 1) := by decide +kernel
theorem dX4_scale_198 : decode cX4_scale 198 = .ok (.iload_n 2, 1) := by decide +kernel
theorem dX4_scale_199 : decode cX4_scale 199 = .ok (.iload_n 3, 1) := by decide +kernel
theorem dX4_scale_200 : decode cX4_scale 200 = .ok (.iload_n 3, 1) := by decide +kernel
theorem dX4_scale_201 : decode cX4_scale 201 = .ok (.invokevirtual 164, 3) := by decide +kernel
theorem dX4_scale_204 : decode cX4_scale 204 = .ok (.istore 5, 2) := by decide +kernel
theorem dX4_scale_206 : decode cX4_scale 206 = .ok (.aload_n 0, 1) := by decide +kernel
theorem dX4_scale_207 : decode cX4_scale 207 = .ok (.iconst 1, 1) := by decide +kernel
theorem dX4_scale_208 : decode cX4_scale 208 = .ok (.invokevirtual 168, 3) := by decide +kernel
theorem dX4_scale_211 : decode cX4_scale 211 = .ok (.istore 6, 2) := by decide +kernel
theorem dX4_scale_213 : decode cX4_scale 213 = .ok (.iload 6, 2) := by decide +kernel
theorem dX4_scale_215 : decode cX4_scale 215 = .ok (.ifCond .ge 8, 3) := by decide +kernel
theorem dX4_scale_218 : decode cX4_scale 218 = .ok (.iload 6, 2) := by decide +kernel
theorem dX4_scale_220 : decode cX4_scale 220 = .ok (.goto 15, 3) := by decide +kernel
theorem dX4_scale_223 : decode cX4_scale 223 = .ok (.aload_n 0, 1) := by decide +kernel
theorem dX4_scale_224 : decode cX4_scale 224 = .ok (.iconst 0, 1) := by decide +kernel
theorem dX4_scale_225 : decode cX4_scale 225 = .ok (.iload_n 1, 1) := by decide +kernel
theorem dX4_scale_226 : decode cX4_scale 226 = .ok (.iload_n 2, 1) := by decide +kernel
theorem dX4_scale_227 : decode cX4_scale 227 = .ok (.iload_n 3, 1) := by decide +kernel
theorem dX4_scale_228 : decode cX4_scale 228 = .ok (.aload_n 0, 1) := by decide +kernel
theorem dX4_scale_229 : decode cX4_scale 229 = .ok (.getfield 107, 3) := by decide +kernel
theorem dX4_scale_232 : decode cX4_scale 232 = .ok (.invokevirtual 157, 3) := by decide +kernel
theorem dX4_scale_235 : decode cX4_scale 235 = .ok (.ireturn, 1) := by decide +kernel
theorem dX4_sieve_0 : decode cX4_sieve 0 = .ok (.iload_n 1, 1) := by decide +kernel
theorem dX4_sieve_1 : decode cX4_sieve 1 = .ok (.iconst 0, 1) := by decide +kernel
theorem dX4_sieve_2 : decode cX4_sieve 2 = .ok (.bipush 9, 2) := by decide +kernel
theorem dX4_sieve_4 : decode cX4_sieve 4 = .ok (.invokestatic 84, 3) := by decide +kernel
theorem dX4_sieve_7 : decode cX4_sieve 7 = .ok (.ifCond .eq 76, 3) := by decide +kernel
theorem dX4_sieve_10 : decode cX4_sieve 10 = .ok (.iload_n 1, 1) := by decide +kernel
theorem dX4_sieve_11 : decode cX4_sieve 11 = .ok (.iconst 1, 1) := by decide +kernel
theorem dX4_sieve_12 : decode cX4_sieve 12 = .ok (.iconst 2, 1) := by decide +kernel
theorem dX4_sieve_13 : decode cX4_sieve 13 = .ok (.invokestatic 84, 3) := by decide +kernel
theorem dX4_sieve_16 : decode cX4_sieve 16 = .ok (.ifCond .eq 21, 3) := by decide +kernel
theorem dX4_sieve_19 : decode cX4_sieve 19 = .ok (.aload_n 0, 1) := by decide +kernel
theorem dX4_sieve_20 : decode cX4_sieve 20 = .ok (.iconst 0, 1) := by decide +kernel
theorem dX4_sieve_21 : decode cX4_sieve 21 = .ok (.iload_n 2, 1) := by decide +kernel
theorem dX4_sieve_22 : decode cX4_sieve 22 = .ok (.invokevirtual 153, 3) := by decide +kernel
theorem dX4_sieve_25 : decode cX4_sieve 25 = .ok (.ifCond .eq 58, 3) := by decide +kernel
theorem dX4_sieve_28 : decode cX4_sieve 28 = .ok (.aload_n 0, 1) := by decide +kernel
theorem dX4_sieve_29 : decode cX4_sieve 29 = .ok (.iconst 0, 1) := by decide +kernel
theorem dX4_sieve_30 : decode cX4_sieve 30 = .ok (.iload_n 3, 1) := by decide +kernel
theorem dX4_sieve_31 : decode cX4_sieve 31 = .ok (.invokevirtual 153, 3) := by decide +kernel
theorem dX4_sieve_34 : decode cX4_sieve 34 = .ok (.ifCond .eq 49, 3) := by decide +kernel
theorem dX4_sieve_37 : decode cX4_sieve 37 = .ok (.iload_n 1, 1) := by decide +kernel
theorem dX4_sieve_38 : decode cX4_sieve 38 = .ok (.iconst 3, 1) := by decide +kernel
theorem dX4_sieve_39 : decode cX4_sieve 39 = .ok (.iconst 5, 1) := by decide +kernel
theorem dX4_sieve_40 : decode cX4_sieve 40 = .ok (.invokestatic 84, 3) := by decide +kernel
theorem dX4_sieve_43 : decode cX4_sieve 43 = .ok (.ifCond .ne 9, 3) := by decide +kernel
theorem dX4_sieve_46 : decode cX4_sieve 46 = .ok (.iload_n 1, 1) := by decide +kernel
theorem dX4_sieve_47 : decode cX4_sieve 47 = .ok (.bipush 8, 2) := by decide +kernel
theorem dX4_sieve_49 : decode cX4_sieve 49 = .ok (.if_icmp .ne 12, 3) := by decide +kernel
theorem dX4_sieve_52 : decode cX4_sieve 52 = .ok (.aload_n 0, 1) := by decide +kernel
theorem dX4_sieve_53 : decode cX4_sieve 53 = .ok (.iconst 1, 1) := by decide +kernel
theorem dX4_sieve_54 : decode cX4_sieve 54 = .ok (.iload_n 2, 1) := by decide +kernel
theorem dX4_sieve_55 : decode cX4_sieve 55 = .ok (.invokevirtual 153, 3) := by decide +kernel
theorem dX4_sieve_58 : decode cX4_sieve 58 = .ok (.ifCond .eq 25, 3) := by decide +kernel
theorem dX4_sieve_61 : decode cX4_sieve 61 = .ok (.iload_n 1, 1) := by decide +kernel
theorem dX4_sieve_62 : decode cX4_sieve 62 = .ok (.iconst 4, 1) := by decide +kernel
theorem dX4_sieve_63 : decode cX4_sieve 63 = .ok (.iconst 5, 1) := by decide +kernel
theorem dX4_sieve_64 : decode cX4_sieve 64 = .ok (.invokestatic 84, 3) := by decide +kernel
theorem dX4_sieve_67 : decode cX4_sieve 67 = .ok (.ifCond .eq 12, 3) := by decide +kernel
theorem dX4_sieve_70 : decode cX4_sieve 70 = .ok (.aload_n 0, 1) := by decide +kernel
theorem dX4_sieve_71 : decode cX4_sieve 71 = .ok (.iconst 1, 1) := by decide +kernel
theorem dX4_sieve_72 : decode cX4_sieve 72 = .ok (.iload_n 3, 1) := by decide +kernel
theorem dX4_sieve_73 : decode cX4_sieve 73 = .ok (.invokevirtual 153, 3) := by decide +kernel
theorem dX4_sieve_76 : decode cX4_sieve 76 = .ok (.ifCond .eq 7, 3) := by decide +kernel
theorem dX4_sieve_79 : decode cX4_sieve 79 = .ok (.iconst 1, 1) := by decide +kernel
theorem dX4_sieve_80 : decode cX4_sieve 80 = .ok (.goto 4, 3) := by decide +kernel
theorem dX4_sieve_83 : decode cX4_sieve 83 = .ok (.iconst 0, 1) := by decide +kernel
theorem dX4_sieve_84 : decode cX4_sieve 84 = .ok (.istore 4, 2) := by decide +kernel
theorem dX4_sieve_86 : decode cX4_sieve 86 = .ok (.iload 4, 2) := by decide +kernel
theorem dX4_sieve_88 : decode cX4_sieve 88 = .ok (.ifCond .ne 7, 3) := by decide +kernel
theorem dX4_sieve_91 : decode cX4_sieve 91 = .ok (.iconst (-1), 1) := by decide +kernel
theorem dX4_sieve_92 : decode cX4_sieve 92 = .ok (.goto 28, 3) := by decide +kernel
theorem dX4_sieve_95 : decode cX4_sieve 95 = .ok (.aload_n 0, 1) := by decide +kernel
theorem dX4_sieve_96 : decode cX4_sieve 96 = .ok (.getfield 20, 3) := by decide +kernel
theorem dX4_sieve_99 : decode cX4_sieve 99 = .ok (.iconst 1, 1) := by decide +kernel
theorem dX4_sieve_100 : decode cX4_sieve 100 = .ok (.iaload, 1) := by decide +kernel
theorem dX4_sieve_101 : decode cX4_sieve 101 = .ok (.bipush 24, 2) := by decide +kernel
theorem dX4_sieve_103 : decode cX4_sieve 103 = .ok (.if_icmp .ne 8, 3) := by decide +kernel
theorem dX4_sieve_106 : decode cX4_sieve 106 = .ok (.bipush (-2), 2) := by decide +kernel
theorem dX4_sieve_108 : decode cX4_sieve 108 = .ok (.goto 12, 3) := by decide +kernel
theorem dX4_sieve_111 : decode cX4_sieve 111 = .ok (.aload_n 0, 1) := by decide +kernel
theorem dX4_sieve_112 : decode cX4_sieve 112 = .ok (.iconst 1, 1) := by decide +kernel
theorem dX4_sieve_113 : decode cX4_sieve 113 = .ok (.iload_n 1, 1) := by decide +kernel
theorem dX4_sieve_114 : decode cX4_sieve 114 = .ok (.iload_n 2, 1) := by decide +kernel
theorem dX4_sieve_115 : decode cX4_sieve 115 = .ok (.iload_n 3, 1) := by decide +kernel
theorem dX4_sieve_116 : decode cX4_sieve 116 = .ok (.lconst 0, 1) := by decide +kernel
theorem dX4_sieve_117 : decode cX4_sieve 117 = .ok (.invokevirtual 157, 3) := by decide +kernel
theorem dX4_sieve_120 : decode cX4_sieve 120 = .ok (.ireturn, 1) := by decide +kernel
theorem dX4_order_0 : decode cX4_order 0 = .ok (.iload_n 1, 1) := by decide +kernel
theorem dX4_order_1 : decode cX4_order 1 = .ok (.iconst 0, 1) := by decide +kernel
theorem dX4_order_2 : decode cX4_order 2 = .ok (.iconst 5, 1) := by decide +kernel
theorem dX4_order_3 : decode cX4_order 3 = .ok (.invokestatic 84, 3) := by decide +kernel
theorem dX4_order_6 : decode cX4_order 6 = .ok (.ifCond .eq 66, 3) := by decide +kernel
theorem dX4_order_9 : decode cX4_order 9 = .ok (.iload_n 1, 1) := by decide +kernel
theorem dX4_order_10 : decode cX4_order 10 = .ok (.ifCond .ne 12, 3) := by decide +kernel
theorem dX4_order_13 : decode cX4_order 13 = .ok (.aload_n 0, 1) := by decide +kernel
theorem dX4_order_14 : decode cX4_order 14 = .ok (.iconst 0, 1) := by decide +kernel
theorem dX4_order_15 : decode cX4_order 15 = .ok (.iload_n 2, 1) := by decide +kernel
theorem dX4_order_16 : decode cX4_order 16 = .ok (.invokevirtual 153, 3) := by decide +kernel
theorem dX4_order_19 : decode cX4_order 19 = .ok (.ifCond .eq 53, 3) := by decide +kernel
theorem dX4_order_22 : decode cX4_order 22 = .ok (.iload_n 1, 1) := by decide +kernel
theorem dX4_order_23 : decode cX4_order 23 = .ok (.iconst 1, 1) := by decide +kernel
theorem dX4_order_24 : decode cX4_order 24 = .ok (.iconst 2, 1) := by decide +kernel
theorem dX4_order_25 : decode cX4_order 25 = .ok (.invokestatic 84, 3) := by decide +kernel
theorem dX4_order_28 : decode cX4_order 28 = .ok (.ifCond .eq 12, 3) := by decide +kernel
theorem dX4_order_31 : decode cX4_order 31 = .ok (.aload_n 0, 1) := by decide +kernel
theorem dX4_order_32 : decode cX4_order 32 = .ok (.iconst 2, 1) := by decide +kernel
theorem dX4_order_33 : decode cX4_order 33 = .ok (.iload_n 2, 1) := by decide +kernel
theorem dX4_order_34 : decode cX4_order 34 = .ok (.invokevirtual 153, 3) := by decide +kernel
theorem dX4_order_37 : decode cX4_order 37 = .ok (.ifCond .eq 35, 3) := by decide +kernel
theorem dX4_order_40 : decode cX4_order 40 = .ok (.iload_n 1, 1) := by decide +kernel
theorem dX4_order_41 : decode cX4_order 41 = .ok (.iconst 2, 1) := by decide +kernel
theorem dX4_order_42 : decode cX4_order 42 = .ok (.if_icmp .ne 12, 3) := by decide +kernel
theorem dX4_order_45 : decode cX4_order 45 = .ok (.aload_n 0, 1) := by decide +kernel
theorem dX4_order_46 : decode cX4_order 46 = .ok (.iconst 2, 1) := by decide +kernel
theorem dX4_order_47 : decode cX4_order 47 = .ok (.iload_n 3, 1) := by decide +kernel
theorem dX4_order_48 : decode cX4_order 48 = .ok (.invokevirtual 153, 3) := by decide +kernel
theorem dX4_order_51 : decode cX4_order 51 = .ok (.ifCond .eq 21, 3) := by decide +kernel
theorem dX4_order_54 : decode cX4_order 54 = .ok (.iload_n 1, 1) := by decide +kernel
theorem dX4_order_55 : decode cX4_order 55 = .ok (.iconst 3, 1) := by decide +kernel
theorem dX4_order_56 : decode cX4_order 56 = .ok (.if_icmp .ne 12, 3) := by decide +kernel
theorem dX4_order_59 : decode cX4_order 59 = .ok (.aload_n 0, 1) := by decide +kernel
theorem dX4_order_60 : decode cX4_order 60 = .ok (.iconst 1, 1) := by decide +kernel
theorem dX4_order_61 : decode cX4_order 61 = .ok (.iload_n 2, 1) := by decide +kernel
theorem dX4_order_62 : decode cX4_order 62 = .ok (.invokevirtual 153, 3) := by decide +kernel
theorem dX4_order_65 : decode cX4_order 65 = .ok (.ifCond .eq 7, 3) := by decide +kernel
theorem dX4_order_68 : decode cX4_order 68 = .ok (.iconst 1, 1) := by decide +kernel
theorem dX4_order_69 : decode cX4_order 69 = .ok (.goto 4, 3) := by decide +kernel
theorem dX4_order_72 : decode cX4_order 72 = .ok (.iconst 0, 1) := by decide +kernel
theorem dX4_order_73 : decode cX4_order 73 = .ok (.istore 4, 2) := by decide +kernel
theorem dX4_order_75 : decode cX4_order 75 = .ok (.iload 4, 2) := by decide +kernel
theorem dX4_order_77 : decode cX4_order 77 = .ok (.ifCond .ne 7, 3) := by decide +kernel
theorem dX4_order_80 : decode cX4_order 80 = .ok (.iconst (-1), 1) := by decide +kernel
theorem dX4_order_81 : decode cX4_order 81 = .ok (.goto 28, 3) := by decide +kernel
theorem dX4_order_84 : decode cX4_order 84 = .ok (.aload_n 0, 1) := by decide +kernel
theorem dX4_order_85 : decode cX4_order 85 = .ok (.getfield 20, 3) := by decide +kernel
theorem dX4_order_88 : decode cX4_order 88 = .ok (.iconst 2, 1) := by decide +kernel
theorem dX4_order_89 : decode cX4_order 89 = .ok (.iaload, 1) := by decide +kernel
theorem dX4_order_90 : decode cX4_order 90 = .ok (.bipush 24, 2) := by decide +kernel
theorem dX4_order_92 : decode cX4_order 92 = .ok (.if_icmp .ne 8, 3) := by decide +kernel
theorem dX4_order_95 : decode cX4_order 95 = .ok (.bipush (-2), 2) := by decide +kernel
theorem dX4_order_97 : decode cX4_order 97 = .ok (.goto 12, 3) := by decide +kernel
theorem dX4_order_100 : decode cX4_order 100 = .ok (.aload_n 0, 1) := by decide +kernel
theorem dX4_order_101 : decode cX4_order 101 = .ok (.iconst 2, 1) := by decide +kernel
theorem dX4_order_102 : decode cX4_order 102 = .ok (.iload_n 1, 1) := by decide +kernel
theorem dX4_order_103 : decode cX4_order 103 = .ok (.iload_n 2, 1) := by decide +kernel
theorem dX4_order_104 : decode cX4_order 104 = .ok (.iload_n 3, 1) := by decide +kernel
theorem dX4_order_105 : decode cX4_order 105 = .ok (.lconst 0, 1) := by decide +kernel
theorem dX4_order_106 : decode cX4_order 106 = .ok (.invokevirtual 157, 3) := by decide +kernel
theorem dX4_order_109 : decode cX4_order 109 = .ok (.ireturn, 1) := by decide +kernel
theorem dX4_all_0 : decode cX4_all 0 = .ok (.iconst 0, 1) := by decide +kernel
theorem dX4_all_1 : decode cX4_all 1 = .ok (.istore_n 1, 1) := by decide +kernel
theorem dX4_all_2 : decode cX4_all 2 = .ok (.iload_n 1, 1) := by decide +kernel
theorem dX4_all_3 : decode cX4_all 3 = .ok (.aload_n 0, 1) := by decide +kernel
theorem dX4_all_4 : decode cX4_all 4 = .ok (.getfield 80, 3) := by decide +kernel
theorem dX4_all_7 : decode cX4_all 7 = .ok (.if_icmp .ge 16, 3) := by decide +kernel
theorem dX4_all_10 : decode cX4_all 10 = .ok (.aload_n 0, 1) := by decide +kernel
theorem dX4_all_11 : decode cX4_all 11 = .ok (.getfield 16, 3) := by decide +kernel
theorem dX4_all_14 : decode cX4_all 14 = .ok (.iload_n 1, 1) := by decide +kernel
theorem dX4_all_15 : decode cX4_all 15 = .ok (.iload_n 1, 1) := by decide +kernel
theorem dX4_all_16 : decode cX4_all 16 = .ok (.iastore, 1) := by decide +kernel
theorem dX4_all_17 : decode cX4_all 17 = .ok (.iinc 1 1, 3) := by decide +kernel
theorem dX4_all_20 : decode cX4_all 20 = .ok (.goto (-18), 3) := by decide +kernel
theorem dX4_all_23 : decode cX4_all 23 = .ok (.aload_n 0, 1) := by decide +kernel
theorem dX4_all_24 : decode cX4_all 24 = .ok (.aload_n 0, 1) := by decide +kernel
theorem dX4_all_25 : decode cX4_all 25 = .ok (.getfield 80, 3) := by decide +kernel
theorem dX4_all_28 : decode cX4_all 28 = .ok (.putfield 88, 3) := by decide +kernel
theorem dX4_all_31 : decode cX4_all 31 = .ok (.aload_n 0, 1) := by decide +kernel
theorem dX4_all_32 : decode cX4_all 32 = .ok (.getfield 88, 3) := by decide +kernel
theorem dX4_all_35 : decode cX4_all 35 = .ok (.ireturn, 1) := by decide +kernel
theorem dX4_tell_0 : decode cX4_tell 0 = .ok (.aload_n 0, 1) := by decide +kernel
theorem dX4_tell_1 : decode cX4_tell 1 = .ok (.iconst 0, 1) := by decide +kernel
theorem dX4_tell_2 : decode cX4_tell 2 = .ok (.iload_n 1, 1) := by decide +kernel
theorem dX4_tell_3 : decode cX4_tell 3 = .ok (.invokevirtual 153, 3) := by decide +kernel
theorem dX4_tell_6 : decode cX4_tell 6 = .ok (.ifCond .eq 11, 3) := by decide +kernel
theorem dX4_tell_9 : decode cX4_tell 9 = .ok (.aload_n 0, 1) := by decide +kernel
theorem dX4_tell_10 : decode cX4_tell 10 = .ok (.iload_n 2, 1) := by decide +kernel
theorem dX4_tell_11 : decode cX4_tell 11 = .ok (.invokevirtual 91, 3) := by decide +kernel
theorem dX4_tell_14 : decode cX4_tell 14 = .ok (.ifCond .ne 5, 3) := by decide +kernel
theorem dX4_tell_17 : decode cX4_tell 17 = .ok (.iconst (-1), 1) := by decide +kernel
theorem dX4_tell_18 : decode cX4_tell 18 = .ok (.ireturn, 1) := by decide +kernel
theorem dX4_tell_19 : decode cX4_tell 19 = .ok (.aload_n 0, 1) := by decide +kernel
theorem dX4_tell_20 : decode cX4_tell 20 = .ok (.getfield 127, 3) := by decide +kernel
theorem dX4_tell_23 : decode cX4_tell 23 = .ok (.sipush 2000, 3) := by decide +kernel
theorem dX4_tell_26 : decode cX4_tell 26 = .ok (.if_icmp .lt 6, 3) := by decide +kernel
theorem dX4_tell_29 : decode cX4_tell 29 = .ok (.bipush (-2), 2) := by decide +kernel
theorem dX4_tell_31 : decode cX4_tell 31 = .ok (.ireturn, 1) := by decide +kernel
theorem dX4_tell_32 : decode cX4_tell 32 = .ok (.aload_n 0, 1) := by decide +kernel
theorem dX4_tell_33 : decode cX4_tell 33 = .ok (.invokevirtual 161, 3) := by decide +kernel
theorem dX4_tell_36 : decode cX4_tell 36 = .ok (.aload_n 0, 1) := by decide +kernel
theorem dX4_tell_37 : decode cX4_tell 37 = .ok (.iconst 0, 1) := by decide +kernel
theorem dX4_tell_38 : decode cX4_tell 38 = .ok (.iload_n 1, 1) := by decide +kernel
theorem dX4_tell_39 : decode cX4_tell 39 = .ok (.iload_n 2, 1) := by decide +kernel
theorem dX4_tell_40 : decode cX4_tell 40 = .ok (.iload_n 2, 1) := by decide +kernel
theorem dX4_tell_41 : decode cX4_tell 41 = .ok (.invokevirtual 164, 3) := by decide +kernel
theorem dX4_tell_44 : decode cX4_tell 44 = .ok (.ifCond .eq 11, 3) := by decide +kernel
theorem dX4_tell_47 : decode cX4_tell 47 = .ok (.aload_n 0, 1) := by decide +kernel
theorem dX4_tell_48 : decode cX4_tell 48 = .ok (.aload_n 0, 1) := by decide +kernel
theorem dX4_tell_49 : decode cX4_tell 49 = .ok (.getfield 107, 3) := by decide +kernel
theorem dX4_tell_52 : decode cX4_tell 52 = .ok (.putfield 172, 3) := by decide +kernel
theorem dX4_tell_55 : decode cX4_tell 55 = .ok (.aload_n 0, 1) := by decide +kernel
theorem dX4_tell_56 : decode cX4_tell 56 = .ok (.iconst 1, 1) := by decide +kernel
theorem dX4_tell_57 : decode cX4_tell 57 = .ok (.invokevirtual 168, 3) := by decide +kernel
theorem dX4_tell_60 : decode cX4_tell 60 = .ok (.ireturn, 1) := by decide +kernel
theorem dX4_sift_0 : decode cX4_sift 0 = .ok (.aload_n 0, 1) := by decide +kernel
theorem dX4_sift_1 : decode cX4_sift 1 = .ok (.iconst 1, 1) := by decide +kernel
theorem dX4_sift_2 : decode cX4_sift 2 = .ok (.iload_n 1, 1) := by decide +kernel
theorem dX4_sift_3 : decode cX4_sift 3 = .ok (.invokevirtual 153, 3) := by decide +kernel
theorem dX4_sift_6 : decode cX4_sift 6 = .ok (.ifCond .ne 5, 3) := by decide +kernel
theorem dX4_sift_9 : decode cX4_sift 9 = .ok (.iconst (-1), 1) := by decide +kernel
theorem dX4_sift_10 : decode cX4_sift 10 = .ok (.ireturn, 1) := by decide +kernel
theorem dX4_sift_11 : decode cX4_sift 11 = .ok (.aload_n 0, 1) := by decide +kernel
theorem dX4_sift_12 : decode cX4_sift 12 = .ok (.getfield 127, 3) := by decide +kernel
theorem dX4_sift_15 : decode cX4_sift 15 = .ok (.sipush 2000, 3) := by decide +kernel
theorem dX4_sift_18 : decode cX4_sift 18 = .ok (.if_icmp .lt 6, 3) := by decide +kernel
theorem dX4_sift_21 : decode cX4_sift 21 = .ok (.bipush (-2), 2) := by decide +kernel
theorem dX4_sift_23 : decode cX4_sift 23 = .ok (.ireturn, 1) := by decide +kernel
theorem dX4_sift_24 : decode cX4_sift 24 = .ok (.aload_n 0, 1) := by decide +kernel
theorem dX4_sift_25 : decode cX4_sift 25 = .ok (.invokevirtual 161, 3) := by decide +kernel
theorem dX4_sift_28 : decode cX4_sift 28 = .ok (.iconst 0, 1) := by decide +kernel
theorem dX4_sift_29 : decode cX4_sift 29 = .ok (.istore_n 2, 1) := by decide +kernel
theorem dX4_sift_30 : decode cX4_sift 30 = .ok (.iconst 1, 1) := by decide +kernel
theorem dX4_sift_31 : decode cX4_sift 31 = .ok (.istore_n 3, 1) := by decide +kernel
theorem dX4_sift_32 : decode cX4_sift 32 = .ok (.iconst 0, 1) := by decide +kernel
theorem dX4_sift_33 : decode cX4_sift 33 = .ok (.istore 4, 2) := by decide +kernel
theorem dX4_sift_35 : decode cX4_sift 35 = .ok (.iload 4, 2) := by decide +kernel
theorem dX4_sift_37 : decode cX4_sift 37 = .ok (.aload_n 0, 1) := by decide +kernel
theorem dX4_sift_38 : decode cX4_sift 38 = .ok (.getfield 88, 3) := by decide +kernel
theorem dX4_sift_41 : decode cX4_sift 41 = .ok (.if_icmp .ge 63, 3) := by decide +kernel
theorem dX4_sift_44 : decode cX4_sift 44 = .ok (.iload_n 3, 1) := by decide +kernel
theorem dX4_sift_45 : decode cX4_sift 45 = .ok (.ifCond .eq 59, 3) := by decide +kernel
theorem dX4_sift_48 : decode cX4_sift 48 = .ok (.aload_n 0, 1) := by decide +kernel
theorem dX4_sift_49 : decode cX4_sift 49 = .ok (.iconst 1, 1) := by decide +kernel
theorem dX4_sift_50 : decode cX4_sift 50 = .ok (.iload_n 1, 1) := by decide +kernel
theorem dX4_sift_51 : decode cX4_sift 51 = .ok (.aload_n 0, 1) := by decide +kernel
theorem dX4_sift_52 : decode cX4_sift 52 = .ok (.getfield 16, 3) := by decide +kernel
theorem dX4_sift_55 : decode cX4_sift 55 = .ok (.iload 4, 2) := by decide +kernel
theorem dX4_sift_57 : decode cX4_sift 57 = .ok (.iaload, 1) := by decide +kernel
theorem dX4_sift_58 : decode cX4_sift 58 = .ok (.aload_n 0, 1) := by decide +kernel
theorem dX4_sift_59 : decode cX4_sift 59 = .ok (.getfield 16, 3) := by decide +kernel
theorem dX4_sift_62 : decode cX4_sift 62 = .ok (.iload 4, 2) := by decide +kernel
theorem dX4_sift_64 : decode cX4_sift 64 = .ok (.iaload, 1) := by decide +kernel
theorem dX4_sift_65 : decode cX4_sift 65 = .ok (.invokevirtual 164, 3) := by decide +kernel
theorem dX4_sift_68 : decode cX4_sift 68 = .ok (.istore_n 3, 1) := by decide +kernel
theorem dX4_sift_69 : decode cX4_sift 69 = .ok (.iload_n 3, 1) := by decide +kernel
theorem dX4_sift_70 : decode cX4_sift 70 = .ok (.ifCond .eq 28, 3) := by decide +kernel
theorem dX4_sift_73 : decode cX4_sift 73 = .ok (.aload_n 0, 1) := by decide +kernel
theorem dX4_sift_74 : decode cX4_sift 74 = .ok (.getfield 107, 3) := by decide +kernel
theorem dX4_sift_77 : decode cX4_sift 77 = .ok (.lconst 1, 1) := by decide +kernel
theorem dX4_sift_78 : decode cX4_sift 78 = .ok (.lcmp, 1) := by decide +kernel
theorem dX4_sift_79 : decode cX4_sift 79 = .ok (.ifCond .ne 19, 3) := by decide +kernel
theorem dX4_sift_82 : decode cX4_sift 82 = .ok (.aload_n 0, 1) := by decide +kernel
theorem dX4_sift_83 : decode cX4_sift 83 = .ok (.getfield 65, 3) := by decide +kernel
theorem dX4_sift_86 : decode cX4_sift 86 = .ok (.iload_n 2, 1) := by decide +kernel
theorem dX4_sift_87 : decode cX4_sift 87 = .ok (.aload_n 0, 1) := by decide +kernel
theorem dX4_sift_88 : decode cX4_sift 88 = .ok (.getfield 16, 3) := by decide +kernel
theorem dX4_sift_91 : decode cX4_sift 91 = .ok (.iload 4, 2) := by decide +kernel
theorem dX4_sift_93 : decode cX4_sift 93 = .ok (.iaload, 1) := by decide +kernel
theorem dX4_sift_94 : decode cX4_sift 94 = .ok (.iastore, 1) := by decide +kernel
theorem dX4_sift_95 : decode cX4_sift 95 = .ok (.iinc 2 1, 3) := by decide +kernel
theorem dX4_sift_98 : decode cX4_sift 98 = .ok (.iinc 4 1, 3) := by decide +kernel
theorem dX4_sift_101 : decode cX4_sift 101 = .ok (.goto (-66), 3) := by decide +kernel
theorem dX4_sift_104 : decode cX4_sift 104 = .ok (.iload_n 3, 1) := by decide +kernel
theorem dX4_sift_105 : decode cX4_sift 105 = .ok (.ifCond .eq 37, 3) := by decide +kernel
theorem dX4_sift_108 : decode cX4_sift 108 = .ok (.aload_n 0, 1) := by decide +kernel
theorem dX4_sift_109 : decode cX4_sift 109 = .ok (.iload_n 2, 1) := by decide +kernel
theorem dX4_sift_110 : decode cX4_sift 110 = .ok (.putfield 88, 3) := by decide +kernel
theorem dX4_sift_113 : decode cX4_sift 113 = .ok (.iconst 0, 1) := by decide +kernel
theorem dX4_sift_114 : decode cX4_sift 114 = .ok (.istore 4, 2) := by decide +kernel
theorem dX4_sift_116 : decode cX4_sift 116 = .ok (.iload 4, 2) := by decide +kernel
theorem dX4_sift_118 : decode cX4_sift 118 = .ok (.iload_n 2, 1) := by decide +kernel
theorem dX4_sift_119 : decode cX4_sift 119 = .ok (.if_icmp .ge 23, 3) := by decide +kernel
theorem dX4_sift_122 : decode cX4_sift 122 = .ok (.aload_n 0, 1) := by decide +kernel
theorem dX4_sift_123 : decode cX4_sift 123 = .ok (.getfield 16, 3) := by decide +kernel
theorem dX4_sift_126 : decode cX4_sift 126 = .ok (.iload 4, 2) := by decide +kernel
theorem dX4_sift_128 : decode cX4_sift 128 = .ok (.aload_n 0, 1) := by decide +kernel
theorem dX4_sift_129 : decode cX4_sift 129 = .ok (.getfield 65, 3) := by decide +kernel
theorem dX4_sift_132 : decode cX4_sift 132 = .ok (.iload 4, 2) := by decide +kernel
theorem dX4_sift_134 : decode cX4_sift 134 = .ok (.iaload, 1) := by decide +kernel
theorem dX4_sift_135 : decode cX4_sift 135 = .ok (.iastore, 1) := by decide +kernel
theorem dX4_sift_136 : decode cX4_sift 136 = .ok (.iinc 4 1, 3) := by decide +kernel
theorem dX4_sift_139 : decode cX4_sift 139 = .ok (.goto (-23), 3) := by decide +kernel
theorem dX4_sift_142 : decode cX4_sift 142 = .ok (.aload_n 0, 1) := by decide +kernel
theorem dX4_sift_143 : decode cX4_sift 143 = .ok (.iload_n 2, 1) := by decide +kernel
theorem dX4_sift_144 : decode cX4_sift 144 = .ok (.invokevirtual 168, 3) := by decide +kernel
theorem dX4_sift_147 : decode cX4_sift 147 = .ok (.ireturn, 1) := by decide +kernel
theorem dX4_sort_0 : decode cX4_sort 0 = .ok (.aload_n 0, 1) := by decide +kernel
theorem dX4_sort_1 : decode cX4_sort 1 = .ok (.iconst 2, 1) := by decide +kernel
theorem dX4_sort_2 : decode cX4_sort 2 = .ok (.iload_n 1, 1) := by decide +kernel
theorem dX4_sort_3 : decode cX4_sort 3 = .ok (.invokevirtual 153, 3) := by decide +kernel
theorem dX4_sort_6 : decode cX4_sort 6 = .ok (.ifCond .ne 5, 3) := by decide +kernel
theorem dX4_sort_9 : decode cX4_sort 9 = .ok (.iconst (-1), 1) := by decide +kernel
theorem dX4_sort_10 : decode cX4_sort 10 = .ok (.ireturn, 1) := by decide +kernel
theorem dX4_sort_11 : decode cX4_sort 11 = .ok (.aload_n 0, 1) := by decide +kernel
theorem dX4_sort_12 : decode cX4_sort 12 = .ok (.getfield 127, 3) := by decide +kernel
theorem dX4_sort_15 : decode cX4_sort 15 = .ok (.sipush 2000, 3) := by decide +kernel
theorem dX4_sort_18 : decode cX4_sort 18 = .ok (.if_icmp .lt 6, 3) := by decide +kernel
theorem dX4_sort_21 : decode cX4_sort 21 = .ok (.bipush (-2), 2) := by decide +kernel
theorem dX4_sort_23 : decode cX4_sort 23 = .ok (.ireturn, 1) := by decide +kernel
theorem dX4_sort_24 : decode cX4_sort 24 = .ok (.aload_n 0, 1) := by decide +kernel
theorem dX4_sort_25 : decode cX4_sort 25 = .ok (.invokevirtual 161, 3) := by decide +kernel
theorem dX4_sort_28 : decode cX4_sort 28 = .ok (.iconst 0, 1) := by decide +kernel
theorem dX4_sort_29 : decode cX4_sort 29 = .ok (.istore_n 2, 1) := by decide +kernel
theorem dX4_sort_30 : decode cX4_sort 30 = .ok (.iload_n 2, 1) := by decide +kernel
theorem dX4_sort_31 : decode cX4_sort 31 = .ok (.aload_n 0, 1) := by decide +kernel
theorem dX4_sort_32 : decode cX4_sort 32 = .ok (.getfield 88, 3) := by decide +kernel
theorem dX4_sort_35 : decode cX4_sort 35 = .ok (.if_icmp .ge 21, 3) := by decide +kernel
theorem dX4_sort_38 : decode cX4_sort 38 = .ok (.aload_n 0, 1) := by decide +kernel
theorem dX4_sort_39 : decode cX4_sort 39 = .ok (.getfield 65, 3) := by decide +kernel
theorem dX4_sort_42 : decode cX4_sort 42 = .ok (.iload_n 2, 1) := by decide +kernel
theorem dX4_sort_43 : decode cX4_sort 43 = .ok (.aload_n 0, 1) := by decide +kernel
theorem dX4_sort_44 : decode cX4_sort 44 = .ok (.getfield 16, 3) := by decide +kernel
theorem dX4_sort_47 : decode cX4_sort 47 = .ok (.iload_n 2, 1) := by decide +kernel
theorem dX4_sort_48 : decode cX4_sort 48 = .ok (.iaload, 1) := by decide +kernel
theorem dX4_sort_49 : decode cX4_sort 49 = .ok (.iastore, 1) := by decide +kernel
theorem dX4_sort_50 : decode cX4_sort 50 = .ok (.iinc 2 1, 3) := by decide +kernel
theorem dX4_sort_53 : decode cX4_sort 53 = .ok (.goto (-23), 3) := by decide +kernel
theorem dX4_sort_56 : decode cX4_sort 56 = .ok (.iconst 0, 1) := by decide +kernel
theorem dX4_sort_57 : decode cX4_sort 57 = .ok (.istore_n 2, 1) := by decide +kernel
theorem dX4_sort_58 : decode cX4_sort 58 = .ok (.iconst 1, 1) := by decide +kernel
theorem dX4_sort_59 : decode cX4_sort 59 = .ok (.istore_n 3, 1) := by decide +kernel
theorem dX4_sort_60 : decode cX4_sort 60 = .ok (.iconst 1, 1) := by decide +kernel
theorem dX4_sort_61 : decode cX4_sort 61 = .ok (.istore 4, 2) := by decide +kernel
theorem dX4_sort_63 : decode cX4_sort 63 = .ok (.iload 4, 2) := by decide +kernel
theorem dX4_sort_65 : decode cX4_sort 65 = .ok (.aload_n 0, 1) := by decide +kernel
theorem dX4_sort_66 : decode cX4_sort 66 = .ok (.getfield 88, 3) := by decide +kernel
theorem dX4_sort_69 : decode cX4_sort 69 = .ok (.if_icmp .ge 123, 3) := by decide +kernel
theorem dX4_sort_72 : decode cX4_sort 72 = .ok (.iload_n 3, 1) := by decide +kernel
theorem dX4_sort_73 : decode cX4_sort 73 = .ok (.ifCond .eq 119, 3) := by decide +kernel
theorem dX4_sort_76 : decode cX4_sort 76 = .ok (.iload 4, 2) := by decide +kernel
theorem dX4_sort_78 : decode cX4_sort 78 = .ok (.istore 5, 2) := by decide +kernel
theorem dX4_sort_80 : decode cX4_sort 80 = .ok (.iconst 1, 1) := by decide +kernel
theorem dX4_sort_81 : decode cX4_sort 81 = .ok (.istore 6, 2) := by decide +kernel
theorem dX4_sort_83 : decode cX4_sort 83 = .ok (.iload 5, 2) := by decide +kernel
theorem dX4_sort_85 : decode cX4_sort 85 = .ok (.ifCond .le 101, 3) := by decide +kernel
theorem dX4_sort_88 : decode cX4_sort 88 = .ok (.iload 6, 2) := by decide +kernel
theorem dX4_sort_90 : decode cX4_sort 90 = .ok (.ifCond .eq 96, 3) := by decide +kernel
theorem dX4_sort_93 : decode cX4_sort 93 = .ok (.aload_n 0, 1) := by decide +kernel
theorem dX4_sort_94 : decode cX4_sort 94 = .ok (.iconst 2, 1) := by decide +kernel
theorem dX4_sort_95 : decode cX4_sort 95 = .ok (.iload_n 1, 1) := by decide +kernel
theorem dX4_sort_96 : decode cX4_sort 96 = .ok (.aload_n 0, 1) := by decide +kernel
theorem dX4_sort_97 : decode cX4_sort 97 = .ok (.getfield 65, 3) := by decide +kernel
theorem dX4_sort_100 : decode cX4_sort 100 = .ok (.iload 5, 2) := by decide +kernel
theorem dX4_sort_102 : decode cX4_sort 102 = .ok (.iconst 1, 1) := by decide +kernel
theorem dX4_sort_103 : decode cX4_sort 103 = .ok (.isub, 1) := by decide +kernel
theorem dX4_sort_104 : decode cX4_sort 104 = .ok (.iaload, 1) := by decide +kernel
theorem dX4_sort_105 : decode cX4_sort 105 = .ok (.aload_n 0, 1) := by decide +kernel
theorem dX4_sort_106 : decode cX4_sort 106 = .ok (.getfield 65, 3) := by decide +kernel
theorem dX4_sort_109 : decode cX4_sort 109 = .ok (.iload 5, 2) := by decide +kernel
theorem dX4_sort_111 : decode cX4_sort 111 = .ok (.iaload, 1) := by decide +kernel
theorem dX4_sort_112 : decode cX4_sort 112 = .ok (.invokevirtual 164, 3) := by decide +kernel
theorem dX4_sort_115 : decode cX4_sort 115 = .ok (.istore_n 3, 1) := by decide +kernel
theorem dX4_sort_116 : decode cX4_sort 116 = .ok (.iload_n 3, 1) := by decide +kernel
theorem dX4_sort_117 : decode cX4_sort 117 = .ok (.ifCond .eq 16, 3) := by decide +kernel
theorem dX4_sort_120 : decode cX4_sort 120 = .ok (.aload_n 0, 1) := by decide +kernel
theorem dX4_sort_121 : decode cX4_sort 121 = .ok (.getfield 107, 3) := by decide +kernel
theorem dX4_sort_124 : decode cX4_sort 124 = .ok (.lconst 1, 1) := by decide +kernel
theorem dX4_sort_125 : decode cX4_sort 125 = .ok (.lcmp, 1) := by decide +kernel
theorem dX4_sort_126 : decode cX4_sort 126 = .ok (.ifCond .ne 7, 3) := by decide +kernel
theorem dX4_sort_129 : decode cX4_sort 129 = .ok (.iconst 1, 1) := by decide +kernel
theorem dX4_sort_130 : decode cX4_sort 130 = .ok (.goto 4, 3) := by decide +kernel
theorem dX4_sort_133 : decode cX4_sort 133 = .ok (.iconst 0, 1) := by decide +kernel
theorem dX4_sort_134 : decode cX4_sort 134 = .ok (.istore 6, 2) := by decide +kernel
theorem dX4_sort_136 : decode cX4_sort 136 = .ok (.iload 6, 2) := by decide +kernel
theorem dX4_sort_138 : decode cX4_sort 138 = .ok (.ifCond .eq (-55), 3) := by decide +kernel
theorem dX4_sort_141 : decode cX4_sort 141 = .ok (.aload_n 0, 1) := by decide +kernel
theorem dX4_sort_142 : decode cX4_sort 142 = .ok (.getfield 65, 3) := by decide +kernel
theorem dX4_sort_145 : decode cX4_sort 145 = .ok (.iload 5, 2) := by decide +kernel
theorem dX4_sort_147 : decode cX4_sort 147 = .ok (.iaload, 1) := by decide +kernel
theorem dX4_sort_148 : decode cX4_sort 148 = .ok (.istore 7, 2) := by decide +kernel
theorem dX4_sort_150 : decode cX4_sort 150 = .ok (.aload_n 0, 1) := by decide +kernel
theorem dX4_sort_151 : decode cX4_sort 151 = .ok (.getfield 65, 3) := by decide +kernel
theorem dX4_sort_154 : decode cX4_sort 154 = .ok (.iload 5, 2) := by decide +kernel
theorem dX4_sort_156 : decode cX4_sort 156 = .ok (.aload_n 0, 1) := by decide +kernel
theorem dX4_sort_157 : decode cX4_sort 157 = .ok (.getfield 65, 3) := by decide +kernel
theorem dX4_sort_160 : decode cX4_sort 160 = .ok (.iload 5, 2) := by decide +kernel
theorem dX4_sort_162 : decode cX4_sort 162 = .ok (.iconst 1, 1) := by decide +kernel
theorem dX4_sort_163 : decode cX4_sort 163 = .ok (.isub, 1) := by decide +kernel
theorem dX4_sort_164 : decode cX4_sort 164 = .ok (.iaload, 1) := by decide +kernel
theorem dX4_sort_165 : decode cX4_sort 165 = .ok (.iastore, 1) := by decide +kernel
theorem dX4_sort_166 : decode cX4_sort 166 = .ok (.aload_n 0, 1) := by decide +kernel
theorem dX4_sort_167 : decode cX4_sort 167 = .ok (.getfield 65, 3) := by decide +kernel
theorem dX4_sort_170 : decode cX4_sort 170 = .ok (.iload 5, 2) := by decide +kernel
theorem dX4_sort_172 : decode cX4_sort 172 = .ok (.iconst 1, 1) := by decide +kernel
theorem dX4_sort_173 : decode cX4_sort 173 = .ok (.isub, 1) := by decide +kernel
theorem dX4_sort_174 : decode cX4_sort 174 = .ok (.iload 7, 2) := by decide +kernel
theorem dX4_sort_176 : decode cX4_sort 176 = .ok (.iastore, 1) := by decide +kernel
theorem dX4_sort_177 : decode cX4_sort 177 = .ok (.iinc 5 (-1), 3) := by decide +kernel
theorem dX4_sort_180 : decode cX4_sort 180 = .ok (.iinc 2 1, 3) := by decide +kernel
theorem dX4_sort_183 : decode cX4_sort 183 = .ok (.goto (-100), 3) := by decide +kernel
theorem dX4_sort_186 : decode cX4_sort 186 = .ok (.iinc 4 1, 3) := by decide +kernel
theorem dX4_sort_189 : decode cX4_sort 189 = .ok (.goto (-126), 3) := by decide +kernel
theorem dX4_sort_192 : decode cX4_sort 192 = .ok (.iconst 0, 1) := by decide +kernel
theorem dX4_sort_193 : decode cX4_sort 193 = .ok (.istore 4, 2) := by decide +kernel
theorem dX4_sort_195 : decode cX4_sort 195 = .ok (.iload 4, 2) := by decide +kernel
theorem dX4_sort_197 : decode cX4_sort 197 = .ok (.aload_n 0, 1) := by decide +kernel
theorem dX4_sort_198 : decode cX4_sort 198 = .ok (.getfield 88, 3) := by decide +kernel
theorem dX4_sort_201 : decode cX4_sort 201 = .ok (.if_icmp .ge 27, 3) := by decide +kernel
theorem dX4_sort_204 : decode cX4_sort 204 = .ok (.iload_n 3, 1) := by decide +kernel
theorem dX4_sort_205 : decode cX4_sort 205 = .ok (.ifCond .eq 23, 3) := by decide +kernel
theorem dX4_sort_208 : decode cX4_sort 208 = .ok (.aload_n 0, 1) := by decide +kernel
theorem dX4_sort_209 : decode cX4_sort 209 = .ok (.getfield 16, 3) := by decide +kernel
theorem dX4_sort_212 : decode cX4_sort 212 = .ok (.iload 4, 2) := by decide +kernel
theorem dX4_sort_214 : decode cX4_sort 214 = .ok (.aload_n 0, 1) := by decide +kernel
theorem dX4_sort_215 : decode cX4_sort 215 = .ok (.getfield 65, 3) := by decide +kernel
theorem dX4_sort_218 : decode cX4_sort 218 = .ok (.iload 4, 2) := by decide +kernel
theorem dX4_sort_220 : decode cX4_sort 220 = .ok (.iaload, 1) := by decide +kernel
theorem dX4_sort_221 : decode cX4_sort 221 = .ok (.iastore, 1) := by decide +kernel
theorem dX4_sort_222 : decode cX4_sort 222 = .ok (.iinc 4 1, 3) := by decide +kernel
theorem dX4_sort_225 : decode cX4_sort 225 = .ok (.goto (-30), 3) := by decide +kernel
theorem dX4_sort_228 : decode cX4_sort 228 = .ok (.aload_n 0, 1) := by decide +kernel
theorem dX4_sort_229 : decode cX4_sort 229 = .ok (.iload_n 2, 1) := by decide +kernel
theorem dX4_sort_230 : decode cX4_sort 230 = .ok (.invokevirtual 168, 3) := by decide +kernel
theorem dX4_sort_233 : decode cX4_sort 233 = .ok (.ireturn, 1) := by decide +kernel
theorem dX4_sum_0 : decode cX4_sum 0 = .ok (.aload_n 0, 1) := by decide +kernel
theorem dX4_sum_1 : decode cX4_sum 1 = .ok (.iconst 0, 1) := by decide +kernel
theorem dX4_sum_2 : decode cX4_sum 2 = .ok (.iload_n 1, 1) := by decide +kernel
theorem dX4_sum_3 : decode cX4_sum 3 = .ok (.invokevirtual 153, 3) := by decide +kernel
theorem dX4_sum_6 : decode cX4_sum 6 = .ok (.ifCond .ne 5, 3) := by decide +kernel
theorem dX4_sum_9 : decode cX4_sum 9 = .ok (.iconst (-1), 1) := by decide +kernel
theorem dX4_sum_10 : decode cX4_sum 10 = .ok (.ireturn, 1) := by decide +kernel
theorem dX4_sum_11 : decode cX4_sum 11 = .ok (.aload_n 0, 1) := by decide +kernel
theorem dX4_sum_12 : decode cX4_sum 12 = .ok (.getfield 127, 3) := by decide +kernel
theorem dX4_sum_15 : decode cX4_sum 15 = .ok (.sipush 2000, 3) := by decide +kernel
theorem dX4_sum_18 : decode cX4_sum 18 = .ok (.if_icmp .lt 6, 3) := by decide +kernel
theorem dX4_sum_21 : decode cX4_sum 21 = .ok (.bipush (-2), 2) := by decide +kernel
theorem dX4_sum_23 : decode cX4_sum 23 = .ok (.ireturn, 1) := by decide +kernel
theorem dX4_sum_24 : decode cX4_sum 24 = .ok (.aload_n 0, 1) := by decide +kernel
theorem dX4_sum_25 : decode cX4_sum 25 = .ok (.invokevirtual 161, 3) := by decide +kernel
theorem dX4_sum_28 : decode cX4_sum 28 = .ok (.lconst 0, 1) := by decide +kernel
theorem dX4_sum_29 : decode cX4_sum 29 = .ok (.lstore_n 2, 1) := by decide +kernel
theorem dX4_sum_30 : decode cX4_sum 30 = .ok (.iconst 1, 1) := by decide +kernel
theorem dX4_sum_31 : decode cX4_sum 31 = .ok (.istore 4, 2) := by decide +kernel
theorem dX4_sum_33 : decode cX4_sum 33 = .ok (.iconst 0, 1) := by decide +kernel
theorem dX4_sum_34 : decode cX4_sum 34 = .ok (.istore 5, 2) := by decide +kernel
theorem dX4_sum_36 : decode cX4_sum 36 = .ok (.iload 5, 2) := by decide +kernel
theorem dX4_sum_38 : decode cX4_sum 38 = .ok (.aload_n 0, 1) := by decide +kernel
theorem dX4_sum_39 : decode cX4_sum 39 = .ok (.getfield 88, 3) := by decide +kernel
theorem dX4_sum_42 : decode cX4_sum 42 = .ok (.if_icmp .ge 52, 3) := by decide +kernel
theorem dX4_sum_45 : decode cX4_sum 45 = .ok (.iload 4, 2) := by decide +kernel
theorem dX4_sum_47 : decode cX4_sum 47 = .ok (.ifCond .eq 47, 3) := by decide +kernel
theorem dX4_sum_50 : decode cX4_sum 50 = .ok (.aload_n 0, 1) := by decide +kernel
theorem dX4_sum_51 : decode cX4_sum 51 = .ok (.iconst 0, 1) := by decide +kernel
theorem dX4_sum_52 : decode cX4_sum 52 = .ok (.iload_n 1, 1) := by decide +kernel
theorem dX4_sum_53 : decode cX4_sum 53 = .ok (.aload_n 0, 1) := by decide +kernel
theorem dX4_sum_54 : decode cX4_sum 54 = .ok (.getfield 16, 3) := by decide +kernel
theorem dX4_sum_57 : decode cX4_sum 57 = .ok (.iload 5, 2) := by decide +kernel
theorem dX4_sum_59 : decode cX4_sum 59 = .ok (.iaload, 1) := by decide +kernel
theorem dX4_sum_60 : decode cX4_sum 60 = .ok (.aload_n 0, 1) := by decide +kernel
theorem dX4_sum_61 : decode cX4_sum 61 = .ok (.getfield 16, 3) := by decide +kernel
theorem dX4_sum_64 : decode cX4_sum 64 = .ok (.iload 5, 2) := by decide +kernel
theorem dX4_sum_66 : decode cX4_sum 66 = .ok (.iaload, 1) := by decide +kernel
theorem dX4_sum_67 : decode cX4_sum 67 = .ok (.invokevirtual 164, 3) := by decide +kernel
theorem dX4_sum_70 : decode cX4_sum 70 = .ok (.istore 4, 2) := by decide +kernel
theorem dX4_sum_72 : decode cX4_sum 72 = .ok (.lload_n 2, 1) := by decide +kernel
theorem dX4_sum_73 : decode cX4_sum 73 = .ok (.iload 4, 2) := by decide +kernel
theorem dX4_sum_75 : decode cX4_sum 75 = .ok (.ifCond .eq 10, 3) := by decide +kernel
theorem dX4_sum_78 : decode cX4_sum 78 = .ok (.aload_n 0, 1) := by decide +kernel
theorem dX4_sum_79 : decode cX4_sum 79 = .ok (.getfield 107, 3) := by decide +kernel
theorem dX4_sum_82 : decode cX4_sum 82 = .ok (.goto 4, 3) := by decide +kernel
theorem dX4_sum_85 : decode cX4_sum 85 = .ok (.lconst 0, 1) := by decide +kernel
theorem dX4_sum_86 : decode cX4_sum 86 = .ok (.ladd, 1) := by decide +kernel
theorem dX4_sum_87 : decode cX4_sum 87 = .ok (.lstore_n 2, 1) := by decide +kernel
theorem dX4_sum_88 : decode cX4_sum 88 = .ok (.iinc 5 1, 3) := by decide +kernel
theorem dX4_sum_91 : decode cX4_sum 91 = .ok (.goto (-55), 3) := by decide +kernel
theorem dX4_sum_94 : decode cX4_sum 94 = .ok (.aload_n 0, 1) := by decide +kernel
theorem dX4_sum_95 : decode cX4_sum 95 = .ok (.iload 4, 2) := by decide +kernel
theorem dX4_sum_97 : decode cX4_sum 97 = .ok (.ifCond .eq 7, 3) := by decide +kernel
theorem dX4_sum_100 : decode cX4_sum 100 = .ok (.lload_n 2, 1) := by decide +kernel
theorem dX4_sum_101 : decode cX4_sum 101 = .ok (.goto 7, 3) := by decide +kernel
theorem dX4_sum_104 : decode cX4_sum 104 = .ok (.aload_n 0, 1) := by decide +kernel
theorem dX4_sum_105 : decode cX4_sum 105 = .ok (.getfield 172, 3) := by decide +kernel
theorem dX4_sum_108 : decode cX4_sum 108 = .ok (.putfield 172, 3) := by decide +kernel
theorem dX4_sum_111 : decode cX4_sum 111 = .ok (.aload_n 0, 1) := by decide +kernel
theorem dX4_sum_112 : decode cX4_sum 112 = .ok (.iconst 1, 1) := by decide +kernel
theorem dX4_sum_113 : decode cX4_sum 113 = .ok (.invokevirtual 168, 3) := by decide +kernel
theorem dX4_sum_116 : decode cX4_sum 116 = .ok (.ireturn, 1) := by decide +kernel
theorem dX4_group_0 : decode cX4_group 0 = .ok (.aload_n 0, 1) := by decide +kernel
theorem dX4_group_1 : decode cX4_group 1 = .ok (.iconst 0, 1) := by decide +kernel
theorem dX4_group_2 : decode cX4_group 2 = .ok (.iload_n 1, 1) := by decide +kernel
theorem dX4_group_3 : decode cX4_group 3 = .ok (.invokevirtual 153, 3) := by decide +kernel
theorem dX4_group_6 : decode cX4_group 6 = .ok (.ifCond .eq 12, 3) := by decide +kernel
theorem dX4_group_9 : decode cX4_group 9 = .ok (.aload_n 0, 1) := by decide +kernel
theorem dX4_group_10 : decode cX4_group 10 = .ok (.iconst 0, 1) := by decide +kernel
theorem dX4_group_11 : decode cX4_group 11 = .ok (.iload_n 2, 1) := by decide +kernel
theorem dX4_group_12 : decode cX4_group 12 = .ok (.invokevirtual 153, 3) := by decide +kernel
theorem dX4_group_15 : decode cX4_group 15 = .ok (.ifCond .ne 5, 3) := by decide +kernel
theorem dX4_group_18 : decode cX4_group 18 = .ok (.iconst (-1), 1) := by decide +kernel
theorem dX4_group_19 : decode cX4_group 19 = .ok (.ireturn, 1) := by decide +kernel
theorem dX4_group_20 : decode cX4_group 20 = .ok (.aload_n 0, 1) := by decide +kernel
theorem dX4_group_21 : decode cX4_group 21 = .ok (.getfield 127, 3) := by decide +kernel
theorem dX4_group_24 : decode cX4_group 24 = .ok (.sipush 2000, 3) := by decide +kernel
theorem dX4_group_27 : decode cX4_group 27 = .ok (.if_icmp .lt 6, 3) := by decide +kernel
theorem dX4_group_30 : decode cX4_group 30 = .ok (.bipush (-2), 2) := by decide +kernel
theorem dX4_group_32 : decode cX4_group 32 = .ok (.ireturn, 1) := by decide +kernel
theorem dX4_group_33 : decode cX4_group 33 = .ok (.aload_n 0, 1) := by decide +kernel
theorem dX4_group_34 : decode cX4_group 34 = .ok (.invokevirtual 161, 3) := by decide +kernel
theorem dX4_group_37 : decode cX4_group 37 = .ok (.iconst 0, 1) := by decide +kernel
theorem dX4_group_38 : decode cX4_group 38 = .ok (.istore_n 3, 1) := by decide +kernel
theorem dX4_group_39 : decode cX4_group 39 = .ok (.iconst 1, 1) := by decide +kernel
theorem dX4_group_40 : decode cX4_group 40 = .ok (.istore 4, 2) := by decide +kernel
theorem dX4_group_42 : decode cX4_group 42 = .ok (.iconst 0, 1) := by decide +kernel
theorem dX4_group_43 : decode cX4_group 43 = .ok (.istore 5, 2) := by decide +kernel
theorem dX4_group_45 : decode cX4_group 45 = .ok (.iload 5, 2) := by decide +kernel
theorem dX4_group_47 : decode cX4_group 47 = .ok (.aload_n 0, 1) := by decide +kernel
theorem dX4_group_48 : decode cX4_group 48 = .ok (.getfield 88, 3) := by decide +kernel
theorem dX4_group_51 : decode cX4_group 51 = .ok (.if_icmp .ge 183, 3) := by decide +kernel
theorem dX4_group_54 : decode cX4_group 54 = .ok (.iload 4, 2) := by decide +kernel
theorem dX4_group_56 : decode cX4_group 56 = .ok (.ifCond .eq 178, 3) := by decide +kernel
theorem dX4_group_59 : decode cX4_group 59 = .ok (.aload_n 0, 1) := by decide +kernel
theorem dX4_group_60 : decode cX4_group 60 = .ok (.iconst 0, 1) := by decide +kernel
theorem dX4_group_61 : decode cX4_group 61 = .ok (.iload_n 1, 1) := by decide +kernel
theorem dX4_group_62 : decode cX4_group 62 = .ok (.aload_n 0, 1) := by decide +kernel
theorem dX4_group_63 : decode cX4_group 63 = .ok (.getfield 16, 3) := by decide +kernel
theorem dX4_group_66 : decode cX4_group 66 = .ok (.iload 5, 2) := by decide +kernel
theorem dX4_group_68 : decode cX4_group 68 = .ok (.iaload, 1) := by decide +kernel
theorem dX4_group_69 : decode cX4_group 69 = .ok (.aload_n 0, 1) := by decide +kernel
theorem dX4_group_70 : decode cX4_group 70 = .ok (.getfield 16, 3) := by decide +kernel
theorem dX4_group_73 : decode cX4_group 73 = .ok (.iload 5, 2) := by decide +kernel
theorem dX4_group_75 : decode cX4_group 75 = .ok (.iaload, 1) := by decide +kernel
theorem dX4_group_76 : decode cX4_group 76 = .ok (.invokevirtual 164, 3) := by decide +kernel
theorem dX4_group_79 : decode cX4_group 79 = .ok (.istore 4, 2) := by decide +kernel
theorem dX4_group_81 : decode cX4_group 81 = .ok (.aload_n 0, 1) := by decide +kernel
theorem dX4_group_82 : decode cX4_group 82 = .ok (.getfield 107, 3) := by decide +kernel
theorem dX4_group_85 : decode cX4_group 85 = .ok (.lstore 6, 2) := by decide +kernel
theorem dX4_group_87 : decode cX4_group 87 = .ok (.iload 4, 2) := by decide +kernel
theorem dX4_group_89 : decode cX4_group 89 = .ok (.ifCond .eq 30, 3) := by decide +kernel
theorem dX4_group_92 : decode cX4_group 92 = .ok (.aload_n 0, 1) := by decide +kernel
theorem dX4_group_93 : decode cX4_group 93 = .ok (.iconst 0, 1) := by decide +kernel
theorem dX4_group_94 : decode cX4_group 94 = .ok (.iload_n 2, 1) := by decide +kernel
theorem dX4_group_95 : decode cX4_group 95 = .ok (.aload_n 0, 1) := by decide +kernel
theorem dX4_group_96 : decode cX4_group 96 = .ok (.getfield 16, 3) := by decide +kernel
theorem dX4_group_99 : decode cX4_group 99 = .ok (.iload 5, 2) := by decide +kernel
theorem dX4_group_101 : decode cX4_group 101 = .ok (.iaload, 1) := by decide +kernel
theorem dX4_group_102 : decode cX4_group 102 = .ok (.aload_n 0, 1) := by decide +kernel
theorem dX4_group_103 : decode cX4_group 103 = .ok (.getfield 16, 3) := by decide +kernel
theorem dX4_group_106 : decode cX4_group 106 = .ok (.iload 5, 2) := by decide +kernel
theorem dX4_group_108 : decode cX4_group 108 = .ok (.iaload, 1) := by decide +kernel
theorem dX4_group_109 : decode cX4_group 109 = .ok (.invokevirtual 164, 3) := by decide +kernel
theorem dX4_group_112 : decode cX4_group 112 = .ok (.ifCond .eq 7, 3) := by decide +kernel
theorem dX4_group_115 : decode cX4_group 115 = .ok (.iconst 1, 1) := by decide +kernel
theorem dX4_group_116 : decode cX4_group 116 = .ok (.goto 4, 3) := by decide +kernel
theorem dX4_group_119 : decode cX4_group 119 = .ok (.iconst 0, 1) := by decide +kernel
theorem dX4_group_120 : decode cX4_group 120 = .ok (.istore 4, 2) := by decide +kernel
theorem dX4_group_122 : decode cX4_group 122 = .ok (.iload 4, 2) := by decide +kernel
theorem dX4_group_124 : decode cX4_group 124 = .ok (.ifCond .eq 104, 3) := by decide +kernel
theorem dX4_group_127 : decode cX4_group 127 = .ok (.iconst 0, 1) := by decide +kernel
theorem dX4_group_128 : decode cX4_group 128 = .ok (.istore 8, 2) := by decide +kernel
theorem dX4_group_130 : decode cX4_group 130 = .ok (.iload 8, 2) := by decide +kernel
theorem dX4_group_132 : decode cX4_group 132 = .ok (.iload_n 3, 1) := by decide +kernel
theorem dX4_group_133 : decode cX4_group 133 = .ok (.if_icmp .ge 22, 3) := by decide +kernel
theorem dX4_group_136 : decode cX4_group 136 = .ok (.aload_n 0, 1) := by decide +kernel
theorem dX4_group_137 : decode cX4_group 137 = .ok (.getfield 68, 3) := by decide +kernel
theorem dX4_group_140 : decode cX4_group 140 = .ok (.iload 8, 2) := by decide +kernel
theorem dX4_group_142 : decode cX4_group 142 = .ok (.laload, 1) := by decide +kernel
theorem dX4_group_143 : decode cX4_group 143 = .ok (.lload 6, 2) := by decide +kernel
theorem dX4_group_145 : decode cX4_group 145 = .ok (.lcmp, 1) := by decide +kernel
theorem dX4_group_146 : decode cX4_group 146 = .ok (.ifCond .eq 9, 3) := by decide +kernel
theorem dX4_group_149 : decode cX4_group 149 = .ok (.iinc 8 1, 3) := by decide +kernel
theorem dX4_group_152 : decode cX4_group 152 = .ok (.goto (-22), 3) := by decide +kernel
theorem dX4_group_155 : decode cX4_group 155 = .ok (.iload 8, 2) := by decide +kernel
theorem dX4_group_157 : decode cX4_group 157 = .ok (.iload_n 3, 1) := by decide +kernel
theorem dX4_group_158 : decode cX4_group 158 = .ok (.if_icmp .ne 45, 3) := by decide +kernel
theorem dX4_group_161 : decode cX4_group 161 = .ok (.aload_n 0, 1) := by decide +kernel
theorem dX4_group_162 : decode cX4_group 162 = .ok (.getfield 68, 3) := by decide +kernel
theorem dX4_group_165 : decode cX4_group 165 = .ok (.iload 8, 2) := by decide +kernel
theorem dX4_group_167 : decode cX4_group 167 = .ok (.lload 6, 2) := by decide +kernel
theorem dX4_group_169 : decode cX4_group 169 = .ok (.lastore, 1) := by decide +kernel
theorem dX4_group_170 : decode cX4_group 170 = .ok (.aload_n 0, 1) := by decide +kernel
theorem dX4_group_171 : decode cX4_group 171 = .ok (.getfield 71, 3) := by decide +kernel
theorem dX4_group_174 : decode cX4_group 174 = .ok (.iload 8, 2) := by decide +kernel
theorem dX4_group_176 : decode cX4_group 176 = .ok (.iconst 0, 1) := by decide +kernel
theorem dX4_group_177 : decode cX4_group 177 = .ok (.iastore, 1) := by decide +kernel
theorem dX4_group_178 : decode cX4_group 178 = .ok (.aload_n 0, 1) := by decide +kernel
theorem dX4_group_179 : decode cX4_group 179 = .ok (.getfield 74, 3) := by decide +kernel
theorem dX4_group_182 : decode cX4_group 182 = .ok (.iload 8, 2) := by decide +kernel
theorem dX4_group_184 : decode cX4_group 184 = .ok (.lconst 0, 1) := by decide +kernel
theorem dX4_group_185 : decode cX4_group 185 = .ok (.lastore, 1) := by decide +kernel
theorem dX4_group_186 : decode cX4_group 186 = .ok (.aload_n 0, 1) := by decide +kernel
theorem dX4_group_187 : decode cX4_group 187 = .ok (.getfield 77, 3) := by decide +kernel
theorem dX4_group_190 : decode cX4_group 190 = .ok (.iload 8, 2) := by decide +kernel
theorem dX4_group_192 : decode cX4_group 192 = .ok (.aload_n 0, 1) := by decide +kernel
theorem dX4_group_193 : decode cX4_group 193 = .ok (.getfield 16, 3) := by decide +kernel
theorem dX4_group_196 : decode cX4_group 196 = .ok (.iload 5, 2) := by decide +kernel
theorem dX4_group_198 : decode cX4_group 198 = .ok (.iaload, 1) := by decide +kernel
theorem dX4_group_199 : decode cX4_group 199 = .ok (.iastore, 1) := by decide +kernel
theorem dX4_group_200 : decode cX4_group 200 = .ok (.iinc 3 1, 3) := by decide +kernel
theorem dX4_group_203 : decode cX4_group 203 = .ok (.aload_n 0, 1) := by decide +kernel
theorem dX4_group_204 : decode cX4_group 204 = .ok (.getfield 71, 3) := by decide +kernel
theorem dX4_group_207 : decode cX4_group 207 = .ok (.iload 8, 2) := by decide +kernel
theorem dX4_group_209 : decode cX4_group 209 = .ok (.dup2, 1) := by decide +kernel
theorem dX4_group_210 : decode cX4_group 210 = .ok (.iaload, 1) := by decide +kernel
theorem dX4_group_211 : decode cX4_group 211 = .ok (.iconst 1, 1) := by decide +kernel
theorem dX4_group_212 : decode cX4_group 212 = .ok (.iadd, 1) := by decide +kernel
theorem dX4_group_213 : decode cX4_group 213 = .ok (.iastore, 1) := by decide +kernel
theorem dX4_group_214 : decode cX4_group 214 = .ok (.aload_n 0, 1) := by decide +kernel
theorem dX4_group_215 : decode cX4_group 215 = .ok (.getfield 74, 3) := by decide +kernel
theorem dX4_group_218 : decode cX4_group 218 = .ok (.iload 8, 2) := by decide +kernel
theorem dX4_group_220 : decode cX4_group 220 = .ok (.dup2, 1) := by decide +kernel
theorem dX4_group_221 : decode cX4_group 221 = .ok (.laload, 1) := by decide +kernel
theorem dX4_group_222 : decode cX4_group 222 = .ok (.aload_n 0, 1) := by decide +kernel
theorem dX4_group_223 : decode cX4_group 223 = .ok (.getfield 107, 3) := by decide +kernel
theorem dX4_group_226 : decode cX4_group 226 = .ok (.ladd, 1) := by decide +kernel
theorem dX4_group_227 : decode cX4_group 227 = .ok (.lastore, 1) := by decide +kernel
theorem dX4_group_228 : decode cX4_group 228 = .ok (.iinc 5 1, 3) := by decide +kernel
theorem dX4_group_231 : decode cX4_group 231 = .ok (.goto (-186), 3) := by decide +kernel
theorem dX4_group_234 : decode cX4_group 234 = .ok (.iload 4, 2) := by decide +kernel
theorem dX4_group_236 : decode cX4_group 236 = .ok (.ifCond .eq 79, 3) := by decide +kernel
theorem dX4_group_239 : decode cX4_group 239 = .ok (.aload_n 0, 1) := by decide +kernel
theorem dX4_group_240 : decode cX4_group 240 = .ok (.iload_n 3, 1) := by decide +kernel
theorem dX4_group_241 : decode cX4_group 241 = .ok (.putfield 175, 3) := by decide +kernel
theorem dX4_group_244 : decode cX4_group 244 = .ok (.iconst 0, 1) := by decide +kernel
theorem dX4_group_245 : decode cX4_group 245 = .ok (.istore 5, 2) := by decide +kernel
theorem dX4_group_247 : decode cX4_group 247 = .ok (.iload 5, 2) := by decide +kernel
theorem dX4_group_249 : decode cX4_group 249 = .ok (.iload_n 3, 1) := by decide +kernel
theorem dX4_group_250 : decode cX4_group 250 = .ok (.if_icmp .ge 65, 3) := by decide +kernel
theorem dX4_group_253 : decode cX4_group 253 = .ok (.aload_n 0, 1) := by decide +kernel
theorem dX4_group_254 : decode cX4_group 254 = .ok (.getfield 53, 3) := by decide +kernel
theorem dX4_group_257 : decode cX4_group 257 = .ok (.iload 5, 2) := by decide +kernel
theorem dX4_group_259 : decode cX4_group 259 = .ok (.aload_n 0, 1) := by decide +kernel
theorem dX4_group_260 : decode cX4_group 260 = .ok (.getfield 68, 3) := by decide +kernel
theorem dX4_group_263 : decode cX4_group 263 = .ok (.iload 5, 2) := by decide +kernel
theorem dX4_group_265 : decode cX4_group 265 = .ok (.laload, 1) := by decide +kernel
theorem dX4_group_266 : decode cX4_group 266 = .ok (.lastore, 1) := by decide +kernel
theorem dX4_group_267 : decode cX4_group 267 = .ok (.aload_n 0, 1) := by decide +kernel
theorem dX4_group_268 : decode cX4_group 268 = .ok (.getfield 56, 3) := by decide +kernel
theorem dX4_group_271 : decode cX4_group 271 = .ok (.iload 5, 2) := by decide +kernel
theorem dX4_group_273 : decode cX4_group 273 = .ok (.aload_n 0, 1) := by decide +kernel
theorem dX4_group_274 : decode cX4_group 274 = .ok (.getfield 71, 3) := by decide +kernel
theorem dX4_group_277 : decode cX4_group 277 = .ok (.iload 5, 2) := by decide +kernel
theorem dX4_group_279 : decode cX4_group 279 = .ok (.iaload, 1) := by decide +kernel
theorem dX4_group_280 : decode cX4_group 280 = .ok (.iastore, 1) := by decide +kernel
theorem dX4_group_281 : decode cX4_group 281 = .ok (.aload_n 0, 1) := by decide +kernel
theorem dX4_group_282 : decode cX4_group 282 = .ok (.getfield 59, 3) := by decide +kernel
theorem dX4_group_285 : decode cX4_group 285 = .ok (.iload 5, 2) := by decide +kernel
theorem dX4_group_287 : decode cX4_group 287 = .ok (.aload_n 0, 1) := by decide +kernel
theorem dX4_group_288 : decode cX4_group 288 = .ok (.getfield 74, 3) := by decide +kernel
theorem dX4_group_291 : decode cX4_group 291 = .ok (.iload 5, 2) := by decide +kernel
theorem dX4_group_293 : decode cX4_group 293 = .ok (.laload, 1) := by decide +kernel
theorem dX4_group_294 : decode cX4_group 294 = .ok (.lastore, 1) := by decide +kernel
theorem dX4_group_295 : decode cX4_group 295 = .ok (.aload_n 0, 1) := by decide +kernel
theorem dX4_group_296 : decode cX4_group 296 = .ok (.getfield 62, 3) := by decide +kernel
theorem dX4_group_299 : decode cX4_group 299 = .ok (.iload 5, 2) := by decide +kernel
theorem dX4_group_301 : decode cX4_group 301 = .ok (.aload_n 0, 1) := by decide +kernel
theorem dX4_group_302 : decode cX4_group 302 = .ok (.getfield 77, 3) := by decide +kernel
theorem dX4_group_305 : decode cX4_group 305 = .ok (.iload 5, 2) := by decide +kernel
theorem dX4_group_307 : decode cX4_group 307 = .ok (.iaload, 1) := by decide +kernel
theorem dX4_group_308 : decode cX4_group 308 = .ok (.iastore, 1) := by decide +kernel
theorem dX4_group_309 : decode cX4_group 309 = .ok (.iinc 5 1, 3) := by decide +kernel
theorem dX4_group_312 : decode cX4_group 312 = .ok (.goto (-65), 3) := by decide +kernel
theorem dX4_group_315 : decode cX4_group 315 = .ok (.aload_n 0, 1) := by decide +kernel
theorem dX4_group_316 : decode cX4_group 316 = .ok (.iload_n 3, 1) := by decide +kernel
theorem dX4_group_317 : decode cX4_group 317 = .ok (.invokevirtual 168, 3) := by decide +kernel
theorem dX4_group_320 : decode cX4_group 320 = .ok (.ireturn, 1) := by decide +kernel
theorem dX4_answer_0 : decode cX4_answer 0 = .ok (.aload_n 0, 1) := by decide +kernel
theorem dX4_answer_1 : decode cX4_answer 1 = .ok (.getfield 172, 3) := by decide +kernel
theorem dX4_answer_4 : decode cX4_answer 4 = .ok (.lreturn, 1) := by decide +kernel
theorem dX4_list_0 : decode cX4_list 0 = .ok (.iload_n 1, 1) := by decide +kernel
theorem dX4_list_1 : decode cX4_list 1 = .ok (.iconst 0, 1) := by decide +kernel
theorem dX4_list_2 : decode cX4_list 2 = .ok (.aload_n 0, 1) := by decide +kernel
theorem dX4_list_3 : decode cX4_list 3 = .ok (.getfield 88, 3) := by decide +kernel
theorem dX4_list_6 : decode cX4_list 6 = .ok (.iconst 1, 1) := by decide +kernel
theorem dX4_list_7 : decode cX4_list 7 = .ok (.isub, 1) := by decide +kernel
theorem dX4_list_8 : decode cX4_list 8 = .ok (.invokestatic 84, 3) := by decide +kernel
theorem dX4_list_11 : decode cX4_list 11 = .ok (.ifCond .eq 12, 3) := by decide +kernel
theorem dX4_list_14 : decode cX4_list 14 = .ok (.aload_n 0, 1) := by decide +kernel
theorem dX4_list_15 : decode cX4_list 15 = .ok (.getfield 16, 3) := by decide +kernel
theorem dX4_list_18 : decode cX4_list 18 = .ok (.iload_n 1, 1) := by decide +kernel
theorem dX4_list_19 : decode cX4_list 19 = .ok (.iaload, 1) := by decide +kernel
theorem dX4_list_20 : decode cX4_list 20 = .ok (.goto 4, 3) := by decide +kernel
theorem dX4_list_23 : decode cX4_list 23 = .ok (.iconst (-1), 1) := by decide +kernel
theorem dX4_list_24 : decode cX4_list 24 = .ok (.ireturn, 1) := by decide +kernel
theorem dX4_groups_0 : decode cX4_groups 0 = .ok (.iload_n 1, 1) := by decide +kernel
theorem dX4_groups_1 : decode cX4_groups 1 = .ok (.iconst 0, 1) := by decide +kernel
theorem dX4_groups_2 : decode cX4_groups 2 = .ok (.aload_n 0, 1) := by decide +kernel
theorem dX4_groups_3 : decode cX4_groups 3 = .ok (.getfield 175, 3) := by decide +kernel
theorem dX4_groups_6 : decode cX4_groups 6 = .ok (.iconst 1, 1) := by decide +kernel
theorem dX4_groups_7 : decode cX4_groups 7 = .ok (.isub, 1) := by decide +kernel
theorem dX4_groups_8 : decode cX4_groups 8 = .ok (.invokestatic 84, 3) := by decide +kernel
theorem dX4_groups_11 : decode cX4_groups 11 = .ok (.ifCond .ne 5, 3) := by decide +kernel
theorem dX4_groups_14 : decode cX4_groups 14 = .ok (.lconst 0, 1) := by decide +kernel
theorem dX4_groups_15 : decode cX4_groups 15 = .ok (.lreturn, 1) := by decide +kernel
theorem dX4_groups_16 : decode cX4_groups 16 = .ok (.iload_n 2, 1) := by decide +kernel
theorem dX4_groups_17 : decode cX4_groups 17 = .ok (.ifCond .ne 12, 3) := by decide +kernel
theorem dX4_groups_20 : decode cX4_groups 20 = .ok (.aload_n 0, 1) := by decide +kernel
theorem dX4_groups_21 : decode cX4_groups 21 = .ok (.getfield 53, 3) := by decide +kernel
theorem dX4_groups_24 : decode cX4_groups 24 = .ok (.iload_n 1, 1) := by decide +kernel
theorem dX4_groups_25 : decode cX4_groups 25 = .ok (.laload, 1) := by decide +kernel
theorem dX4_groups_26 : decode cX4_groups 26 = .ok (.goto 48, 3) := by decide +kernel
theorem dX4_groups_29 : decode cX4_groups 29 = .ok (.iload_n 2, 1) := by decide +kernel
theorem dX4_groups_30 : decode cX4_groups 30 = .ok (.iconst 1, 1) := by decide +kernel
theorem dX4_groups_31 : decode cX4_groups 31 = .ok (.if_icmp .ne 13, 3) := by decide +kernel
theorem dX4_groups_34 : decode cX4_groups 34 = .ok (.aload_n 0, 1) := by decide +kernel
theorem dX4_groups_35 : decode cX4_groups 35 = .ok (.getfield 56, 3) := by decide +kernel
theorem dX4_groups_38 : decode cX4_groups 38 = .ok (.iload_n 1, 1) := by decide +kernel
theorem dX4_groups_39 : decode cX4_groups 39 = .ok (.iaload, 1) := by decide +kernel
theorem dX4_groups_40 : decode cX4_groups 40 = .ok (.i2l, 1) := by decide +kernel
theorem dX4_groups_41 : decode cX4_groups 41 = .ok (.goto 33, 3) := by decide +kernel
theorem dX4_groups_44 : decode cX4_groups 44 = .ok (.iload_n 2, 1) := by decide +kernel
theorem dX4_groups_45 : decode cX4_groups 45 = .ok (.iconst 2, 1) := by decide +kernel
theorem dX4_groups_46 : decode cX4_groups 46 = .ok (.if_icmp .ne 12, 3) := by decide +kernel
theorem dX4_groups_49 : decode cX4_groups 49 = .ok (.aload_n 0, 1) := by decide +kernel
theorem dX4_groups_50 : decode cX4_groups 50 = .ok (.getfield 59, 3) := by decide +kernel
theorem dX4_groups_53 : decode cX4_groups 53 = .ok (.iload_n 1, 1) := by decide +kernel
theorem dX4_groups_54 : decode cX4_groups 54 = .ok (.laload, 1) := by decide +kernel
theorem dX4_groups_55 : decode cX4_groups 55 = .ok (.goto 19, 3) := by decide +kernel
theorem dX4_groups_58 : decode cX4_groups 58 = .ok (.iload_n 2, 1) := by decide +kernel
theorem dX4_groups_59 : decode cX4_groups 59 = .ok (.iconst 3, 1) := by decide +kernel
theorem dX4_groups_60 : decode cX4_groups 60 = .ok (.if_icmp .ne 13, 3) := by decide +kernel
theorem dX4_groups_63 : decode cX4_groups 63 = .ok (.aload_n 0, 1) := by decide +kernel
theorem dX4_groups_64 : decode cX4_groups 64 = .ok (.getfield 62, 3) := by decide +kernel
theorem dX4_groups_67 : decode cX4_groups 67 = .ok (.iload_n 1, 1) := by decide +kernel
theorem dX4_groups_68 : decode cX4_groups 68 = .ok (.iaload, 1) := by decide +kernel
theorem dX4_groups_69 : decode cX4_groups 69 = .ok (.i2l, 1) := by decide +kernel
theorem dX4_groups_70 : decode cX4_groups 70 = .ok (.goto 4, 3) := by decide +kernel
theorem dX4_groups_73 : decode cX4_groups 73 = .ok (.lconst 0, 1) := by decide +kernel
theorem dX4_groups_74 : decode cX4_groups 74 = .ok (.lreturn, 1) := by decide +kernel
theorem dX4_count_0 : decode cX4_count 0 = .ok (.iload_n 1, 1) := by decide +kernel
theorem dX4_count_1 : decode cX4_count 1 = .ok (.tableswitch 108 0 10 #[59, 64, 64, 64, 73, 78, 83, 88, 93, 98, 103], 59) := by decide +kernel
theorem dX4_count_60 : decode cX4_count 60 = .ok (.aload_n 0, 1) := by decide +kernel
theorem dX4_count_61 : decode cX4_count 61 = .ok (.getfield 80, 3) := by decide +kernel
theorem dX4_count_64 : decode cX4_count 64 = .ok (.ireturn, 1) := by decide +kernel
theorem dX4_count_65 : decode cX4_count 65 = .ok (.aload_n 0, 1) := by decide +kernel
theorem dX4_count_66 : decode cX4_count 66 = .ok (.getfield 20, 3) := by decide +kernel
theorem dX4_count_69 : decode cX4_count 69 = .ok (.iload_n 1, 1) := by decide +kernel
theorem dX4_count_70 : decode cX4_count 70 = .ok (.iconst 1, 1) := by decide +kernel
theorem dX4_count_71 : decode cX4_count 71 = .ok (.isub, 1) := by decide +kernel
theorem dX4_count_72 : decode cX4_count 72 = .ok (.iaload, 1) := by decide +kernel
theorem dX4_count_73 : decode cX4_count 73 = .ok (.ireturn, 1) := by decide +kernel
theorem dX4_count_74 : decode cX4_count 74 = .ok (.aload_n 0, 1) := by decide +kernel
theorem dX4_count_75 : decode cX4_count 75 = .ok (.getfield 88, 3) := by decide +kernel
theorem dX4_count_78 : decode cX4_count 78 = .ok (.ireturn, 1) := by decide +kernel
theorem dX4_count_79 : decode cX4_count 79 = .ok (.aload_n 0, 1) := by decide +kernel
theorem dX4_count_80 : decode cX4_count 80 = .ok (.getfield 175, 3) := by decide +kernel
theorem dX4_count_83 : decode cX4_count 83 = .ok (.ireturn, 1) := by decide +kernel
theorem dX4_count_84 : decode cX4_count 84 = .ok (.aload_n 0, 1) := by decide +kernel
theorem dX4_count_85 : decode cX4_count 85 = .ok (.getfield 144, 3) := by decide +kernel
theorem dX4_count_88 : decode cX4_count 88 = .ok (.ireturn, 1) := by decide +kernel
theorem dX4_count_89 : decode cX4_count 89 = .ok (.aload_n 0, 1) := by decide +kernel
theorem dX4_count_90 : decode cX4_count 90 = .ok (.getfield 101, 3) := by decide +kernel
theorem dX4_count_93 : decode cX4_count 93 = .ok (.ireturn, 1) := by decide +kernel
theorem dX4_count_94 : decode cX4_count 94 = .ok (.aload_n 0, 1) := by decide +kernel
theorem dX4_count_95 : decode cX4_count 95 = .ok (.getfield 127, 3) := by decide +kernel
theorem dX4_count_98 : decode cX4_count 98 = .ok (.ireturn, 1) := by decide +kernel
theorem dX4_count_99 : decode cX4_count 99 = .ok (.aload_n 0, 1) := by decide +kernel
theorem dX4_count_100 : decode cX4_count 100 = .ok (.getfield 147, 3) := by decide +kernel
theorem dX4_count_103 : decode cX4_count 103 = .ok (.ireturn, 1) := by decide +kernel
theorem dX4_count_104 : decode cX4_count 104 = .ok (.aload_n 0, 1) := by decide +kernel
theorem dX4_count_105 : decode cX4_count 105 = .ok (.getfield 150, 3) := by decide +kernel
theorem dX4_count_108 : decode cX4_count 108 = .ok (.ireturn, 1) := by decide +kernel
theorem dX4_count_109 : decode cX4_count 109 = .ok (.iconst (-1), 1) := by decide +kernel
theorem dX4_count_110 : decode cX4_count 110 = .ok (.ireturn, 1) := by decide +kernel
end
section
theorem dL_law_0 : decode cL_law 0 = .ok (.new 7, 3) := by decide +kernel
theorem dL_law_3 : decode cL_law 3 = .ok (.dup, 1) := by decide +kernel
theorem dL_law_4 : decode cL_law 4 = .ok (.invokespecial 9, 3) := by decide +kernel
theorem dL_law_7 : decode cL_law 7 = .ok (.astore_n 1, 1) := by decide +kernel
theorem dL_law_8 : decode cL_law 8 = .ok (.new 10, 3) := by decide +kernel
theorem dL_law_11 : decode cL_law 11 = .ok (.dup, 1) := by decide +kernel
theorem dL_law_12 : decode cL_law 12 = .ok (.invokespecial 12, 3) := by decide +kernel
theorem dL_law_15 : decode cL_law 15 = .ok (.astore_n 2, 1) := by decide +kernel
theorem dL_law_16 : decode cL_law 16 = .ok (.iconst 0, 1) := by decide +kernel
theorem dL_law_17 : decode cL_law 17 = .ok (.istore_n 3, 1) := by decide +kernel
theorem dL_law_18 : decode cL_law 18 = .ok (.iload_n 3, 1) := by decide +kernel
theorem dL_law_19 : decode cL_law 19 = .ok (.aload_n 0, 1) := by decide +kernel
theorem dL_law_20 : decode cL_law 20 = .ok (.arraylength, 1) := by decide +kernel
theorem dL_law_21 : decode cL_law 21 = .ok (.bipush 7, 2) := by decide +kernel
theorem dL_law_23 : decode cL_law 23 = .ok (.isub, 1) := by decide +kernel
theorem dL_law_24 : decode cL_law 24 = .ok (.if_icmp .gt 774, 3) := by decide +kernel
theorem dL_law_27 : decode cL_law 27 = .ok (.aload_n 0, 1) := by decide +kernel
theorem dL_law_28 : decode cL_law 28 = .ok (.iload_n 3, 1) := by decide +kernel
theorem dL_law_29 : decode cL_law 29 = .ok (.iaload, 1) := by decide +kernel
theorem dL_law_30 : decode cL_law 30 = .ok (.bipush 31, 2) := by decide +kernel
theorem dL_law_32 : decode cL_law 32 = .ok (.iand, 1) := by decide +kernel
theorem dL_law_33 : decode cL_law 33 = .ok (.tableswitch 759 0 16 #[83, 218, 291, 325, 388, 431, 474, 517, 530, 563, 586, 609, 632, 665, 679, 702, 736], 83) := by decide +kernel
theorem dL_law_116 : decode cL_law 116 = .ok (.aload_n 1, 1) := by decide +kernel
theorem dL_law_117 : decode cL_law 117 = .ok (.aload_n 0, 1) := by decide +kernel
theorem dL_law_118 : decode cL_law 118 = .ok (.iload_n 3, 1) := by decide +kernel
theorem dL_law_119 : decode cL_law 119 = .ok (.iconst 1, 1) := by decide +kernel
theorem dL_law_120 : decode cL_law 120 = .ok (.iadd, 1) := by decide +kernel
theorem dL_law_121 : decode cL_law 121 = .ok (.iaload, 1) := by decide +kernel
theorem dL_law_122 : decode cL_law 122 = .ok (.i2l, 1) := by decide +kernel
theorem dL_law_123 : decode cL_law 123 = .ok (.bipush 32, 2) := by decide +kernel
theorem dL_law_125 : decode cL_law 125 = .ok (.lshl, 1) := by decide +kernel
theorem dL_law_126 : decode cL_law 126 = .ok (.aload_n 0, 1) := by decide +kernel
theorem dL_law_127 : decode cL_law 127 = .ok (.iload_n 3, 1) := by decide +kernel
theorem dL_law_128 : decode cL_law 128 = .ok (.iconst 2, 1) := by decide +kernel
theorem dL_law_129 : decode cL_law 129 = .ok (.iadd, 1) := by decide +kernel
theorem dL_law_130 : decode cL_law 130 = .ok (.iaload, 1) := by decide +kernel
theorem dL_law_131 : decode cL_law 131 = .ok (.i2l, 1) := by decide +kernel
theorem dL_law_132 : decode cL_law 132 = .ok (.ldc2_w 13, 3) := by decide +kernel
theorem dL_law_135 : decode cL_law 135 = .ok (.land, 1) := by decide +kernel
theorem dL_law_136 : decode cL_law 136 = .ok (.lor, 1) := by decide +kernel
theorem dL_law_137 : decode cL_law 137 = .ok (.aload_n 0, 1) := by decide +kernel
theorem dL_law_138 : decode cL_law 138 = .ok (.iload_n 3, 1) := by decide +kernel
theorem dL_law_139 : decode cL_law 139 = .ok (.iconst 3, 1) := by decide +kernel
theorem dL_law_140 : decode cL_law 140 = .ok (.iadd, 1) := by decide +kernel
theorem dL_law_141 : decode cL_law 141 = .ok (.iaload, 1) := by decide +kernel
theorem dL_law_142 : decode cL_law 142 = .ok (.i2l, 1) := by decide +kernel
theorem dL_law_143 : decode cL_law 143 = .ok (.bipush 32, 2) := by decide +kernel
theorem dL_law_145 : decode cL_law 145 = .ok (.lshl, 1) := by decide +kernel
theorem dL_law_146 : decode cL_law 146 = .ok (.aload_n 0, 1) := by decide +kernel
theorem dL_law_147 : decode cL_law 147 = .ok (.iload_n 3, 1) := by decide +kernel
theorem dL_law_148 : decode cL_law 148 = .ok (.iconst 4, 1) := by decide +kernel
theorem dL_law_149 : decode cL_law 149 = .ok (.iadd, 1) := by decide +kernel
theorem dL_law_150 : decode cL_law 150 = .ok (.iaload, 1) := by decide +kernel
theorem dL_law_151 : decode cL_law 151 = .ok (.i2l, 1) := by decide +kernel
theorem dL_law_152 : decode cL_law 152 = .ok (.ldc2_w 13, 3) := by decide +kernel
theorem dL_law_155 : decode cL_law 155 = .ok (.land, 1) := by decide +kernel
theorem dL_law_156 : decode cL_law 156 = .ok (.lor, 1) := by decide +kernel
theorem dL_law_157 : decode cL_law 157 = .ok (.aload_n 0, 1) := by decide +kernel
theorem dL_law_158 : decode cL_law 158 = .ok (.iload_n 3, 1) := by decide +kernel
theorem dL_law_159 : decode cL_law 159 = .ok (.iconst 5, 1) := by decide +kernel
theorem dL_law_160 : decode cL_law 160 = .ok (.iadd, 1) := by decide +kernel
theorem dL_law_161 : decode cL_law 161 = .ok (.iaload, 1) := by decide +kernel
theorem dL_law_162 : decode cL_law 162 = .ok (.i2l, 1) := by decide +kernel
theorem dL_law_163 : decode cL_law 163 = .ok (.bipush 32, 2) := by decide +kernel
theorem dL_law_165 : decode cL_law 165 = .ok (.lshl, 1) := by decide +kernel
theorem dL_law_166 : decode cL_law 166 = .ok (.aload_n 0, 1) := by decide +kernel
theorem dL_law_167 : decode cL_law 167 = .ok (.iload_n 3, 1) := by decide +kernel
theorem dL_law_168 : decode cL_law 168 = .ok (.bipush 6, 2) := by decide +kernel
theorem dL_law_170 : decode cL_law 170 = .ok (.iadd, 1) := by decide +kernel
theorem dL_law_171 : decode cL_law 171 = .ok (.iaload, 1) := by decide +kernel
theorem dL_law_172 : decode cL_law 172 = .ok (.i2l, 1) := by decide +kernel
theorem dL_law_173 : decode cL_law 173 = .ok (.ldc2_w 13, 3) := by decide +kernel
theorem dL_law_176 : decode cL_law 176 = .ok (.land, 1) := by decide +kernel
theorem dL_law_177 : decode cL_law 177 = .ok (.lor, 1) := by decide +kernel
theorem dL_law_178 : decode cL_law 178 = .ok (.invokevirtual 15, 3) := by decide +kernel
theorem dL_law_181 : decode cL_law 181 = .ok (.aload_n 2, 1) := by decide +kernel
theorem dL_law_182 : decode cL_law 182 = .ok (.aload_n 0, 1) := by decide +kernel
theorem dL_law_183 : decode cL_law 183 = .ok (.iload_n 3, 1) := by decide +kernel
theorem dL_law_184 : decode cL_law 184 = .ok (.iconst 1, 1) := by decide +kernel
theorem dL_law_185 : decode cL_law 185 = .ok (.iadd, 1) := by decide +kernel
theorem dL_law_186 : decode cL_law 186 = .ok (.iaload, 1) := by decide +kernel
theorem dL_law_187 : decode cL_law 187 = .ok (.i2l, 1) := by decide +kernel
theorem dL_law_188 : decode cL_law 188 = .ok (.bipush 32, 2) := by decide +kernel
theorem dL_law_190 : decode cL_law 190 = .ok (.lshl, 1) := by decide +kernel
theorem dL_law_191 : decode cL_law 191 = .ok (.aload_n 0, 1) := by decide +kernel
theorem dL_law_192 : decode cL_law 192 = .ok (.iload_n 3, 1) := by decide +kernel
theorem dL_law_193 : decode cL_law 193 = .ok (.iconst 2, 1) := by decide +kernel
theorem dL_law_194 : decode cL_law 194 = .ok (.iadd, 1) := by decide +kernel
theorem dL_law_195 : decode cL_law 195 = .ok (.iaload, 1) := by decide +kernel
theorem dL_law_196 : decode cL_law 196 = .ok (.i2l, 1) := by decide +kernel
theorem dL_law_197 : decode cL_law 197 = .ok (.ldc2_w 13, 3) := by decide +kernel
theorem dL_law_200 : decode cL_law 200 = .ok (.land, 1) := by decide +kernel
theorem dL_law_201 : decode cL_law 201 = .ok (.lor, 1) := by decide +kernel
theorem dL_law_202 : decode cL_law 202 = .ok (.aload_n 0, 1) := by decide +kernel
theorem dL_law_203 : decode cL_law 203 = .ok (.iload_n 3, 1) := by decide +kernel
theorem dL_law_204 : decode cL_law 204 = .ok (.iconst 3, 1) := by decide +kernel
theorem dL_law_205 : decode cL_law 205 = .ok (.iadd, 1) := by decide +kernel
theorem dL_law_206 : decode cL_law 206 = .ok (.iaload, 1) := by decide +kernel
theorem dL_law_207 : decode cL_law 207 = .ok (.i2l, 1) := by decide +kernel
theorem dL_law_208 : decode cL_law 208 = .ok (.bipush 32, 2) := by decide +kernel
theorem dL_law_210 : decode cL_law 210 = .ok (.lshl, 1) := by decide +kernel
theorem dL_law_211 : decode cL_law 211 = .ok (.aload_n 0, 1) := by decide +kernel
theorem dL_law_212 : decode cL_law 212 = .ok (.iload_n 3, 1) := by decide +kernel
theorem dL_law_213 : decode cL_law 213 = .ok (.iconst 4, 1) := by decide +kernel
theorem dL_law_214 : decode cL_law 214 = .ok (.iadd, 1) := by decide +kernel
theorem dL_law_215 : decode cL_law 215 = .ok (.iaload, 1) := by decide +kernel
theorem dL_law_216 : decode cL_law 216 = .ok (.i2l, 1) := by decide +kernel
theorem dL_law_217 : decode cL_law 217 = .ok (.ldc2_w 13, 3) := by decide +kernel
theorem dL_law_220 : decode cL_law 220 = .ok (.land, 1) := by decide +kernel
theorem dL_law_221 : decode cL_law 221 = .ok (.lor, 1) := by decide +kernel
theorem dL_law_222 : decode cL_law 222 = .ok (.aload_n 0, 1) := by decide +kernel
theorem dL_law_223 : decode cL_law 223 = .ok (.iload_n 3, 1) := by decide +kernel
theorem dL_law_224 : decode cL_law 224 = .ok (.iconst 5, 1) := by decide +kernel
theorem dL_law_225 : decode cL_law 225 = .ok (.iadd, 1) := by decide +kernel
theorem dL_law_226 : decode cL_law 226 = .ok (.iaload, 1) := by decide +kernel
theorem dL_law_227 : decode cL_law 227 = .ok (.i2l, 1) := by decide +kernel
theorem dL_law_228 : decode cL_law 228 = .ok (.bipush 32, 2) := by decide +kernel
theorem dL_law_230 : decode cL_law 230 = .ok (.lshl, 1) := by decide +kernel
theorem dL_law_231 : decode cL_law 231 = .ok (.aload_n 0, 1) := by decide +kernel
theorem dL_law_232 : decode cL_law 232 = .ok (.iload_n 3, 1) := by decide +kernel
theorem dL_law_233 : decode cL_law 233 = .ok (.bipush 6, 2) := by decide +kernel
theorem dL_law_235 : decode cL_law 235 = .ok (.iadd, 1) := by decide +kernel
theorem dL_law_236 : decode cL_law 236 = .ok (.iaload, 1) := by decide +kernel
theorem dL_law_237 : decode cL_law 237 = .ok (.i2l, 1) := by decide +kernel
theorem dL_law_238 : decode cL_law 238 = .ok (.ldc2_w 13, 3) := by decide +kernel
theorem dL_law_241 : decode cL_law 241 = .ok (.land, 1) := by decide +kernel
theorem dL_law_242 : decode cL_law 242 = .ok (.lor, 1) := by decide +kernel
theorem dL_law_243 : decode cL_law 243 = .ok (.invokevirtual 19, 3) := by decide +kernel
theorem dL_law_246 : decode cL_law 246 = .ok (.if_icmp .eq 546, 3) := by decide +kernel
theorem dL_law_249 : decode cL_law 249 = .ok (.iconst 0, 1) := by decide +kernel
theorem dL_law_250 : decode cL_law 250 = .ok (.ireturn, 1) := by decide +kernel
theorem dL_law_251 : decode cL_law 251 = .ok (.aload_n 1, 1) := by decide +kernel
theorem dL_law_252 : decode cL_law 252 = .ok (.aload_n 0, 1) := by decide +kernel
theorem dL_law_253 : decode cL_law 253 = .ok (.iload_n 3, 1) := by decide +kernel
theorem dL_law_254 : decode cL_law 254 = .ok (.iconst 1, 1) := by decide +kernel
theorem dL_law_255 : decode cL_law 255 = .ok (.iadd, 1) := by decide +kernel
theorem dL_law_256 : decode cL_law 256 = .ok (.iaload, 1) := by decide +kernel
theorem dL_law_257 : decode cL_law 257 = .ok (.aload_n 0, 1) := by decide +kernel
theorem dL_law_258 : decode cL_law 258 = .ok (.iload_n 3, 1) := by decide +kernel
theorem dL_law_259 : decode cL_law 259 = .ok (.iconst 2, 1) := by decide +kernel
theorem dL_law_260 : decode cL_law 260 = .ok (.iadd, 1) := by decide +kernel
theorem dL_law_261 : decode cL_law 261 = .ok (.iaload, 1) := by decide +kernel
theorem dL_law_262 : decode cL_law 262 = .ok (.aload_n 0, 1) := by decide +kernel
theorem dL_law_263 : decode cL_law 263 = .ok (.iload_n 3, 1) := by decide +kernel
theorem dL_law_264 : decode cL_law 264 = .ok (.iconst 3, 1) := by decide +kernel
theorem dL_law_265 : decode cL_law 265 = .ok (.iadd, 1) := by decide +kernel
theorem dL_law_266 : decode cL_law 266 = .ok (.iaload, 1) := by decide +kernel
theorem dL_law_267 : decode cL_law 267 = .ok (.i2l, 1) := by decide +kernel
theorem dL_law_268 : decode cL_law 268 = .ok (.bipush 32, 2) := by decide +kernel
theorem dL_law_270 : decode cL_law 270 = .ok (.lshl, 1) := by decide +kernel
theorem dL_law_271 : decode cL_law 271 = .ok (.aload_n 0, 1) := by decide +kernel
theorem dL_law_272 : decode cL_law 272 = .ok (.iload_n 3, 1) := by decide +kernel
theorem dL_law_273 : decode cL_law 273 = .ok (.iconst 4, 1) := by decide +kernel
theorem dL_law_274 : decode cL_law 274 = .ok (.iadd, 1) := by decide +kernel
theorem dL_law_275 : decode cL_law 275 = .ok (.iaload, 1) := by decide +kernel
theorem dL_law_276 : decode cL_law 276 = .ok (.i2l, 1) := by decide +kernel
theorem dL_law_277 : decode cL_law 277 = .ok (.ldc2_w 13, 3) := by decide +kernel
theorem dL_law_280 : decode cL_law 280 = .ok (.land, 1) := by decide +kernel
theorem dL_law_281 : decode cL_law 281 = .ok (.lor, 1) := by decide +kernel
theorem dL_law_282 : decode cL_law 282 = .ok (.invokevirtual 20, 3) := by decide +kernel
theorem dL_law_285 : decode cL_law 285 = .ok (.aload_n 2, 1) := by decide +kernel
theorem dL_law_286 : decode cL_law 286 = .ok (.aload_n 0, 1) := by decide +kernel
theorem dL_law_287 : decode cL_law 287 = .ok (.iload_n 3, 1) := by decide +kernel
theorem dL_law_288 : decode cL_law 288 = .ok (.iconst 1, 1) := by decide +kernel
theorem dL_law_289 : decode cL_law 289 = .ok (.iadd, 1) := by decide +kernel
theorem dL_law_290 : decode cL_law 290 = .ok (.iaload, 1) := by decide +kernel
theorem dL_law_291 : decode cL_law 291 = .ok (.aload_n 0, 1) := by decide +kernel
theorem dL_law_292 : decode cL_law 292 = .ok (.iload_n 3, 1) := by decide +kernel
theorem dL_law_293 : decode cL_law 293 = .ok (.iconst 2, 1) := by decide +kernel
theorem dL_law_294 : decode cL_law 294 = .ok (.iadd, 1) := by decide +kernel
theorem dL_law_295 : decode cL_law 295 = .ok (.iaload, 1) := by decide +kernel
theorem dL_law_296 : decode cL_law 296 = .ok (.aload_n 0, 1) := by decide +kernel
theorem dL_law_297 : decode cL_law 297 = .ok (.iload_n 3, 1) := by decide +kernel
theorem dL_law_298 : decode cL_law 298 = .ok (.iconst 3, 1) := by decide +kernel
theorem dL_law_299 : decode cL_law 299 = .ok (.iadd, 1) := by decide +kernel
theorem dL_law_300 : decode cL_law 300 = .ok (.iaload, 1) := by decide +kernel
theorem dL_law_301 : decode cL_law 301 = .ok (.i2l, 1) := by decide +kernel
theorem dL_law_302 : decode cL_law 302 = .ok (.bipush 32, 2) := by decide +kernel
theorem dL_law_304 : decode cL_law 304 = .ok (.lshl, 1) := by decide +kernel
theorem dL_law_305 : decode cL_law 305 = .ok (.aload_n 0, 1) := by decide +kernel
theorem dL_law_306 : decode cL_law 306 = .ok (.iload_n 3, 1) := by decide +kernel
theorem dL_law_307 : decode cL_law 307 = .ok (.iconst 4, 1) := by decide +kernel
theorem dL_law_308 : decode cL_law 308 = .ok (.iadd, 1) := by decide +kernel
theorem dL_law_309 : decode cL_law 309 = .ok (.iaload, 1) := by decide +kernel
theorem dL_law_310 : decode cL_law 310 = .ok (.i2l, 1) := by decide +kernel
theorem dL_law_311 : decode cL_law 311 = .ok (.ldc2_w 13, 3) := by decide +kernel
theorem dL_law_314 : decode cL_law 314 = .ok (.land, 1) := by decide +kernel
theorem dL_law_315 : decode cL_law 315 = .ok (.lor, 1) := by decide +kernel
theorem dL_law_316 : decode cL_law 316 = .ok (.invokevirtual 24, 3) := by decide +kernel
theorem dL_law_319 : decode cL_law 319 = .ok (.if_icmp .eq 473, 3) := by decide +kernel
theorem dL_law_322 : decode cL_law 322 = .ok (.iconst 0, 1) := by decide +kernel
theorem dL_law_323 : decode cL_law 323 = .ok (.ireturn, 1) := by decide +kernel
theorem dL_law_324 : decode cL_law 324 = .ok (.aload_n 1, 1) := by decide +kernel
theorem dL_law_325 : decode cL_law 325 = .ok (.aload_n 0, 1) := by decide +kernel
theorem dL_law_326 : decode cL_law 326 = .ok (.iload_n 3, 1) := by decide +kernel
theorem dL_law_327 : decode cL_law 327 = .ok (.iconst 1, 1) := by decide +kernel
theorem dL_law_328 : decode cL_law 328 = .ok (.iadd, 1) := by decide +kernel
theorem dL_law_329 : decode cL_law 329 = .ok (.iaload, 1) := by decide +kernel
theorem dL_law_330 : decode cL_law 330 = .ok (.aload_n 0, 1) := by decide +kernel
theorem dL_law_331 : decode cL_law 331 = .ok (.iload_n 3, 1) := by decide +kernel
theorem dL_law_332 : decode cL_law 332 = .ok (.iconst 2, 1) := by decide +kernel
theorem dL_law_333 : decode cL_law 333 = .ok (.iadd, 1) := by decide +kernel
theorem dL_law_334 : decode cL_law 334 = .ok (.iaload, 1) := by decide +kernel
theorem dL_law_335 : decode cL_law 335 = .ok (.invokevirtual 25, 3) := by decide +kernel
theorem dL_law_338 : decode cL_law 338 = .ok (.aload_n 2, 1) := by decide +kernel
theorem dL_law_339 : decode cL_law 339 = .ok (.aload_n 0, 1) := by decide +kernel
theorem dL_law_340 : decode cL_law 340 = .ok (.iload_n 3, 1) := by decide +kernel
theorem dL_law_341 : decode cL_law 341 = .ok (.iconst 1, 1) := by decide +kernel
theorem dL_law_342 : decode cL_law 342 = .ok (.iadd, 1) := by decide +kernel
theorem dL_law_343 : decode cL_law 343 = .ok (.iaload, 1) := by decide +kernel
theorem dL_law_344 : decode cL_law 344 = .ok (.aload_n 0, 1) := by decide +kernel
theorem dL_law_345 : decode cL_law 345 = .ok (.iload_n 3, 1) := by decide +kernel
theorem dL_law_346 : decode cL_law 346 = .ok (.iconst 2, 1) := by decide +kernel
theorem dL_law_347 : decode cL_law 347 = .ok (.iadd, 1) := by decide +kernel
theorem dL_law_348 : decode cL_law 348 = .ok (.iaload, 1) := by decide +kernel
theorem dL_law_349 : decode cL_law 349 = .ok (.invokevirtual 29, 3) := by decide +kernel
theorem dL_law_352 : decode cL_law 352 = .ok (.lcmp, 1) := by decide +kernel
theorem dL_law_353 : decode cL_law 353 = .ok (.ifCond .eq 439, 3) := by decide +kernel
theorem dL_law_356 : decode cL_law 356 = .ok (.iconst 0, 1) := by decide +kernel
theorem dL_law_357 : decode cL_law 357 = .ok (.ireturn, 1) := by decide +kernel
theorem dL_law_358 : decode cL_law 358 = .ok (.aload_n 1, 1) := by decide +kernel
theorem dL_law_359 : decode cL_law 359 = .ok (.aload_n 0, 1) := by decide +kernel
theorem dL_law_360 : decode cL_law 360 = .ok (.iload_n 3, 1) := by decide +kernel
theorem dL_law_361 : decode cL_law 361 = .ok (.iconst 1, 1) := by decide +kernel
theorem dL_law_362 : decode cL_law 362 = .ok (.iadd, 1) := by decide +kernel
theorem dL_law_363 : decode cL_law 363 = .ok (.iaload, 1) := by decide +kernel
theorem dL_law_364 : decode cL_law 364 = .ok (.aload_n 0, 1) := by decide +kernel
theorem dL_law_365 : decode cL_law 365 = .ok (.iload_n 3, 1) := by decide +kernel
theorem dL_law_366 : decode cL_law 366 = .ok (.iconst 2, 1) := by decide +kernel
theorem dL_law_367 : decode cL_law 367 = .ok (.iadd, 1) := by decide +kernel
theorem dL_law_368 : decode cL_law 368 = .ok (.iaload, 1) := by decide +kernel
theorem dL_law_369 : decode cL_law 369 = .ok (.i2l, 1) := by decide +kernel
theorem dL_law_370 : decode cL_law 370 = .ok (.bipush 32, 2) := by decide +kernel
theorem dL_law_372 : decode cL_law 372 = .ok (.lshl, 1) := by decide +kernel
theorem dL_law_373 : decode cL_law 373 = .ok (.aload_n 0, 1) := by decide +kernel
theorem dL_law_374 : decode cL_law 374 = .ok (.iload_n 3, 1) := by decide +kernel
theorem dL_law_375 : decode cL_law 375 = .ok (.iconst 3, 1) := by decide +kernel
theorem dL_law_376 : decode cL_law 376 = .ok (.iadd, 1) := by decide +kernel
theorem dL_law_377 : decode cL_law 377 = .ok (.iaload, 1) := by decide +kernel
theorem dL_law_378 : decode cL_law 378 = .ok (.i2l, 1) := by decide +kernel
theorem dL_law_379 : decode cL_law 379 = .ok (.ldc2_w 13, 3) := by decide +kernel
theorem dL_law_382 : decode cL_law 382 = .ok (.land, 1) := by decide +kernel
theorem dL_law_383 : decode cL_law 383 = .ok (.lor, 1) := by decide +kernel
theorem dL_law_384 : decode cL_law 384 = .ok (.invokevirtual 30, 3) := by decide +kernel
theorem dL_law_387 : decode cL_law 387 = .ok (.aload_n 2, 1) := by decide +kernel
theorem dL_law_388 : decode cL_law 388 = .ok (.aload_n 0, 1) := by decide +kernel
theorem dL_law_389 : decode cL_law 389 = .ok (.iload_n 3, 1) := by decide +kernel
theorem dL_law_390 : decode cL_law 390 = .ok (.iconst 1, 1) := by decide +kernel
theorem dL_law_391 : decode cL_law 391 = .ok (.iadd, 1) := by decide +kernel
theorem dL_law_392 : decode cL_law 392 = .ok (.iaload, 1) := by decide +kernel
theorem dL_law_393 : decode cL_law 393 = .ok (.aload_n 0, 1) := by decide +kernel
theorem dL_law_394 : decode cL_law 394 = .ok (.iload_n 3, 1) := by decide +kernel
theorem dL_law_395 : decode cL_law 395 = .ok (.iconst 2, 1) := by decide +kernel
theorem dL_law_396 : decode cL_law 396 = .ok (.iadd, 1) := by decide +kernel
theorem dL_law_397 : decode cL_law 397 = .ok (.iaload, 1) := by decide +kernel
theorem dL_law_398 : decode cL_law 398 = .ok (.i2l, 1) := by decide +kernel
theorem dL_law_399 : decode cL_law 399 = .ok (.bipush 32, 2) := by decide +kernel
theorem dL_law_401 : decode cL_law 401 = .ok (.lshl, 1) := by decide +kernel
theorem dL_law_402 : decode cL_law 402 = .ok (.aload_n 0, 1) := by decide +kernel
theorem dL_law_403 : decode cL_law 403 = .ok (.iload_n 3, 1) := by decide +kernel
theorem dL_law_404 : decode cL_law 404 = .ok (.iconst 3, 1) := by decide +kernel
theorem dL_law_405 : decode cL_law 405 = .ok (.iadd, 1) := by decide +kernel
theorem dL_law_406 : decode cL_law 406 = .ok (.iaload, 1) := by decide +kernel
theorem dL_law_407 : decode cL_law 407 = .ok (.i2l, 1) := by decide +kernel
theorem dL_law_408 : decode cL_law 408 = .ok (.ldc2_w 13, 3) := by decide +kernel
theorem dL_law_411 : decode cL_law 411 = .ok (.land, 1) := by decide +kernel
theorem dL_law_412 : decode cL_law 412 = .ok (.lor, 1) := by decide +kernel
theorem dL_law_413 : decode cL_law 413 = .ok (.invokevirtual 34, 3) := by decide +kernel
theorem dL_law_416 : decode cL_law 416 = .ok (.if_icmp .eq 376, 3) := by decide +kernel
theorem dL_law_419 : decode cL_law 419 = .ok (.iconst 0, 1) := by decide +kernel
theorem dL_law_420 : decode cL_law 420 = .ok (.ireturn, 1) := by decide +kernel
theorem dL_law_421 : decode cL_law 421 = .ok (.aload_n 1, 1) := by decide +kernel
theorem dL_law_422 : decode cL_law 422 = .ok (.aload_n 0, 1) := by decide +kernel
theorem dL_law_423 : decode cL_law 423 = .ok (.iload_n 3, 1) := by decide +kernel
theorem dL_law_424 : decode cL_law 424 = .ok (.iconst 1, 1) := by decide +kernel
theorem dL_law_425 : decode cL_law 425 = .ok (.iadd, 1) := by decide +kernel
theorem dL_law_426 : decode cL_law 426 = .ok (.iaload, 1) := by decide +kernel
theorem dL_law_427 : decode cL_law 427 = .ok (.aload_n 0, 1) := by decide +kernel
theorem dL_law_428 : decode cL_law 428 = .ok (.iload_n 3, 1) := by decide +kernel
theorem dL_law_429 : decode cL_law 429 = .ok (.iconst 2, 1) := by decide +kernel
theorem dL_law_430 : decode cL_law 430 = .ok (.iadd, 1) := by decide +kernel
theorem dL_law_431 : decode cL_law 431 = .ok (.iaload, 1) := by decide +kernel
theorem dL_law_432 : decode cL_law 432 = .ok (.aload_n 0, 1) := by decide +kernel
theorem dL_law_433 : decode cL_law 433 = .ok (.iload_n 3, 1) := by decide +kernel
theorem dL_law_434 : decode cL_law 434 = .ok (.iconst 3, 1) := by decide +kernel
theorem dL_law_435 : decode cL_law 435 = .ok (.iadd, 1) := by decide +kernel
theorem dL_law_436 : decode cL_law 436 = .ok (.iaload, 1) := by decide +kernel
theorem dL_law_437 : decode cL_law 437 = .ok (.invokevirtual 35, 3) := by decide +kernel
theorem dL_law_440 : decode cL_law 440 = .ok (.aload_n 2, 1) := by decide +kernel
theorem dL_law_441 : decode cL_law 441 = .ok (.aload_n 0, 1) := by decide +kernel
theorem dL_law_442 : decode cL_law 442 = .ok (.iload_n 3, 1) := by decide +kernel
theorem dL_law_443 : decode cL_law 443 = .ok (.iconst 1, 1) := by decide +kernel
theorem dL_law_444 : decode cL_law 444 = .ok (.iadd, 1) := by decide +kernel
theorem dL_law_445 : decode cL_law 445 = .ok (.iaload, 1) := by decide +kernel
theorem dL_law_446 : decode cL_law 446 = .ok (.aload_n 0, 1) := by decide +kernel
theorem dL_law_447 : decode cL_law 447 = .ok (.iload_n 3, 1) := by decide +kernel
theorem dL_law_448 : decode cL_law 448 = .ok (.iconst 2, 1) := by decide +kernel
theorem dL_law_449 : decode cL_law 449 = .ok (.iadd, 1) := by decide +kernel
theorem dL_law_450 : decode cL_law 450 = .ok (.iaload, 1) := by decide +kernel
theorem dL_law_451 : decode cL_law 451 = .ok (.aload_n 0, 1) := by decide +kernel
theorem dL_law_452 : decode cL_law 452 = .ok (.iload_n 3, 1) := by decide +kernel
theorem dL_law_453 : decode cL_law 453 = .ok (.iconst 3, 1) := by decide +kernel
theorem dL_law_454 : decode cL_law 454 = .ok (.iadd, 1) := by decide +kernel
theorem dL_law_455 : decode cL_law 455 = .ok (.iaload, 1) := by decide +kernel
theorem dL_law_456 : decode cL_law 456 = .ok (.invokevirtual 39, 3) := by decide +kernel
theorem dL_law_459 : decode cL_law 459 = .ok (.if_icmp .eq 333, 3) := by decide +kernel
theorem dL_law_462 : decode cL_law 462 = .ok (.iconst 0, 1) := by decide +kernel
theorem dL_law_463 : decode cL_law 463 = .ok (.ireturn, 1) := by decide +kernel
theorem dL_law_464 : decode cL_law 464 = .ok (.aload_n 1, 1) := by decide +kernel
theorem dL_law_465 : decode cL_law 465 = .ok (.aload_n 0, 1) := by decide +kernel
theorem dL_law_466 : decode cL_law 466 = .ok (.iload_n 3, 1) := by decide +kernel
theorem dL_law_467 : decode cL_law 467 = .ok (.iconst 1, 1) := by decide +kernel
theorem dL_law_468 : decode cL_law 468 = .ok (.iadd, 1) := by decide +kernel
theorem dL_law_469 : decode cL_law 469 = .ok (.iaload, 1) := by decide +kernel
theorem dL_law_470 : decode cL_law 470 = .ok (.aload_n 0, 1) := by decide +kernel
theorem dL_law_471 : decode cL_law 471 = .ok (.iload_n 3, 1) := by decide +kernel
theorem dL_law_472 : decode cL_law 472 = .ok (.iconst 2, 1) := by decide +kernel
theorem dL_law_473 : decode cL_law 473 = .ok (.iadd, 1) := by decide +kernel
theorem dL_law_474 : decode cL_law 474 = .ok (.iaload, 1) := by decide +kernel
theorem dL_law_475 : decode cL_law 475 = .ok (.aload_n 0, 1) := by decide +kernel
theorem dL_law_476 : decode cL_law 476 = .ok (.iload_n 3, 1) := by decide +kernel
theorem dL_law_477 : decode cL_law 477 = .ok (.iconst 3, 1) := by decide +kernel
theorem dL_law_478 : decode cL_law 478 = .ok (.iadd, 1) := by decide +kernel
theorem dL_law_479 : decode cL_law 479 = .ok (.iaload, 1) := by decide +kernel
theorem dL_law_480 : decode cL_law 480 = .ok (.invokevirtual 40, 3) := by decide +kernel
theorem dL_law_483 : decode cL_law 483 = .ok (.aload_n 2, 1) := by decide +kernel
theorem dL_law_484 : decode cL_law 484 = .ok (.aload_n 0, 1) := by decide +kernel
theorem dL_law_485 : decode cL_law 485 = .ok (.iload_n 3, 1) := by decide +kernel
theorem dL_law_486 : decode cL_law 486 = .ok (.iconst 1, 1) := by decide +kernel
theorem dL_law_487 : decode cL_law 487 = .ok (.iadd, 1) := by decide +kernel
theorem dL_law_488 : decode cL_law 488 = .ok (.iaload, 1) := by decide +kernel
theorem dL_law_489 : decode cL_law 489 = .ok (.aload_n 0, 1) := by decide +kernel
theorem dL_law_490 : decode cL_law 490 = .ok (.iload_n 3, 1) := by decide +kernel
theorem dL_law_491 : decode cL_law 491 = .ok (.iconst 2, 1) := by decide +kernel
theorem dL_law_492 : decode cL_law 492 = .ok (.iadd, 1) := by decide +kernel
theorem dL_law_493 : decode cL_law 493 = .ok (.iaload, 1) := by decide +kernel
theorem dL_law_494 : decode cL_law 494 = .ok (.aload_n 0, 1) := by decide +kernel
theorem dL_law_495 : decode cL_law 495 = .ok (.iload_n 3, 1) := by decide +kernel
theorem dL_law_496 : decode cL_law 496 = .ok (.iconst 3, 1) := by decide +kernel
theorem dL_law_497 : decode cL_law 497 = .ok (.iadd, 1) := by decide +kernel
theorem dL_law_498 : decode cL_law 498 = .ok (.iaload, 1) := by decide +kernel
theorem dL_law_499 : decode cL_law 499 = .ok (.invokevirtual 43, 3) := by decide +kernel
theorem dL_law_502 : decode cL_law 502 = .ok (.if_icmp .eq 290, 3) := by decide +kernel
theorem dL_law_505 : decode cL_law 505 = .ok (.iconst 0, 1) := by decide +kernel
theorem dL_law_506 : decode cL_law 506 = .ok (.ireturn, 1) := by decide +kernel
theorem dL_law_507 : decode cL_law 507 = .ok (.aload_n 1, 1) := by decide +kernel
theorem dL_law_508 : decode cL_law 508 = .ok (.aload_n 0, 1) := by decide +kernel
theorem dL_law_509 : decode cL_law 509 = .ok (.iload_n 3, 1) := by decide +kernel
theorem dL_law_510 : decode cL_law 510 = .ok (.iconst 1, 1) := by decide +kernel
theorem dL_law_511 : decode cL_law 511 = .ok (.iadd, 1) := by decide +kernel
theorem dL_law_512 : decode cL_law 512 = .ok (.iaload, 1) := by decide +kernel
theorem dL_law_513 : decode cL_law 513 = .ok (.aload_n 0, 1) := by decide +kernel
theorem dL_law_514 : decode cL_law 514 = .ok (.iload_n 3, 1) := by decide +kernel
theorem dL_law_515 : decode cL_law 515 = .ok (.iconst 2, 1) := by decide +kernel
theorem dL_law_516 : decode cL_law 516 = .ok (.iadd, 1) := by decide +kernel
theorem dL_law_517 : decode cL_law 517 = .ok (.iaload, 1) := by decide +kernel
theorem dL_law_518 : decode cL_law 518 = .ok (.aload_n 0, 1) := by decide +kernel
theorem dL_law_519 : decode cL_law 519 = .ok (.iload_n 3, 1) := by decide +kernel
theorem dL_law_520 : decode cL_law 520 = .ok (.iconst 3, 1) := by decide +kernel
theorem dL_law_521 : decode cL_law 521 = .ok (.iadd, 1) := by decide +kernel
theorem dL_law_522 : decode cL_law 522 = .ok (.iaload, 1) := by decide +kernel
theorem dL_law_523 : decode cL_law 523 = .ok (.invokevirtual 44, 3) := by decide +kernel
theorem dL_law_526 : decode cL_law 526 = .ok (.aload_n 2, 1) := by decide +kernel
theorem dL_law_527 : decode cL_law 527 = .ok (.aload_n 0, 1) := by decide +kernel
theorem dL_law_528 : decode cL_law 528 = .ok (.iload_n 3, 1) := by decide +kernel
theorem dL_law_529 : decode cL_law 529 = .ok (.iconst 1, 1) := by decide +kernel
theorem dL_law_530 : decode cL_law 530 = .ok (.iadd, 1) := by decide +kernel
theorem dL_law_531 : decode cL_law 531 = .ok (.iaload, 1) := by decide +kernel
theorem dL_law_532 : decode cL_law 532 = .ok (.aload_n 0, 1) := by decide +kernel
theorem dL_law_533 : decode cL_law 533 = .ok (.iload_n 3, 1) := by decide +kernel
theorem dL_law_534 : decode cL_law 534 = .ok (.iconst 2, 1) := by decide +kernel
theorem dL_law_535 : decode cL_law 535 = .ok (.iadd, 1) := by decide +kernel
theorem dL_law_536 : decode cL_law 536 = .ok (.iaload, 1) := by decide +kernel
theorem dL_law_537 : decode cL_law 537 = .ok (.aload_n 0, 1) := by decide +kernel
theorem dL_law_538 : decode cL_law 538 = .ok (.iload_n 3, 1) := by decide +kernel
theorem dL_law_539 : decode cL_law 539 = .ok (.iconst 3, 1) := by decide +kernel
theorem dL_law_540 : decode cL_law 540 = .ok (.iadd, 1) := by decide +kernel
theorem dL_law_541 : decode cL_law 541 = .ok (.iaload, 1) := by decide +kernel
theorem dL_law_542 : decode cL_law 542 = .ok (.invokevirtual 47, 3) := by decide +kernel
theorem dL_law_545 : decode cL_law 545 = .ok (.if_icmp .eq 247, 3) := by decide +kernel
theorem dL_law_548 : decode cL_law 548 = .ok (.iconst 0, 1) := by decide +kernel
theorem dL_law_549 : decode cL_law 549 = .ok (.ireturn, 1) := by decide +kernel
theorem dL_law_550 : decode cL_law 550 = .ok (.aload_n 1, 1) := by decide +kernel
theorem dL_law_551 : decode cL_law 551 = .ok (.invokevirtual 48, 3) := by decide +kernel
theorem dL_law_554 : decode cL_law 554 = .ok (.aload_n 2, 1) := by decide +kernel
theorem dL_law_555 : decode cL_law 555 = .ok (.invokevirtual 52, 3) := by decide +kernel
theorem dL_law_558 : decode cL_law 558 = .ok (.if_icmp .eq 234, 3) := by decide +kernel
theorem dL_law_561 : decode cL_law 561 = .ok (.iconst 0, 1) := by decide +kernel
theorem dL_law_562 : decode cL_law 562 = .ok (.ireturn, 1) := by decide +kernel
theorem dL_law_563 : decode cL_law 563 = .ok (.aload_n 1, 1) := by decide +kernel
theorem dL_law_564 : decode cL_law 564 = .ok (.aload_n 0, 1) := by decide +kernel
theorem dL_law_565 : decode cL_law 565 = .ok (.iload_n 3, 1) := by decide +kernel
theorem dL_law_566 : decode cL_law 566 = .ok (.iconst 1, 1) := by decide +kernel
theorem dL_law_567 : decode cL_law 567 = .ok (.iadd, 1) := by decide +kernel
theorem dL_law_568 : decode cL_law 568 = .ok (.iaload, 1) := by decide +kernel
theorem dL_law_569 : decode cL_law 569 = .ok (.aload_n 0, 1) := by decide +kernel
theorem dL_law_570 : decode cL_law 570 = .ok (.iload_n 3, 1) := by decide +kernel
theorem dL_law_571 : decode cL_law 571 = .ok (.iconst 2, 1) := by decide +kernel
theorem dL_law_572 : decode cL_law 572 = .ok (.iadd, 1) := by decide +kernel
theorem dL_law_573 : decode cL_law 573 = .ok (.iaload, 1) := by decide +kernel
theorem dL_law_574 : decode cL_law 574 = .ok (.invokevirtual 53, 3) := by decide +kernel
theorem dL_law_577 : decode cL_law 577 = .ok (.aload_n 2, 1) := by decide +kernel
theorem dL_law_578 : decode cL_law 578 = .ok (.aload_n 0, 1) := by decide +kernel
theorem dL_law_579 : decode cL_law 579 = .ok (.iload_n 3, 1) := by decide +kernel
theorem dL_law_580 : decode cL_law 580 = .ok (.iconst 1, 1) := by decide +kernel
theorem dL_law_581 : decode cL_law 581 = .ok (.iadd, 1) := by decide +kernel
theorem dL_law_582 : decode cL_law 582 = .ok (.iaload, 1) := by decide +kernel
theorem dL_law_583 : decode cL_law 583 = .ok (.aload_n 0, 1) := by decide +kernel
theorem dL_law_584 : decode cL_law 584 = .ok (.iload_n 3, 1) := by decide +kernel
theorem dL_law_585 : decode cL_law 585 = .ok (.iconst 2, 1) := by decide +kernel
theorem dL_law_586 : decode cL_law 586 = .ok (.iadd, 1) := by decide +kernel
theorem dL_law_587 : decode cL_law 587 = .ok (.iaload, 1) := by decide +kernel
theorem dL_law_588 : decode cL_law 588 = .ok (.invokevirtual 57, 3) := by decide +kernel
theorem dL_law_591 : decode cL_law 591 = .ok (.if_icmp .eq 201, 3) := by decide +kernel
theorem dL_law_594 : decode cL_law 594 = .ok (.iconst 0, 1) := by decide +kernel
theorem dL_law_595 : decode cL_law 595 = .ok (.ireturn, 1) := by decide +kernel
theorem dL_law_596 : decode cL_law 596 = .ok (.aload_n 1, 1) := by decide +kernel
theorem dL_law_597 : decode cL_law 597 = .ok (.aload_n 0, 1) := by decide +kernel
theorem dL_law_598 : decode cL_law 598 = .ok (.iload_n 3, 1) := by decide +kernel
theorem dL_law_599 : decode cL_law 599 = .ok (.iconst 1, 1) := by decide +kernel
theorem dL_law_600 : decode cL_law 600 = .ok (.iadd, 1) := by decide +kernel
theorem dL_law_601 : decode cL_law 601 = .ok (.iaload, 1) := by decide +kernel
theorem dL_law_602 : decode cL_law 602 = .ok (.invokevirtual 58, 3) := by decide +kernel
theorem dL_law_605 : decode cL_law 605 = .ok (.aload_n 2, 1) := by decide +kernel
theorem dL_law_606 : decode cL_law 606 = .ok (.aload_n 0, 1) := by decide +kernel
theorem dL_law_607 : decode cL_law 607 = .ok (.iload_n 3, 1) := by decide +kernel
theorem dL_law_608 : decode cL_law 608 = .ok (.iconst 1, 1) := by decide +kernel
theorem dL_law_609 : decode cL_law 609 = .ok (.iadd, 1) := by decide +kernel
theorem dL_law_610 : decode cL_law 610 = .ok (.iaload, 1) := by decide +kernel
theorem dL_law_611 : decode cL_law 611 = .ok (.invokevirtual 62, 3) := by decide +kernel
theorem dL_law_614 : decode cL_law 614 = .ok (.if_icmp .eq 178, 3) := by decide +kernel
theorem dL_law_617 : decode cL_law 617 = .ok (.iconst 0, 1) := by decide +kernel
theorem dL_law_618 : decode cL_law 618 = .ok (.ireturn, 1) := by decide +kernel
theorem dL_law_619 : decode cL_law 619 = .ok (.aload_n 1, 1) := by decide +kernel
theorem dL_law_620 : decode cL_law 620 = .ok (.aload_n 0, 1) := by decide +kernel
theorem dL_law_621 : decode cL_law 621 = .ok (.iload_n 3, 1) := by decide +kernel
theorem dL_law_622 : decode cL_law 622 = .ok (.iconst 1, 1) := by decide +kernel
theorem dL_law_623 : decode cL_law 623 = .ok (.iadd, 1) := by decide +kernel
theorem dL_law_624 : decode cL_law 624 = .ok (.iaload, 1) := by decide +kernel
theorem dL_law_625 : decode cL_law 625 = .ok (.invokevirtual 63, 3) := by decide +kernel
theorem dL_law_628 : decode cL_law 628 = .ok (.aload_n 2, 1) := by decide +kernel
theorem dL_law_629 : decode cL_law 629 = .ok (.aload_n 0, 1) := by decide +kernel
theorem dL_law_630 : decode cL_law 630 = .ok (.iload_n 3, 1) := by decide +kernel
theorem dL_law_631 : decode cL_law 631 = .ok (.iconst 1, 1) := by decide +kernel
theorem dL_law_632 : decode cL_law 632 = .ok (.iadd, 1) := by decide +kernel
theorem dL_law_633 : decode cL_law 633 = .ok (.iaload, 1) := by decide +kernel
theorem dL_law_634 : decode cL_law 634 = .ok (.invokevirtual 66, 3) := by decide +kernel
theorem dL_law_637 : decode cL_law 637 = .ok (.if_icmp .eq 155, 3) := by decide +kernel
theorem dL_law_640 : decode cL_law 640 = .ok (.iconst 0, 1) := by decide +kernel
theorem dL_law_641 : decode cL_law 641 = .ok (.ireturn, 1) := by decide +kernel
theorem dL_law_642 : decode cL_law 642 = .ok (.aload_n 1, 1) := by decide +kernel
theorem dL_law_643 : decode cL_law 643 = .ok (.aload_n 0, 1) := by decide +kernel
theorem dL_law_644 : decode cL_law 644 = .ok (.iload_n 3, 1) := by decide +kernel
theorem dL_law_645 : decode cL_law 645 = .ok (.iconst 1, 1) := by decide +kernel
theorem dL_law_646 : decode cL_law 646 = .ok (.iadd, 1) := by decide +kernel
theorem dL_law_647 : decode cL_law 647 = .ok (.iaload, 1) := by decide +kernel
theorem dL_law_648 : decode cL_law 648 = .ok (.invokevirtual 67, 3) := by decide +kernel
theorem dL_law_651 : decode cL_law 651 = .ok (.aload_n 2, 1) := by decide +kernel
theorem dL_law_652 : decode cL_law 652 = .ok (.aload_n 0, 1) := by decide +kernel
theorem dL_law_653 : decode cL_law 653 = .ok (.iload_n 3, 1) := by decide +kernel
theorem dL_law_654 : decode cL_law 654 = .ok (.iconst 1, 1) := by decide +kernel
theorem dL_law_655 : decode cL_law 655 = .ok (.iadd, 1) := by decide +kernel
theorem dL_law_656 : decode cL_law 656 = .ok (.iaload, 1) := by decide +kernel
theorem dL_law_657 : decode cL_law 657 = .ok (.invokevirtual 70, 3) := by decide +kernel
theorem dL_law_660 : decode cL_law 660 = .ok (.if_icmp .eq 132, 3) := by decide +kernel
theorem dL_law_663 : decode cL_law 663 = .ok (.iconst 0, 1) := by decide +kernel
theorem dL_law_664 : decode cL_law 664 = .ok (.ireturn, 1) := by decide +kernel
theorem dL_law_665 : decode cL_law 665 = .ok (.aload_n 1, 1) := by decide +kernel
theorem dL_law_666 : decode cL_law 666 = .ok (.aload_n 0, 1) := by decide +kernel
theorem dL_law_667 : decode cL_law 667 = .ok (.iload_n 3, 1) := by decide +kernel
theorem dL_law_668 : decode cL_law 668 = .ok (.iconst 1, 1) := by decide +kernel
theorem dL_law_669 : decode cL_law 669 = .ok (.iadd, 1) := by decide +kernel
theorem dL_law_670 : decode cL_law 670 = .ok (.iaload, 1) := by decide +kernel
theorem dL_law_671 : decode cL_law 671 = .ok (.aload_n 0, 1) := by decide +kernel
theorem dL_law_672 : decode cL_law 672 = .ok (.iload_n 3, 1) := by decide +kernel
theorem dL_law_673 : decode cL_law 673 = .ok (.iconst 2, 1) := by decide +kernel
theorem dL_law_674 : decode cL_law 674 = .ok (.iadd, 1) := by decide +kernel
theorem dL_law_675 : decode cL_law 675 = .ok (.iaload, 1) := by decide +kernel
theorem dL_law_676 : decode cL_law 676 = .ok (.invokevirtual 71, 3) := by decide +kernel
theorem dL_law_679 : decode cL_law 679 = .ok (.aload_n 2, 1) := by decide +kernel
theorem dL_law_680 : decode cL_law 680 = .ok (.aload_n 0, 1) := by decide +kernel
theorem dL_law_681 : decode cL_law 681 = .ok (.iload_n 3, 1) := by decide +kernel
theorem dL_law_682 : decode cL_law 682 = .ok (.iconst 1, 1) := by decide +kernel
theorem dL_law_683 : decode cL_law 683 = .ok (.iadd, 1) := by decide +kernel
theorem dL_law_684 : decode cL_law 684 = .ok (.iaload, 1) := by decide +kernel
theorem dL_law_685 : decode cL_law 685 = .ok (.aload_n 0, 1) := by decide +kernel
theorem dL_law_686 : decode cL_law 686 = .ok (.iload_n 3, 1) := by decide +kernel
theorem dL_law_687 : decode cL_law 687 = .ok (.iconst 2, 1) := by decide +kernel
theorem dL_law_688 : decode cL_law 688 = .ok (.iadd, 1) := by decide +kernel
theorem dL_law_689 : decode cL_law 689 = .ok (.iaload, 1) := by decide +kernel
theorem dL_law_690 : decode cL_law 690 = .ok (.invokevirtual 74, 3) := by decide +kernel
theorem dL_law_693 : decode cL_law 693 = .ok (.if_icmp .eq 99, 3) := by decide +kernel
theorem dL_law_696 : decode cL_law 696 = .ok (.iconst 0, 1) := by decide +kernel
theorem dL_law_697 : decode cL_law 697 = .ok (.ireturn, 1) := by decide +kernel
theorem dL_law_698 : decode cL_law 698 = .ok (.aload_n 1, 1) := by decide +kernel
theorem dL_law_699 : decode cL_law 699 = .ok (.invokevirtual 75, 3) := by decide +kernel
theorem dL_law_702 : decode cL_law 702 = .ok (.aload_n 2, 1) := by decide +kernel
theorem dL_law_703 : decode cL_law 703 = .ok (.invokevirtual 79, 3) := by decide +kernel
theorem dL_law_706 : decode cL_law 706 = .ok (.lcmp, 1) := by decide +kernel
theorem dL_law_707 : decode cL_law 707 = .ok (.ifCond .eq 85, 3) := by decide +kernel
theorem dL_law_710 : decode cL_law 710 = .ok (.iconst 0, 1) := by decide +kernel
theorem dL_law_711 : decode cL_law 711 = .ok (.ireturn, 1) := by decide +kernel
theorem dL_law_712 : decode cL_law 712 = .ok (.aload_n 1, 1) := by decide +kernel
theorem dL_law_713 : decode cL_law 713 = .ok (.aload_n 0, 1) := by decide +kernel
theorem dL_law_714 : decode cL_law 714 = .ok (.iload_n 3, 1) := by decide +kernel
theorem dL_law_715 : decode cL_law 715 = .ok (.iconst 1, 1) := by decide +kernel
theorem dL_law_716 : decode cL_law 716 = .ok (.iadd, 1) := by decide +kernel
theorem dL_law_717 : decode cL_law 717 = .ok (.iaload, 1) := by decide +kernel
theorem dL_law_718 : decode cL_law 718 = .ok (.invokevirtual 80, 3) := by decide +kernel
theorem dL_law_721 : decode cL_law 721 = .ok (.aload_n 2, 1) := by decide +kernel
theorem dL_law_722 : decode cL_law 722 = .ok (.aload_n 0, 1) := by decide +kernel
theorem dL_law_723 : decode cL_law 723 = .ok (.iload_n 3, 1) := by decide +kernel
theorem dL_law_724 : decode cL_law 724 = .ok (.iconst 1, 1) := by decide +kernel
theorem dL_law_725 : decode cL_law 725 = .ok (.iadd, 1) := by decide +kernel
theorem dL_law_726 : decode cL_law 726 = .ok (.iaload, 1) := by decide +kernel
theorem dL_law_727 : decode cL_law 727 = .ok (.invokevirtual 83, 3) := by decide +kernel
theorem dL_law_730 : decode cL_law 730 = .ok (.if_icmp .eq 62, 3) := by decide +kernel
theorem dL_law_733 : decode cL_law 733 = .ok (.iconst 0, 1) := by decide +kernel
theorem dL_law_734 : decode cL_law 734 = .ok (.ireturn, 1) := by decide +kernel
theorem dL_law_735 : decode cL_law 735 = .ok (.aload_n 1, 1) := by decide +kernel
theorem dL_law_736 : decode cL_law 736 = .ok (.aload_n 0, 1) := by decide +kernel
theorem dL_law_737 : decode cL_law 737 = .ok (.iload_n 3, 1) := by decide +kernel
theorem dL_law_738 : decode cL_law 738 = .ok (.iconst 1, 1) := by decide +kernel
theorem dL_law_739 : decode cL_law 739 = .ok (.iadd, 1) := by decide +kernel
theorem dL_law_740 : decode cL_law 740 = .ok (.iaload, 1) := by decide +kernel
theorem dL_law_741 : decode cL_law 741 = .ok (.aload_n 0, 1) := by decide +kernel
theorem dL_law_742 : decode cL_law 742 = .ok (.iload_n 3, 1) := by decide +kernel
theorem dL_law_743 : decode cL_law 743 = .ok (.iconst 2, 1) := by decide +kernel
theorem dL_law_744 : decode cL_law 744 = .ok (.iadd, 1) := by decide +kernel
theorem dL_law_745 : decode cL_law 745 = .ok (.iaload, 1) := by decide +kernel
theorem dL_law_746 : decode cL_law 746 = .ok (.invokevirtual 84, 3) := by decide +kernel
theorem dL_law_749 : decode cL_law 749 = .ok (.aload_n 2, 1) := by decide +kernel
theorem dL_law_750 : decode cL_law 750 = .ok (.aload_n 0, 1) := by decide +kernel
theorem dL_law_751 : decode cL_law 751 = .ok (.iload_n 3, 1) := by decide +kernel
theorem dL_law_752 : decode cL_law 752 = .ok (.iconst 1, 1) := by decide +kernel
theorem dL_law_753 : decode cL_law 753 = .ok (.iadd, 1) := by decide +kernel
theorem dL_law_754 : decode cL_law 754 = .ok (.iaload, 1) := by decide +kernel
theorem dL_law_755 : decode cL_law 755 = .ok (.aload_n 0, 1) := by decide +kernel
theorem dL_law_756 : decode cL_law 756 = .ok (.iload_n 3, 1) := by decide +kernel
theorem dL_law_757 : decode cL_law 757 = .ok (.iconst 2, 1) := by decide +kernel
theorem dL_law_758 : decode cL_law 758 = .ok (.iadd, 1) := by decide +kernel
theorem dL_law_759 : decode cL_law 759 = .ok (.iaload, 1) := by decide +kernel
theorem dL_law_760 : decode cL_law 760 = .ok (.invokevirtual 87, 3) := by decide +kernel
theorem dL_law_763 : decode cL_law 763 = .ok (.lcmp, 1) := by decide +kernel
theorem dL_law_764 : decode cL_law 764 = .ok (.ifCond .eq 28, 3) := by decide +kernel
theorem dL_law_767 : decode cL_law 767 = .ok (.iconst 0, 1) := by decide +kernel
theorem dL_law_768 : decode cL_law 768 = .ok (.ireturn, 1) := by decide +kernel
theorem dL_law_769 : decode cL_law 769 = .ok (.aload_n 1, 1) := by decide +kernel
theorem dL_law_770 : decode cL_law 770 = .ok (.aload_n 0, 1) := by decide +kernel
theorem dL_law_771 : decode cL_law 771 = .ok (.iload_n 3, 1) := by decide +kernel
theorem dL_law_772 : decode cL_law 772 = .ok (.iconst 1, 1) := by decide +kernel
theorem dL_law_773 : decode cL_law 773 = .ok (.iadd, 1) := by decide +kernel
theorem dL_law_774 : decode cL_law 774 = .ok (.iaload, 1) := by decide +kernel
theorem dL_law_775 : decode cL_law 775 = .ok (.invokevirtual 88, 3) := by decide +kernel
theorem dL_law_778 : decode cL_law 778 = .ok (.aload_n 2, 1) := by decide +kernel
theorem dL_law_779 : decode cL_law 779 = .ok (.aload_n 0, 1) := by decide +kernel
theorem dL_law_780 : decode cL_law 780 = .ok (.iload_n 3, 1) := by decide +kernel
theorem dL_law_781 : decode cL_law 781 = .ok (.iconst 1, 1) := by decide +kernel
theorem dL_law_782 : decode cL_law 782 = .ok (.iadd, 1) := by decide +kernel
theorem dL_law_783 : decode cL_law 783 = .ok (.iaload, 1) := by decide +kernel
theorem dL_law_784 : decode cL_law 784 = .ok (.invokevirtual 91, 3) := by decide +kernel
theorem dL_law_787 : decode cL_law 787 = .ok (.if_icmp .eq 5, 3) := by decide +kernel
theorem dL_law_790 : decode cL_law 790 = .ok (.iconst 0, 1) := by decide +kernel
theorem dL_law_791 : decode cL_law 791 = .ok (.ireturn, 1) := by decide +kernel
theorem dL_law_792 : decode cL_law 792 = .ok (.iinc 3 7, 3) := by decide +kernel
theorem dL_law_795 : decode cL_law 795 = .ok (.goto (-777), 3) := by decide +kernel
theorem dL_law_798 : decode cL_law 798 = .ok (.iconst 1, 1) := by decide +kernel
theorem dL_law_799 : decode cL_law 799 = .ok (.ireturn, 1) := by decide +kernel
end
section
/-! THE LAYER: zw_W: the machine stands at pc with locals lv, stack st, and the heap holds the world ws; a rule an instruction, over the kit's rows. -/
/-- the words that every method's contract asks for: the tables' words -/
def zw_tbl : List Cond := lw_tbl.filter goodWord
theorem zw_good : GoodIn zw_tbl zw_tbl := fun w h => ⟨h, good_of_word (List.mem_filter.mp h).2⟩
theorem zw_in1 {w : Cond} (i : Nat) (h : tables_1_1[i]? = some w) (hg : goodWord w = true) : w ∈ zw_tbl := List.mem_filter.mpr ⟨List.mem_append_right _ (List.mem_append_left _ (List.mem_of_getElem? h)), hg⟩
theorem zw_in2 {w : Cond} (i : Nat) (h : tables_1_2[i]? = some w) (hg : goodWord w = true) : w ∈ zw_tbl := List.mem_filter.mpr ⟨List.mem_append_right _ (List.mem_append_right _ (List.mem_append_left _ (List.mem_of_getElem? h))), hg⟩
theorem zw_in3 {w : Cond} (i : Nat) (h : tables_1_3[i]? = some w) (hg : goodWord w = true) : w ∈ zw_tbl := List.mem_filter.mpr ⟨List.mem_append_right _ (List.mem_append_right _ (List.mem_append_right _ (List.mem_of_getElem? h))), hg⟩
theorem zw_inS {w : Cond} (i : Nat) (h : (k2_sels lw_privs)[i]? = some w) (hg : goodWord w = true) : w ∈ zw_tbl := List.mem_filter.mpr ⟨List.mem_append_left _ (List.mem_of_getElem? h), hg⟩
/-- what is fixed in a walk -/
def zw_C (p : Program) (s : State) (m : MethodId) (args : Array Value) (c : Code) (D : va_G) (tys : List (ClassId × FieldType)) (A : Nat → Prop) (own : String) (cc : ByteArray) (nL : Nat) : Prop :=
  p.tables.exec = Jvm.exec ∧ c.code = cc ∧ c.maxLocals = nL ∧ s.vm.findClass own = some m.cls ∧ (∀ w ∈ zw_tbl, w.before args s = true) ∧ va_K D vwCl tys s ∧ (∀ q, s.heap.size ≤ q → A q)
def zw_W (p : Program) (l : Launch) (e : Env) (R : Room) (s : State) (m : MethodId) (args : Array Value) (below : List Frame) (meth : Method) (c : Code) (D : va_G) (A : Nat → Prop) (nL : Nat) (Q : State → Prop) (nc ns : Nat) (ws : va_W) (pc : Nat) (lv : List (Nat × Value)) (st : List Value) : Prop :=
  ∀ (H : Heap) (locs : List Loc) (ls : Array Slot), va_P D vwCl ws H → va_D A ws → va_S A s.heap H locs → lv_has ls nL lv → W p l e R s m args below meth c H locs nc ns Q (F0 m pc ls st)
section ZW
variable {p : Program} {l : Launch} {e : Env} {R : Room} {s : State} {m : MethodId} {args : Array Value} {below : List Frame} {meth : Method} {c : Code} {D : va_G} {tys : List (ClassId × FieldType)} {A : Nat → Prop} {own : String} {cc : ByteArray} {nL : Nat} {Q : State → Prop} {nc ns : Nat} {ws : va_W} {pc : Nat} {lv : List (Nat × Value)} {st : List Value}

theorem zw_iconst (C : zw_C p s m args c D tys A own cc nL) {n : Int} {v : Int32} (hd : decode cc pc = .ok (.iconst n, 1)) (hv : Int32.ofInt n = v) (k : zw_W p l e R s m args below meth c D A nL Q nc ns ws (pc + 1) lv (.int v :: st)) : zw_W p l e R s m args below meth c D A nL Q nc ns ws pc lv st := fun H locs ls hP hD hS hl => lv_iconst C.1 C.2.1 hd hv (k H locs ls hP hD hS hl)
theorem zw_bipush (C : zw_C p s m args c D tys A own cc nL) {n : Int} {v : Int32} (hd : decode cc pc = .ok (.bipush n, 2)) (hv : (Int8.ofInt n).toInt32 = v) (k : zw_W p l e R s m args below meth c D A nL Q nc ns ws (pc + 2) lv (.int v :: st)) : zw_W p l e R s m args below meth c D A nL Q nc ns ws pc lv st := fun H locs ls hP hD hS hl => lv_bipush C.1 C.2.1 hd hv (k H locs ls hP hD hS hl)
theorem zw_sipush (C : zw_C p s m args c D tys A own cc nL) {n : Int} {v : Int32} (hd : decode cc pc = .ok (.sipush n, 3)) (hv : (Int16.ofInt n).toInt32 = v) (k : zw_W p l e R s m args below meth c D A nL Q nc ns ws (pc + 3) lv (.int v :: st)) : zw_W p l e R s m args below meth c D A nL Q nc ns ws pc lv st := fun H locs ls hP hD hS hl => lv_sipush C.1 C.2.1 hd hv (k H locs ls hP hD hS hl)
theorem zw_lconst (C : zw_C p s m args c D tys A own cc nL) {n : Fin 2} {v : Int64} (hd : decode cc pc = .ok (.lconst n, 1)) (hv : Int64.ofNat (n : Nat) = v) (k : zw_W p l e R s m args below meth c D A nL Q nc ns ws (pc + 1) lv (.long v :: st)) : zw_W p l e R s m args below meth c D A nL Q nc ns ws pc lv st := fun H locs ls hP hD hS hl => lv_lconst C.1 C.2.1 hd hv (k H locs ls hP hD hS hl)
theorem zw_iload_n (C : zw_C p s m args c D tys A own cc nL) {q : Fin 4} {i : Nat} {x : Int32} (hd : decode cc pc = .ok (.iload_n q, 1)) (j : Nat) (hj : lv[j]? = some (i, .int x)) (hi : (q : Nat) = i) (k : zw_W p l e R s m args below meth c D A nL Q nc ns ws (pc + 1) lv (.int x :: st)) : zw_W p l e R s m args below meth c D A nL Q nc ns ws pc lv st := fun H locs ls hP hD hS hl => lv_iload_n C.1 C.2.1 hd hi (lv_at hl j hj) (k H locs ls hP hD hS hl)
theorem zw_iload (C : zw_C p s m args c D tys A own cc nL) {i : Nat} {x : Int32} (hd : decode cc pc = .ok (.iload i, 2)) (j : Nat) (hj : lv[j]? = some (i, .int x)) (k : zw_W p l e R s m args below meth c D A nL Q nc ns ws (pc + 2) lv (.int x :: st)) : zw_W p l e R s m args below meth c D A nL Q nc ns ws pc lv st := fun H locs ls hP hD hS hl => lv_iload C.1 C.2.1 hd (lv_at hl j hj) (k H locs ls hP hD hS hl)
theorem zw_istore_n (C : zw_C p s m args c D tys A own cc nL) {q : Fin 4} {i : Nat} {x : Int32} {lv2 : List (Nat × Value)} (hd : decode cc pc = .ok (.istore_n q, 1)) (hi : (q : Nat) = i) (hn : i < nL) (hl2 : (i, Value.int x) :: lv.filter (fun q => !(q.1 == i) && !(q.1 + 1 == i && q.2.category == 2)) = lv2) (k : zw_W p l e R s m args below meth c D A nL Q nc ns ws (pc + 1) lv2 st) : zw_W p l e R s m args below meth c D A nL Q nc ns ws pc lv (.int x :: st) := fun H locs ls hP hD hS hl => lv_istore_n C.1 C.2.1 hd hi hl hn hl2 (fun ls2 hl3 => k H locs ls2 hP hD hS hl3)
theorem zw_istore (C : zw_C p s m args c D tys A own cc nL) {i : Nat} {x : Int32} {lv2 : List (Nat × Value)} (hd : decode cc pc = .ok (.istore i, 2)) (hn : i < nL) (hl2 : (i, Value.int x) :: lv.filter (fun q => !(q.1 == i) && !(q.1 + 1 == i && q.2.category == 2)) = lv2) (k : zw_W p l e R s m args below meth c D A nL Q nc ns ws (pc + 2) lv2 st) : zw_W p l e R s m args below meth c D A nL Q nc ns ws pc lv (.int x :: st) := fun H locs ls hP hD hS hl => lv_istore C.1 C.2.1 hd hl hn hl2 (fun ls2 hl3 => k H locs ls2 hP hD hS hl3)
theorem zw_lload_n (C : zw_C p s m args c D tys A own cc nL) {q : Fin 4} {i : Nat} {x : Int64} (hd : decode cc pc = .ok (.lload_n q, 1)) (j : Nat) (hj : lv[j]? = some (i, .long x)) (hi : (q : Nat) = i) (k : zw_W p l e R s m args below meth c D A nL Q nc ns ws (pc + 1) lv (.long x :: st)) : zw_W p l e R s m args below meth c D A nL Q nc ns ws pc lv st := fun H locs ls hP hD hS hl => lv_lload_n C.1 C.2.1 hd hi (lv_at hl j hj) (k H locs ls hP hD hS hl)
theorem zw_lload (C : zw_C p s m args c D tys A own cc nL) {i : Nat} {x : Int64} (hd : decode cc pc = .ok (.lload i, 2)) (j : Nat) (hj : lv[j]? = some (i, .long x)) (k : zw_W p l e R s m args below meth c D A nL Q nc ns ws (pc + 2) lv (.long x :: st)) : zw_W p l e R s m args below meth c D A nL Q nc ns ws pc lv st := fun H locs ls hP hD hS hl => lv_lload C.1 C.2.1 hd (lv_at hl j hj) (k H locs ls hP hD hS hl)
theorem zw_lstore_n (C : zw_C p s m args c D tys A own cc nL) {q : Fin 4} {i : Nat} {x : Int64} {lv2 : List (Nat × Value)} (hd : decode cc pc = .ok (.lstore_n q, 1)) (hi : (q : Nat) = i) (hn : i + 1 < nL) (hl2 : (i, Value.long x) :: lv.filter (fun q => !(q.1 == i) && (!(q.1 == i + 1) && !(q.1 + 1 == i && q.2.category == 2))) = lv2) (k : zw_W p l e R s m args below meth c D A nL Q nc ns ws (pc + 1) lv2 st) : zw_W p l e R s m args below meth c D A nL Q nc ns ws pc lv (.long x :: st) := fun H locs ls hP hD hS hl => lv_lstore_n C.1 C.2.1 hd hi hl hn hl2 (fun ls2 hl3 => k H locs ls2 hP hD hS hl3)
theorem zw_lstore (C : zw_C p s m args c D tys A own cc nL) {i : Nat} {x : Int64} {lv2 : List (Nat × Value)} (hd : decode cc pc = .ok (.lstore i, 2)) (hn : i + 1 < nL) (hl2 : (i, Value.long x) :: lv.filter (fun q => !(q.1 == i) && (!(q.1 == i + 1) && !(q.1 + 1 == i && q.2.category == 2))) = lv2) (k : zw_W p l e R s m args below meth c D A nL Q nc ns ws (pc + 2) lv2 st) : zw_W p l e R s m args below meth c D A nL Q nc ns ws pc lv (.long x :: st) := fun H locs ls hP hD hS hl => lv_lstore C.1 C.2.1 hd hl hn hl2 (fun ls2 hl3 => k H locs ls2 hP hD hS hl3)
theorem zw_aload_n (C : zw_C p s m args c D tys A own cc nL) {q : Fin 4} {i : Nat} {x : Nat} (hd : decode cc pc = .ok (.aload_n q, 1)) (j : Nat) (hj : lv[j]? = some (i, .ref x)) (hi : (q : Nat) = i) (k : zw_W p l e R s m args below meth c D A nL Q nc ns ws (pc + 1) lv (.ref x :: st)) : zw_W p l e R s m args below meth c D A nL Q nc ns ws pc lv st := fun H locs ls hP hD hS hl => lv_aload_n C.1 C.2.1 hd hi (lv_at hl j hj) (k H locs ls hP hD hS hl)
theorem zw_aload (C : zw_C p s m args c D tys A own cc nL) {i : Nat} {x : Nat} (hd : decode cc pc = .ok (.aload i, 2)) (j : Nat) (hj : lv[j]? = some (i, .ref x)) (k : zw_W p l e R s m args below meth c D A nL Q nc ns ws (pc + 2) lv (.ref x :: st)) : zw_W p l e R s m args below meth c D A nL Q nc ns ws pc lv st := fun H locs ls hP hD hS hl => lv_aload C.1 C.2.1 hd (lv_at hl j hj) (k H locs ls hP hD hS hl)
theorem zw_astore_n (C : zw_C p s m args c D tys A own cc nL) {q : Fin 4} {i : Nat} {x : Nat} {lv2 : List (Nat × Value)} (hd : decode cc pc = .ok (.astore_n q, 1)) (hi : (q : Nat) = i) (hn : i < nL) (hl2 : (i, Value.ref x) :: lv.filter (fun q => !(q.1 == i) && !(q.1 + 1 == i && q.2.category == 2)) = lv2) (k : zw_W p l e R s m args below meth c D A nL Q nc ns ws (pc + 1) lv2 st) : zw_W p l e R s m args below meth c D A nL Q nc ns ws pc lv (.ref x :: st) := fun H locs ls hP hD hS hl => lv_astore_n C.1 C.2.1 hd hi hl hn hl2 (fun ls2 hl3 => k H locs ls2 hP hD hS hl3)
theorem zw_astore (C : zw_C p s m args c D tys A own cc nL) {i : Nat} {x : Nat} {lv2 : List (Nat × Value)} (hd : decode cc pc = .ok (.astore i, 2)) (hn : i < nL) (hl2 : (i, Value.ref x) :: lv.filter (fun q => !(q.1 == i) && !(q.1 + 1 == i && q.2.category == 2)) = lv2) (k : zw_W p l e R s m args below meth c D A nL Q nc ns ws (pc + 2) lv2 st) : zw_W p l e R s m args below meth c D A nL Q nc ns ws pc lv (.ref x :: st) := fun H locs ls hP hD hS hl => lv_astore C.1 C.2.1 hd hl hn hl2 (fun ls2 hl3 => k H locs ls2 hP hD hS hl3)
theorem zw_iinc (C : zw_C p s m args c D tys A own cc nL) {i j : Nat} {n : Int} {x v : Int32} {lv2 : List (Nat × Value)} (hd : decode cc pc = .ok (.iinc i n, 3)) (hj : lv[j]? = some (i, .int x)) (hv : x + Int32.ofInt n = v) (hn : i < nL) (hl2 : (i, Value.int v) :: lv.filter (fun q => !(q.1 == i) && !(q.1 + 1 == i && q.2.category == 2)) = lv2) (k : zw_W p l e R s m args below meth c D A nL Q nc ns ws (pc + 3) lv2 st) : zw_W p l e R s m args below meth c D A nL Q nc ns ws pc lv st := fun H locs ls hP hD hS hl => lv_iinc C.1 C.2.1 hd hl hj hv hn hl2 (fun ls2 hl3 => k H locs ls2 hP hD hS hl3)
theorem zw_iadd (C : zw_C p s m args c D tys A own cc nL) {x y : Int32} (hd : decode cc pc = .ok (.iadd, 1)) (k : zw_W p l e R s m args below meth c D A nL Q nc ns ws (pc + 1) lv (.int (x + y) :: st)) : zw_W p l e R s m args below meth c D A nL Q nc ns ws pc lv (.int y :: .int x :: st) := fun H locs ls hP hD hS hl => lv_iadd C.1 C.2.1 hd (k H locs ls hP hD hS hl)
theorem zw_isub (C : zw_C p s m args c D tys A own cc nL) {x y : Int32} (hd : decode cc pc = .ok (.isub, 1)) (k : zw_W p l e R s m args below meth c D A nL Q nc ns ws (pc + 1) lv (.int (x - y) :: st)) : zw_W p l e R s m args below meth c D A nL Q nc ns ws pc lv (.int y :: .int x :: st) := fun H locs ls hP hD hS hl => lv_isub C.1 C.2.1 hd (k H locs ls hP hD hS hl)
theorem zw_imul (C : zw_C p s m args c D tys A own cc nL) {x y : Int32} (hd : decode cc pc = .ok (.imul, 1)) (k : zw_W p l e R s m args below meth c D A nL Q nc ns ws (pc + 1) lv (.int (x * y) :: st)) : zw_W p l e R s m args below meth c D A nL Q nc ns ws pc lv (.int y :: .int x :: st) := fun H locs ls hP hD hS hl => lv_imul C.1 C.2.1 hd (k H locs ls hP hD hS hl)
theorem zw_iand (C : zw_C p s m args c D tys A own cc nL) {x y : Int32} (hd : decode cc pc = .ok (.iand, 1)) (k : zw_W p l e R s m args below meth c D A nL Q nc ns ws (pc + 1) lv (.int (x &&& y) :: st)) : zw_W p l e R s m args below meth c D A nL Q nc ns ws pc lv (.int y :: .int x :: st) := fun H locs ls hP hD hS hl => lv_iand C.1 C.2.1 hd (k H locs ls hP hD hS hl)
theorem zw_ior (C : zw_C p s m args c D tys A own cc nL) {x y : Int32} (hd : decode cc pc = .ok (.ior, 1)) (k : zw_W p l e R s m args below meth c D A nL Q nc ns ws (pc + 1) lv (.int (x ||| y) :: st)) : zw_W p l e R s m args below meth c D A nL Q nc ns ws pc lv (.int y :: .int x :: st) := fun H locs ls hP hD hS hl => lv_ior C.1 C.2.1 hd (k H locs ls hP hD hS hl)
theorem zw_ixor (C : zw_C p s m args c D tys A own cc nL) {x y : Int32} (hd : decode cc pc = .ok (.ixor, 1)) (k : zw_W p l e R s m args below meth c D A nL Q nc ns ws (pc + 1) lv (.int (x ^^^ y) :: st)) : zw_W p l e R s m args below meth c D A nL Q nc ns ws pc lv (.int y :: .int x :: st) := fun H locs ls hP hD hS hl => lv_ixor C.1 C.2.1 hd (k H locs ls hP hD hS hl)
theorem zw_ladd (C : zw_C p s m args c D tys A own cc nL) {x y : Int64} (hd : decode cc pc = .ok (.ladd, 1)) (k : zw_W p l e R s m args below meth c D A nL Q nc ns ws (pc + 1) lv (.long (x + y) :: st)) : zw_W p l e R s m args below meth c D A nL Q nc ns ws pc lv (.long y :: .long x :: st) := fun H locs ls hP hD hS hl => lv_ladd C.1 C.2.1 hd (k H locs ls hP hD hS hl)
theorem zw_lsub (C : zw_C p s m args c D tys A own cc nL) {x y : Int64} (hd : decode cc pc = .ok (.lsub, 1)) (k : zw_W p l e R s m args below meth c D A nL Q nc ns ws (pc + 1) lv (.long (x - y) :: st)) : zw_W p l e R s m args below meth c D A nL Q nc ns ws pc lv (.long y :: .long x :: st) := fun H locs ls hP hD hS hl => lv_lsub C.1 C.2.1 hd (k H locs ls hP hD hS hl)
theorem zw_lmul (C : zw_C p s m args c D tys A own cc nL) {x y : Int64} (hd : decode cc pc = .ok (.lmul, 1)) (k : zw_W p l e R s m args below meth c D A nL Q nc ns ws (pc + 1) lv (.long (x * y) :: st)) : zw_W p l e R s m args below meth c D A nL Q nc ns ws pc lv (.long y :: .long x :: st) := fun H locs ls hP hD hS hl => lv_lmul C.1 C.2.1 hd (k H locs ls hP hD hS hl)
theorem zw_land (C : zw_C p s m args c D tys A own cc nL) {x y : Int64} (hd : decode cc pc = .ok (.land, 1)) (k : zw_W p l e R s m args below meth c D A nL Q nc ns ws (pc + 1) lv (.long (x &&& y) :: st)) : zw_W p l e R s m args below meth c D A nL Q nc ns ws pc lv (.long y :: .long x :: st) := fun H locs ls hP hD hS hl => lv_land C.1 C.2.1 hd (k H locs ls hP hD hS hl)
theorem zw_lor (C : zw_C p s m args c D tys A own cc nL) {x y : Int64} (hd : decode cc pc = .ok (.lor, 1)) (k : zw_W p l e R s m args below meth c D A nL Q nc ns ws (pc + 1) lv (.long (x ||| y) :: st)) : zw_W p l e R s m args below meth c D A nL Q nc ns ws pc lv (.long y :: .long x :: st) := fun H locs ls hP hD hS hl => lv_lor C.1 C.2.1 hd (k H locs ls hP hD hS hl)
theorem zw_lxor (C : zw_C p s m args c D tys A own cc nL) {x y : Int64} (hd : decode cc pc = .ok (.lxor, 1)) (k : zw_W p l e R s m args below meth c D A nL Q nc ns ws (pc + 1) lv (.long (x ^^^ y) :: st)) : zw_W p l e R s m args below meth c D A nL Q nc ns ws pc lv (.long y :: .long x :: st) := fun H locs ls hP hD hS hl => lv_lxor C.1 C.2.1 hd (k H locs ls hP hD hS hl)
theorem zw_idiv (C : zw_C p s m args c D tys A own cc nL) {x y : Int32} (hd : decode cc pc = .ok (.idiv, 1)) (hne : ¬ y = 0) (k : zw_W p l e R s m args below meth c D A nL Q nc ns ws (pc + 1) lv (.int (x / y) :: st)) : zw_W p l e R s m args below meth c D A nL Q nc ns ws pc lv (.int y :: .int x :: st) := fun H locs ls hP hD hS hl => lv_idiv C.1 C.2.1 hd hne (k H locs ls hP hD hS hl)
theorem zw_irem (C : zw_C p s m args c D tys A own cc nL) {x y : Int32} (hd : decode cc pc = .ok (.irem, 1)) (hne : ¬ y = 0) (k : zw_W p l e R s m args below meth c D A nL Q nc ns ws (pc + 1) lv (.int (x - x / y * y) :: st)) : zw_W p l e R s m args below meth c D A nL Q nc ns ws pc lv (.int y :: .int x :: st) := fun H locs ls hP hD hS hl => lv_irem C.1 C.2.1 hd hne (k H locs ls hP hD hS hl)
theorem zw_ldiv (C : zw_C p s m args c D tys A own cc nL) {x y : Int64} (hd : decode cc pc = .ok (.ldiv, 1)) (hne : ¬ y = 0) (k : zw_W p l e R s m args below meth c D A nL Q nc ns ws (pc + 1) lv (.long (x / y) :: st)) : zw_W p l e R s m args below meth c D A nL Q nc ns ws pc lv (.long y :: .long x :: st) := fun H locs ls hP hD hS hl => lv_ldiv C.1 C.2.1 hd hne (k H locs ls hP hD hS hl)
theorem zw_lrem (C : zw_C p s m args c D tys A own cc nL) {x y : Int64} (hd : decode cc pc = .ok (.lrem, 1)) (hne : ¬ y = 0) (k : zw_W p l e R s m args below meth c D A nL Q nc ns ws (pc + 1) lv (.long (x - x / y * y) :: st)) : zw_W p l e R s m args below meth c D A nL Q nc ns ws pc lv (.long y :: .long x :: st) := fun H locs ls hP hD hS hl => lv_lrem C.1 C.2.1 hd hne (k H locs ls hP hD hS hl)
theorem zw_ineg (C : zw_C p s m args c D tys A own cc nL) {x : Int32} (hd : decode cc pc = .ok (.ineg, 1)) (k : zw_W p l e R s m args below meth c D A nL Q nc ns ws (pc + 1) lv (.int (-x) :: st)) : zw_W p l e R s m args below meth c D A nL Q nc ns ws pc lv (.int x :: st) := fun H locs ls hP hD hS hl => lv_ineg C.1 C.2.1 hd (k H locs ls hP hD hS hl)
theorem zw_lneg (C : zw_C p s m args c D tys A own cc nL) {x : Int64} (hd : decode cc pc = .ok (.lneg, 1)) (k : zw_W p l e R s m args below meth c D A nL Q nc ns ws (pc + 1) lv (.long (-x) :: st)) : zw_W p l e R s m args below meth c D A nL Q nc ns ws pc lv (.long x :: st) := fun H locs ls hP hD hS hl => lv_lneg C.1 C.2.1 hd (k H locs ls hP hD hS hl)
theorem zw_i2l (C : zw_C p s m args c D tys A own cc nL) {x : Int32} (hd : decode cc pc = .ok (.i2l, 1)) (k : zw_W p l e R s m args below meth c D A nL Q nc ns ws (pc + 1) lv (.long x.toInt64 :: st)) : zw_W p l e R s m args below meth c D A nL Q nc ns ws pc lv (.int x :: st) := fun H locs ls hP hD hS hl => lv_i2l C.1 C.2.1 hd rfl (k H locs ls hP hD hS hl)
theorem zw_l2i (C : zw_C p s m args c D tys A own cc nL) {x : Int64} (hd : decode cc pc = .ok (.l2i, 1)) (k : zw_W p l e R s m args below meth c D A nL Q nc ns ws (pc + 1) lv (.int x.toInt32 :: st)) : zw_W p l e R s m args below meth c D A nL Q nc ns ws pc lv (.long x :: st) := fun H locs ls hP hD hS hl => lv_l2i C.1 C.2.1 hd rfl (k H locs ls hP hD hS hl)
theorem zw_lshl (C : zw_C p s m args c D tys A own cc nL) {x : Int64} {y : Int32} (hd : decode cc pc = .ok (.lshl, 1)) (k : zw_W p l e R s m args below meth c D A nL Q nc ns ws (pc + 1) lv (.long (x <<< (y.toInt64 &&& 63)) :: st)) : zw_W p l e R s m args below meth c D A nL Q nc ns ws pc lv (.int y :: .long x :: st) := fun H locs ls hP hD hS hl => lv_lshl C.1 C.2.1 hd rfl (k H locs ls hP hD hS hl)
theorem zw_lcmp (C : zw_C p s m args c D tys A own cc nL) {x y : Int64} (hd : decode cc pc = .ok (.lcmp, 1)) (k : zw_W p l e R s m args below meth c D A nL Q nc ns ws (pc + 1) lv (.int (lg_cmp x y) :: st)) : zw_W p l e R s m args below meth c D A nL Q nc ns ws pc lv (.long y :: .long x :: st) := fun H locs ls hP hD hS hl => W.lcmp C.1 C.2.1 hd (k H locs ls hP hD hS hl)
theorem zw_dup (C : zw_C p s m args c D tys A own cc nL) {va : Value} (hd : decode cc pc = .ok (.dup, 1)) (h1 : va.category = 1) (k : zw_W p l e R s m args below meth c D A nL Q nc ns ws (pc + 1) lv (va :: va :: st)) : zw_W p l e R s m args below meth c D A nL Q nc ns ws pc lv (va :: st) := fun H locs ls hP hD hS hl => lv_dup C.1 C.2.1 hd h1 (k H locs ls hP hD hS hl)
theorem zw_pop (C : zw_C p s m args c D tys A own cc nL) {va : Value} (hd : decode cc pc = .ok (.pop, 1)) (h1 : va.category = 1) (k : zw_W p l e R s m args below meth c D A nL Q nc ns ws (pc + 1) lv st) : zw_W p l e R s m args below meth c D A nL Q nc ns ws pc lv (va :: st) := fun H locs ls hP hD hS hl => lv_pop C.1 C.2.1 hd h1 (k H locs ls hP hD hS hl)
theorem zw_pop2 (C : zw_C p s m args c D tys A own cc nL) {va : Value} (hd : decode cc pc = .ok (.pop2, 1)) (h1 : va.category = 2) (k : zw_W p l e R s m args below meth c D A nL Q nc ns ws (pc + 1) lv st) : zw_W p l e R s m args below meth c D A nL Q nc ns ws pc lv (va :: st) := fun H locs ls hP hD hS hl => lv_pop2_2 C.1 C.2.1 hd h1 (k H locs ls hP hD hS hl)
theorem zw_dup_x1 (C : zw_C p s m args c D tys A own cc nL) {va vb : Value} (hd : decode cc pc = .ok (.dup_x1, 1)) (h1 : va.category = 1) (h2 : vb.category = 1) (k : zw_W p l e R s m args below meth c D A nL Q nc ns ws (pc + 1) lv (va :: vb :: va :: st)) : zw_W p l e R s m args below meth c D A nL Q nc ns ws pc lv (va :: vb :: st) := fun H locs ls hP hD hS hl => lv_dup_x1 C.1 C.2.1 hd h1 h2 (k H locs ls hP hD hS hl)
theorem zw_dup_x2 (C : zw_C p s m args c D tys A own cc nL) {va vb vd : Value} (hd : decode cc pc = .ok (.dup_x2, 1)) (h1 : va.category = 1) (h2 : vb.category = 1) (h3 : vd.category = 1) (k : zw_W p l e R s m args below meth c D A nL Q nc ns ws (pc + 1) lv (va :: vb :: vd :: va :: st)) : zw_W p l e R s m args below meth c D A nL Q nc ns ws pc lv (va :: vb :: vd :: st) := fun H locs ls hP hD hS hl => lv_dup_x2 C.1 C.2.1 hd h1 h2 h3 (k H locs ls hP hD hS hl)
theorem zw_dup2_11 (C : zw_C p s m args c D tys A own cc nL) {va vb : Value} (hd : decode cc pc = .ok (.dup2, 1)) (h1 : va.category = 1) (h2 : vb.category = 1) (k : zw_W p l e R s m args below meth c D A nL Q nc ns ws (pc + 1) lv (va :: vb :: va :: vb :: st)) : zw_W p l e R s m args below meth c D A nL Q nc ns ws pc lv (va :: vb :: st) := fun H locs ls hP hD hS hl => lv_dup2_11 C.1 C.2.1 hd h1 h2 (k H locs ls hP hD hS hl)
theorem zw_dup2_2 (C : zw_C p s m args c D tys A own cc nL) {va : Value} (hd : decode cc pc = .ok (.dup2, 1)) (h1 : va.category = 2) (k : zw_W p l e R s m args below meth c D A nL Q nc ns ws (pc + 1) lv (va :: va :: st)) : zw_W p l e R s m args below meth c D A nL Q nc ns ws pc lv (va :: st) := fun H locs ls hP hD hS hl => lv_dup2_2 C.1 C.2.1 hd h1 (k H locs ls hP hD hS hl)
theorem zw_dup2_x1_2 (C : zw_C p s m args c D tys A own cc nL) {va vb : Value} (hd : decode cc pc = .ok (.dup2_x1, 1)) (h1 : va.category = 2) (h2 : vb.category = 1) (k : zw_W p l e R s m args below meth c D A nL Q nc ns ws (pc + 1) lv (va :: vb :: va :: st)) : zw_W p l e R s m args below meth c D A nL Q nc ns ws pc lv (va :: vb :: st) := fun H locs ls hP hD hS hl => lv_dup2_x1_2 C.1 C.2.1 hd h1 h2 (k H locs ls hP hD hS hl)
theorem zw_if_eq (C : zw_C p s m args c D tys A own cc nL) {x : Int32} {off : Int} (tgt : Nat) (hd : decode cc pc = .ok (.ifCond .eq off, 3)) (ht : (pc : Int) + off = (tgt : Int)) (kt : x = 0 → zw_W p l e R s m args below meth c D A nL Q nc ns ws tgt lv st) (kf : ¬ x = 0 → zw_W p l e R s m args below meth c D A nL Q nc ns ws (pc + 3) lv st) : zw_W p l e R s m args below meth c D A nL Q nc ns ws pc lv (.int x :: st) := fun H locs ls hP hD hS hl => lv_if_eq C.1 C.2.1 hd ht (fun h => kt h H locs ls hP hD hS hl) (fun h => kf h H locs ls hP hD hS hl)
theorem zw_if_ne (C : zw_C p s m args c D tys A own cc nL) {x : Int32} {off : Int} (tgt : Nat) (hd : decode cc pc = .ok (.ifCond .ne off, 3)) (ht : (pc : Int) + off = (tgt : Int)) (kt : ¬ x = 0 → zw_W p l e R s m args below meth c D A nL Q nc ns ws tgt lv st) (kf : x = 0 → zw_W p l e R s m args below meth c D A nL Q nc ns ws (pc + 3) lv st) : zw_W p l e R s m args below meth c D A nL Q nc ns ws pc lv (.int x :: st) := fun H locs ls hP hD hS hl => lv_if_ne C.1 C.2.1 hd ht (fun h => kt h H locs ls hP hD hS hl) (fun h => kf h H locs ls hP hD hS hl)
theorem zw_if_lt (C : zw_C p s m args c D tys A own cc nL) {x : Int32} {off : Int} (tgt : Nat) (hd : decode cc pc = .ok (.ifCond .lt off, 3)) (ht : (pc : Int) + off = (tgt : Int)) (kt : x < 0 → zw_W p l e R s m args below meth c D A nL Q nc ns ws tgt lv st) (kf : ¬ x < 0 → zw_W p l e R s m args below meth c D A nL Q nc ns ws (pc + 3) lv st) : zw_W p l e R s m args below meth c D A nL Q nc ns ws pc lv (.int x :: st) := fun H locs ls hP hD hS hl => lv_if_lt C.1 C.2.1 hd ht (fun h => kt h H locs ls hP hD hS hl) (fun h => kf h H locs ls hP hD hS hl)
theorem zw_if_ge (C : zw_C p s m args c D tys A own cc nL) {x : Int32} {off : Int} (tgt : Nat) (hd : decode cc pc = .ok (.ifCond .ge off, 3)) (ht : (pc : Int) + off = (tgt : Int)) (kt : 0 ≤ x → zw_W p l e R s m args below meth c D A nL Q nc ns ws tgt lv st) (kf : ¬ 0 ≤ x → zw_W p l e R s m args below meth c D A nL Q nc ns ws (pc + 3) lv st) : zw_W p l e R s m args below meth c D A nL Q nc ns ws pc lv (.int x :: st) := fun H locs ls hP hD hS hl => lv_if_ge C.1 C.2.1 hd ht (fun h => kt h H locs ls hP hD hS hl) (fun h => kf h H locs ls hP hD hS hl)
theorem zw_if_gt (C : zw_C p s m args c D tys A own cc nL) {x : Int32} {off : Int} (tgt : Nat) (hd : decode cc pc = .ok (.ifCond .gt off, 3)) (ht : (pc : Int) + off = (tgt : Int)) (kt : 0 < x → zw_W p l e R s m args below meth c D A nL Q nc ns ws tgt lv st) (kf : ¬ 0 < x → zw_W p l e R s m args below meth c D A nL Q nc ns ws (pc + 3) lv st) : zw_W p l e R s m args below meth c D A nL Q nc ns ws pc lv (.int x :: st) := fun H locs ls hP hD hS hl => lv_if_gt C.1 C.2.1 hd ht (fun h => kt h H locs ls hP hD hS hl) (fun h => kf h H locs ls hP hD hS hl)
theorem zw_if_le (C : zw_C p s m args c D tys A own cc nL) {x : Int32} {off : Int} (tgt : Nat) (hd : decode cc pc = .ok (.ifCond .le off, 3)) (ht : (pc : Int) + off = (tgt : Int)) (kt : x ≤ 0 → zw_W p l e R s m args below meth c D A nL Q nc ns ws tgt lv st) (kf : ¬ x ≤ 0 → zw_W p l e R s m args below meth c D A nL Q nc ns ws (pc + 3) lv st) : zw_W p l e R s m args below meth c D A nL Q nc ns ws pc lv (.int x :: st) := fun H locs ls hP hD hS hl => lv_if_le C.1 C.2.1 hd ht (fun h => kt h H locs ls hP hD hS hl) (fun h => kf h H locs ls hP hD hS hl)
theorem zw_icmp_eq (C : zw_C p s m args c D tys A own cc nL) {x y : Int32} {off : Int} (tgt : Nat) (hd : decode cc pc = .ok (.if_icmp .eq off, 3)) (ht : (pc : Int) + off = (tgt : Int)) (kt : x = y → zw_W p l e R s m args below meth c D A nL Q nc ns ws tgt lv st) (kf : ¬ x = y → zw_W p l e R s m args below meth c D A nL Q nc ns ws (pc + 3) lv st) : zw_W p l e R s m args below meth c D A nL Q nc ns ws pc lv (.int y :: .int x :: st) := fun H locs ls hP hD hS hl => lv_icmp_eq C.1 C.2.1 hd ht (fun h => kt h H locs ls hP hD hS hl) (fun h => kf h H locs ls hP hD hS hl)
theorem zw_icmp_ne (C : zw_C p s m args c D tys A own cc nL) {x y : Int32} {off : Int} (tgt : Nat) (hd : decode cc pc = .ok (.if_icmp .ne off, 3)) (ht : (pc : Int) + off = (tgt : Int)) (kt : ¬ x = y → zw_W p l e R s m args below meth c D A nL Q nc ns ws tgt lv st) (kf : x = y → zw_W p l e R s m args below meth c D A nL Q nc ns ws (pc + 3) lv st) : zw_W p l e R s m args below meth c D A nL Q nc ns ws pc lv (.int y :: .int x :: st) := fun H locs ls hP hD hS hl => lv_icmp_ne C.1 C.2.1 hd ht (fun h => kt h H locs ls hP hD hS hl) (fun h => kf h H locs ls hP hD hS hl)
theorem zw_icmp_lt (C : zw_C p s m args c D tys A own cc nL) {x y : Int32} {off : Int} (tgt : Nat) (hd : decode cc pc = .ok (.if_icmp .lt off, 3)) (ht : (pc : Int) + off = (tgt : Int)) (kt : x < y → zw_W p l e R s m args below meth c D A nL Q nc ns ws tgt lv st) (kf : ¬ x < y → zw_W p l e R s m args below meth c D A nL Q nc ns ws (pc + 3) lv st) : zw_W p l e R s m args below meth c D A nL Q nc ns ws pc lv (.int y :: .int x :: st) := fun H locs ls hP hD hS hl => lv_icmp_lt C.1 C.2.1 hd ht (fun h => kt h H locs ls hP hD hS hl) (fun h => kf h H locs ls hP hD hS hl)
theorem zw_icmp_ge (C : zw_C p s m args c D tys A own cc nL) {x y : Int32} {off : Int} (tgt : Nat) (hd : decode cc pc = .ok (.if_icmp .ge off, 3)) (ht : (pc : Int) + off = (tgt : Int)) (kt : y ≤ x → zw_W p l e R s m args below meth c D A nL Q nc ns ws tgt lv st) (kf : ¬ y ≤ x → zw_W p l e R s m args below meth c D A nL Q nc ns ws (pc + 3) lv st) : zw_W p l e R s m args below meth c D A nL Q nc ns ws pc lv (.int y :: .int x :: st) := fun H locs ls hP hD hS hl => lv_icmp_ge C.1 C.2.1 hd ht (fun h => kt h H locs ls hP hD hS hl) (fun h => kf h H locs ls hP hD hS hl)
theorem zw_icmp_gt (C : zw_C p s m args c D tys A own cc nL) {x y : Int32} {off : Int} (tgt : Nat) (hd : decode cc pc = .ok (.if_icmp .gt off, 3)) (ht : (pc : Int) + off = (tgt : Int)) (kt : y < x → zw_W p l e R s m args below meth c D A nL Q nc ns ws tgt lv st) (kf : ¬ y < x → zw_W p l e R s m args below meth c D A nL Q nc ns ws (pc + 3) lv st) : zw_W p l e R s m args below meth c D A nL Q nc ns ws pc lv (.int y :: .int x :: st) := fun H locs ls hP hD hS hl => lv_icmp_gt C.1 C.2.1 hd ht (fun h => kt h H locs ls hP hD hS hl) (fun h => kf h H locs ls hP hD hS hl)
theorem zw_icmp_le (C : zw_C p s m args c D tys A own cc nL) {x y : Int32} {off : Int} (tgt : Nat) (hd : decode cc pc = .ok (.if_icmp .le off, 3)) (ht : (pc : Int) + off = (tgt : Int)) (kt : x ≤ y → zw_W p l e R s m args below meth c D A nL Q nc ns ws tgt lv st) (kf : ¬ x ≤ y → zw_W p l e R s m args below meth c D A nL Q nc ns ws (pc + 3) lv st) : zw_W p l e R s m args below meth c D A nL Q nc ns ws pc lv (.int y :: .int x :: st) := fun H locs ls hP hD hS hl => lv_icmp_le C.1 C.2.1 hd ht (fun h => kt h H locs ls hP hD hS hl) (fun h => kf h H locs ls hP hD hS hl)
theorem zw_goto (C : zw_C p s m args c D tys A own cc nL) {off : Int} (tgt : Nat) (hd : decode cc pc = .ok (.goto off, 3)) (ht : (pc : Int) + off = (tgt : Int)) (k : zw_W p l e R s m args below meth c D A nL Q nc ns ws tgt lv st) : zw_W p l e R s m args below meth c D A nL Q nc ns ws pc lv st := fun H locs ls hP hD hS hl => lv_goto C.1 C.2.1 hd ht (k H locs ls hP hD hS hl)
theorem zw_tableOut (C : zw_C p s m args c D tys A own cc nL) {dflt lo hi : Int} {offs : Array Int} {len : Nat} {x : Int32} (tgt : Nat) (hd : decode cc pc = .ok (.tableswitch dflt lo hi offs, len)) (h : x.toInt < lo ∨ hi < x.toInt) (ht : (pc : Int) + dflt = (tgt : Int)) (k : zw_W p l e R s m args below meth c D A nL Q nc ns ws tgt lv st) : zw_W p l e R s m args below meth c D A nL Q nc ns ws pc lv (.int x :: st) := fun H locs ls hP hD hS hl => lv_tableOut C.1 C.2.1 hd h ht (k H locs ls hP hD hS hl)
theorem zw_tableIn (C : zw_C p s m args c D tys A own cc nL) {dflt lo hi : Int} {offs : Array Int} {len : Nat} {x : Int32} {off : Int} (tgt : Nat) (hd : decode cc pc = .ok (.tableswitch dflt lo hi offs, len)) (h1 : ¬ x.toInt < lo) (h2 : ¬ hi < x.toInt) (ho : offs[(x.toInt - lo).toNat]? = some off) (ht : (pc : Int) + off = (tgt : Int)) (k : zw_W p l e R s m args below meth c D A nL Q nc ns ws tgt lv st) : zw_W p l e R s m args below meth c D A nL Q nc ns ws pc lv (.int x :: st) := fun H locs ls hP hD hS hl => lv_tableIn C.1 C.2.1 hd h1 h2 ho ht (k H locs ls hP hD hS hl)
theorem zw_locals {lv2 : List (Nat × Value)} (ks : List Nat) (h : lv_pick lv ks = lv2) (k : zw_W p l e R s m args below meth c D A nL Q nc ns ws pc lv2 st) : zw_W p l e R s m args below meth c D A nL Q nc ns ws pc lv st := fun H locs ls hP hD hS hl => k H locs ls hP hD hS (lv_sub hl ks h)
theorem zw_eq {ws2 : va_W} {lv2 : List (Nat × Value)} {st2 : List Value} (h1 : ws = ws2) (h2 : lv = lv2) (h3 : st = st2) (k : zw_W p l e R s m args below meth c D A nL Q nc ns ws2 pc lv2 st2) : zw_W p l e R s m args below meth c D A nL Q nc ns ws pc lv st := by subst h1; subst h2; subst h3; exact k
/-- a class's layout words are among the tables' -/
def zw_F (Cn : String) (T : u_T) (N ci : Nat) : Prop := vwCl[ci]? = some (Cn, T, N) ∧ ∀ w ∈ u_ws Cn T N, w ∈ zw_tbl
theorem zw_get (C : zw_C p s m args c D tys A own cc nL) {Cn : String} {T : u_T} {N ci index a : Nat} (F : zw_F Cn T N ci) (q0 f : Nat) {fs : List Value} {v : Value} (he : ws[q0]? = some (a, .inr (ci, fs))) (hf : f < N) (hlink : Cond.fieldLink own index (T f).1 (T f).2.1 (T f).2.2.1 ∈ zw_tbl) (hv : fs[f]? = some v) (hd : decode cc pc = .ok (.getfield index, 3)) (k : zw_W p l e R s m args below meth c D A nL Q nc ns ws (pc + 3) lv (v :: st)) : zw_W p l e R s m args below meth c D A nL Q nc ns ws pc lv (.ref a :: st) := fun H locs ls hP hD hS hl => va_get C.1 C.2.1 C.2.2.2.2.1 F.2 C.2.2.2.1 C.2.2.2.2.2.1 hP q0 he F.1 f hf (C.2.2.2.2.1 _ hlink) (fun _ h => h) hv hd (k H locs ls hP hD hS hl)
/-- a class's types and names, for writing -/
def zw_FW (T : u_T) (N : Nat) (ty : Nat → FieldType) : Prop := (∀ k, k < N → parseFieldDescriptor (T k).2.2.1 = some (ty k)) ∧ (∀ a, a < N → ∀ b, b < N → a ≠ b → (T a).2.1 ≠ (T b).2.1)
theorem zw_put (C : zw_C p s m args c D tys A own cc nL) {Cn : String} {T : u_T} {N ci index a : Nat} {ty : Nat → FieldType} (F : zw_F Cn T N ci) (FW : zw_FW T N ty) (q0 f : Nat) {fs : List Value} {v : Value} {ws2 : va_W} (he : ws[q0]? = some (a, .inr (ci, fs))) (hf : f < N) (hlink : Cond.fieldLink own index (T f).1 (T f).2.1 (T f).2.2.1 ∈ zw_tbl) (hfin : (T f).2.2.2 = false) (hn : narrow (ty f) v = v) (hfit : fits (ty f) v = true) (hl0 : f < fs.length) (hw : ws.set q0 (a, .inr (ci, fs.set f v)) = ws2) (hd : decode cc pc = .ok (.putfield index, 3)) (k : zw_W p l e R s m args below meth c D A nL Q nc ns ws2 (pc + 3) lv st) : zw_W p l e R s m args below meth c D A nL Q nc ns ws pc lv (v :: .ref a :: st) := fun H locs ls hP hD hS hl => va_put C.1 C.2.1 C.2.2.2.2.1 F.2 ty FW.1 FW.2 C.2.2.2.1 C.2.2.2.2.2.1 hP hD hS q0 he F.1 f hf (C.2.2.2.2.1 _ hlink) (fun _ h => h) hfin (FW.1 f hf) hn hfit hl0 hd (fun H1 locs1 hP1 hD1 hS1 => k H1 locs1 ls (hw ▸ hP1) (hw ▸ hD1) hS1 hl)
theorem zw_putF (C : zw_C p s m args c D tys A own cc nL) {Cn : String} {T : u_T} {N ci index a : Nat} {ty : Nat → FieldType} (F : zw_F Cn T N ci) (FW : zw_FW T N ty) (q0 f : Nat) {fs : List Value} {v : Value} {ws2 : va_W} (he : ws[q0]? = some (a, .inr (ci, fs))) (hf : f < N) (hlink : Cond.fieldLink own index (T f).1 (T f).2.1 (T f).2.2.1 ∈ zw_tbl) (hfin : (T f).2.2.2 = true) (hin : meth.name = "<init>") (hdecl : (T f).1 = own) (hn : narrow (ty f) v = v) (hfit : fits (ty f) v = true) (hl0 : f < fs.length) (hw : ws.set q0 (a, .inr (ci, fs.set f v)) = ws2) (hd : decode cc pc = .ok (.putfield index, 3)) (k : zw_W p l e R s m args below meth c D A nL Q nc ns ws2 (pc + 3) lv st) : zw_W p l e R s m args below meth c D A nL Q nc ns ws pc lv (v :: .ref a :: st) := fun H locs ls hP hD hS hl => va_putF C.1 C.2.1 C.2.2.2.2.1 F.2 ty FW.1 FW.2 C.2.2.2.1 C.2.2.2.2.2.1 hP hD hS q0 he F.1 f hf (C.2.2.2.2.1 _ hlink) (fun _ h => h) hfin hin hdecl (FW.1 f hf) hn hfit hl0 hd (fun H1 locs1 hP1 hD1 hS1 => k H1 locs1 ls (hw ▸ hP1) (hw ▸ hD1) hS1 hl)
theorem zw_iald (C : zw_C p s m args c D tys A own cc nL) (q0 t0 : Nat) {a : Nat} {cA : ClassId} {n : Nat} {f : Nat → Int32} {i : Int32} (ha : ws[q0]? = some (a, .inl (cA, n, .inl f))) (ht : tys[t0]? = some (cA, .int)) (hin : vp_in i n) (hd : decode cc pc = .ok (.iaload, 1)) (k : zw_W p l e R s m args below meth c D A nL Q nc ns ws (pc + 1) lv (.int (f i.toNatClampNeg) :: st)) : zw_W p l e R s m args below meth c D A nL Q nc ns ws pc lv (.int i :: .ref a :: st) := fun H locs ls hP hD hS hl => va_iald C.1 C.2.1 C.2.2.2.2.2.1 hP q0 t0 ha ht hin hd (k H locs ls hP hD hS hl)
theorem zw_iast (C : zw_C p s m args c D tys A own cc nL) (q0 t0 : Nat) {a : Nat} {cA : ClassId} {n : Nat} {f : Nat → Int32} {i : Int32} {x : Int32} {ws2 : va_W} (ha : ws[q0]? = some (a, .inl (cA, n, .inl f))) (ht : tys[t0]? = some (cA, .int)) (hin : vp_in i n) (hw : ws.set q0 (a, .inl (cA, n, .inl (upd f i.toNatClampNeg x))) = ws2) (hd : decode cc pc = .ok (.iastore, 1)) (k : zw_W p l e R s m args below meth c D A nL Q nc ns ws2 (pc + 1) lv st) : zw_W p l e R s m args below meth c D A nL Q nc ns ws pc lv (.int x :: .int i :: .ref a :: st) := fun H locs ls hP hD hS hl => va_iast C.1 C.2.1 C.2.2.2.2.2.1 hP hD hS q0 t0 ha ht hin hd (fun H1 locs1 hP1 hD1 hS1 => k H1 locs1 ls (hw ▸ hP1) (hw ▸ hD1) hS1 hl)
theorem zw_lald (C : zw_C p s m args c D tys A own cc nL) (q0 t0 : Nat) {a : Nat} {cA : ClassId} {n : Nat} {f : Nat → Int64} {i : Int32} (ha : ws[q0]? = some (a, .inl (cA, n, .inr (.inl f)))) (ht : tys[t0]? = some (cA, .long)) (hin : vp_in i n) (hd : decode cc pc = .ok (.laload, 1)) (k : zw_W p l e R s m args below meth c D A nL Q nc ns ws (pc + 1) lv (.long (f i.toNatClampNeg) :: st)) : zw_W p l e R s m args below meth c D A nL Q nc ns ws pc lv (.int i :: .ref a :: st) := fun H locs ls hP hD hS hl => va_lald C.1 C.2.1 C.2.2.2.2.2.1 hP q0 t0 ha ht hin hd (k H locs ls hP hD hS hl)
theorem zw_last (C : zw_C p s m args c D tys A own cc nL) (q0 t0 : Nat) {a : Nat} {cA : ClassId} {n : Nat} {f : Nat → Int64} {i : Int32} {x : Int64} {ws2 : va_W} (ha : ws[q0]? = some (a, .inl (cA, n, .inr (.inl f)))) (ht : tys[t0]? = some (cA, .long)) (hin : vp_in i n) (hw : ws.set q0 (a, .inl (cA, n, .inr (.inl (vp_updL f i.toNatClampNeg x)))) = ws2) (hd : decode cc pc = .ok (.lastore, 1)) (k : zw_W p l e R s m args below meth c D A nL Q nc ns ws2 (pc + 1) lv st) : zw_W p l e R s m args below meth c D A nL Q nc ns ws pc lv (.long x :: .int i :: .ref a :: st) := fun H locs ls hP hD hS hl => va_last C.1 C.2.1 C.2.2.2.2.2.1 hP hD hS q0 t0 ha ht hin hd (fun H1 locs1 hP1 hD1 hS1 => k H1 locs1 ls (hw ▸ hP1) (hw ▸ hD1) hS1 hl)
end ZW
/-! CONTRACTS AND CALLS: a method's contract: from the world ws it ends with the world ws2 and the answer r; nothing new is made. -/
def zw_Pre (D : va_G) (tys : List (ClassId × FieldType)) (av : List Value) (ws : va_W) (sz : Nat) : Array Value → State → Prop := va_Pc av (fun U => U.heap.size = sz ∧ va_P D vwCl ws U.heap ∧ va_K D vwCl tys U ∧ va_D (fun _ => True) ws)
theorem zw_blind {D : va_G} {tys : List (ClassId × FieldType)} {av : List Value} {ws : va_W} {sz : Nat} : FrameBlind (zw_Pre D tys av ws sz) := fun a U g mk q => by
  obtain ⟨q0, q1, qP, qK, qD⟩ := q
  exact ⟨q0, q1, qP, va_K.moved (u := U) (U := U.calling g mk a) (Vm.Alike.refl U.vm) qK, qD⟩
def zw_Post (D : va_G) (A : Nat → Prop) (ws2 : va_W) (t : State) : Prop := va_P D vwCl ws2 t.heap ∧ va_D A ws2
def zw_Mi (l : Launch) (y : MethodName) (cc : ByteArray) (nL : Nat) (rt : FieldType) (D : va_G) (tys : List (ClassId × FieldType)) (rm : Room) (av : List Value) (ws ws2 : va_W) (r : Int32) : Prop :=
  ∀ sz : Nat, Met l y (Cond.code y cc nL (some rt) :: zw_tbl) rm (zw_Pre D tys av ws sz) (va_Qi (fun (r2 : Int32) (_ : Unit) => r2 = r) (fun _ t => zw_Post D (va_A ws sz) ws2 t) (va_A ws sz)) 0 0 (va_A ws sz)
def zw_Ml (l : Launch) (y : MethodName) (cc : ByteArray) (nL : Nat) (D : va_G) (tys : List (ClassId × FieldType)) (rm : Room) (av : List Value) (ws ws2 : va_W) (r : Int64) : Prop :=
  ∀ sz : Nat, Met l y (Cond.code y cc nL (some .long) :: zw_tbl) rm (zw_Pre D tys av ws sz) (va_Ql (fun (r2 : Int64) (_ : Unit) => r2 = r) (fun _ t => zw_Post D (va_A ws sz) ws2 t) (va_A ws sz)) 0 0 (va_A ws sz)
def zw_Mv (l : Launch) (y : MethodName) (cc : ByteArray) (nL : Nat) (D : va_G) (tys : List (ClassId × FieldType)) (rm : Room) (av : List Value) (ws ws2 : va_W) : Prop :=
  ∀ sz : Nat, Met l y (Cond.code y cc nL none :: zw_tbl) rm (zw_Pre D tys av ws sz) (va_Qv (fun (_ : Unit) => True) (fun _ t => zw_Post D (va_A ws sz) ws2 t) (va_A ws sz)) 0 0 (va_A ws sz)
def zw_Qi (D : va_G) (A : Nat → Prop) (ws2 : va_W) (r : Int32) (below : List Frame) (args : Array Value) (s : State) : State → Prop := MQ below (va_Qi (fun (r2 : Int32) (_ : Unit) => r2 = r) (fun _ t => zw_Post D A ws2 t) A) args s 0 0 A
def zw_Ql (D : va_G) (A : Nat → Prop) (ws2 : va_W) (r : Int64) (below : List Frame) (args : Array Value) (s : State) : State → Prop := MQ below (va_Ql (fun (r2 : Int64) (_ : Unit) => r2 = r) (fun _ t => zw_Post D A ws2 t) A) args s 0 0 A
def zw_Qv (D : va_G) (A : Nat → Prop) (ws2 : va_W) (below : List Frame) (args : Array Value) (s : State) : State → Prop := MQ below (va_Qv (fun (_ : Unit) => True) (fun _ t => zw_Post D A ws2 t) A) args s 0 0 A
section ZM
variable {l : Launch} {y : MethodName} {cc : ByteArray} {nL : Nat} {rt : FieldType} {D : va_G} {tys : List (ClassId × FieldType)} {rm : Room} {av : List Value} {ws ws2 : va_W} {own : String}
theorem zw_Mi_of {r : Int32} (hy : plainName y.cls = true) (hyc : y.cls = own) (hlen : (lg_sl av).length ≤ nL) (h : ∀ (p : Program) (e : Env) (s : State) (m : MethodId) (args : Array Value) (below : List Frame) (meth : Method) (c : Code) (A : Nat → Prop), zw_C p s m args c D tys A own cc nL → meth.sig.returnType = some rt → meth.locks = false → zw_W p l e rm s m args below meth c D A nL (zw_Qi D A ws2 r below args s) 0 0 ws 0 (lv_args 0 av) []) : zw_Mi l y cc nL rt D tys rm av ws ws2 r := by
  intro sz
  refine Met.ofW (cc := cc) (maxL := nL) (ret := some rt) hy rfl ?_
  intro p e s m args below meth c s₁ B hml hv
  obtain ⟨rfl, hsz, hP, hK, hD0⟩ := hv
  have hts := atoms_spec (ws := Cond.code y cc nL (some rt) :: zw_tbl) B.pre
  have hown : s.vm.findClass y.cls = some m.cls := findClass_of_methodNamed B.named
  subst hsz
  have hl := lv_entry av (n := nL) hlen
  rw [lg_entry_eq]
  exact h p e s m _ below meth c (va_A ws s.heap.size) ⟨B.exec, B.bytes, hml, hyc ▸ hown, fun w hw => hts w (List.mem_cons_of_mem _ hw), hK, fun q hq => Or.inr hq⟩ B.returns B.notSynchronized s.heap [] _ hP hD0.self va_S.rf hl
theorem zw_Ml_of {r : Int64} (hy : plainName y.cls = true) (hyc : y.cls = own) (hlen : (lg_sl av).length ≤ nL) (h : ∀ (p : Program) (e : Env) (s : State) (m : MethodId) (args : Array Value) (below : List Frame) (meth : Method) (c : Code) (A : Nat → Prop), zw_C p s m args c D tys A own cc nL → meth.sig.returnType = some .long → meth.locks = false → zw_W p l e rm s m args below meth c D A nL (zw_Ql D A ws2 r below args s) 0 0 ws 0 (lv_args 0 av) []) : zw_Ml l y cc nL D tys rm av ws ws2 r := by
  intro sz
  refine Met.ofW (cc := cc) (maxL := nL) (ret := some .long) hy rfl ?_
  intro p e s m args below meth c s₁ B hml hv
  obtain ⟨rfl, hsz, hP, hK, hD0⟩ := hv
  have hts := atoms_spec (ws := Cond.code y cc nL (some .long) :: zw_tbl) B.pre
  have hown : s.vm.findClass y.cls = some m.cls := findClass_of_methodNamed B.named
  subst hsz
  have hl := lv_entry av (n := nL) hlen
  rw [lg_entry_eq]
  exact h p e s m _ below meth c (va_A ws s.heap.size) ⟨B.exec, B.bytes, hml, hyc ▸ hown, fun w hw => hts w (List.mem_cons_of_mem _ hw), hK, fun q hq => Or.inr hq⟩ B.returns B.notSynchronized s.heap [] _ hP hD0.self va_S.rf hl
theorem zw_Mv_of (hy : plainName y.cls = true) (hyc : y.cls = own) (hlen : (lg_sl av).length ≤ nL) (h : ∀ (p : Program) (e : Env) (s : State) (m : MethodId) (args : Array Value) (below : List Frame) (meth : Method) (c : Code) (A : Nat → Prop), zw_C p s m args c D tys A own cc nL → meth.sig.returnType = none → meth.locks = false → zw_W p l e rm s m args below meth c D A nL (zw_Qv D A ws2 below args s) 0 0 ws 0 (lv_args 0 av) []) : zw_Mv l y cc nL D tys rm av ws ws2 := by
  intro sz
  refine Met.ofW (cc := cc) (maxL := nL) (ret := none) hy rfl ?_
  intro p e s m args below meth c s₁ B hml hv
  obtain ⟨rfl, hsz, hP, hK, hD0⟩ := hv
  have hts := atoms_spec (ws := Cond.code y cc nL none :: zw_tbl) B.pre
  have hown : s.vm.findClass y.cls = some m.cls := findClass_of_methodNamed B.named
  subst hsz
  have hl := lv_entry av (n := nL) hlen
  rw [lg_entry_eq]
  exact h p e s m _ below meth c (va_A ws s.heap.size) ⟨B.exec, B.bytes, hml, hyc ▸ hown, fun w hw => hts w (List.mem_cons_of_mem _ hw), hK, fun q hq => Or.inr hq⟩ B.returns B.notSynchronized s.heap [] _ hP hD0.self va_S.rf hl
end ZM
section ZR
variable {p : Program} {l : Launch} {e : Env} {R : Room} {s : State} {m : MethodId} {args : Array Value} {below : List Frame} {meth : Method} {c : Code} {D : va_G} {tys : List (ClassId × FieldType)} {A : Nat → Prop} {own : String} {cc : ByteArray} {nL : Nat} {Q : State → Prop} {nc ns : Nat} {ws ws2 : va_W} {pc : Nat} {lv : List (Nat × Value)} {st : List Value}
theorem zw_ireturn (C : zw_C p s m args c D tys A own cc nL) (hr : meth.sig.returnType = some .int) (hlk : meth.locks = false) {v r : Int32} (hd : decode cc pc = .ok (.ireturn, 1)) (hv : v = r) (hw : ws = ws2) : zw_W p l e R s m args below meth c D A nL (zw_Qi D A ws2 r below args s) 0 0 ws pc lv [.int v] := by
  subst hv; subst hw
  intro H locs ls hP hD hS hl
  exact W.iret C.1 C.2.1 hr (fun t ht _ => ⟨⟨v, (), rfl, rfl, by rw [ht]; exact hP, hD⟩, hS.F ht⟩) hS.2.2 hd hlk
theorem zw_zreturn (C : zw_C p s m args c D tys A own cc nL) (hr : meth.sig.returnType = some .boolean) (hlk : meth.locks = false) {v r : Int32} (hn : narrow .boolean (.int v) = .int v) (hd : decode cc pc = .ok (.ireturn, 1)) (hv : v = r) (hw : ws = ws2) : zw_W p l e R s m args below meth c D A nL (zw_Qi D A ws2 r below args s) 0 0 ws pc lv [.int v] := by
  subst hv; subst hw
  intro H locs ls hP hD hS hl
  exact W.zret C.1 C.2.1 hr hn (fun t ht _ => ⟨⟨v, (), rfl, rfl, by rw [ht]; exact hP, hD⟩, hS.F ht⟩) hS.2.2 hd hlk
theorem zw_lreturn (C : zw_C p s m args c D tys A own cc nL) (hr : meth.sig.returnType = some .long) (hlk : meth.locks = false) {v r : Int64} (hd : decode cc pc = .ok (.lreturn, 1)) (hv : v = r) (hw : ws = ws2) : zw_W p l e R s m args below meth c D A nL (zw_Ql D A ws2 r below args s) 0 0 ws pc lv [.long v] := by
  subst hv; subst hw
  intro H locs ls hP hD hS hl
  exact W.lret C.1 C.2.1 hr (fun t ht _ => ⟨⟨v, (), rfl, rfl, by rw [ht]; exact hP, hD⟩, hS.F ht⟩) hS.2.2 hd hlk
theorem zw_return (C : zw_C p s m args c D tys A own cc nL) (hr : meth.sig.returnType = none) (hlk : meth.locks = false) (hd : decode cc pc = .ok (.return_, 1)) (hw : ws = ws2) : zw_W p l e R s m args below meth c D A nL (zw_Qv D A ws2 below args s) 0 0 ws pc lv [] := by
  subst hw
  intro H locs ls hP hD hS hl
  exact W.vret C.1 C.2.1 hr (fun t ht _ => ⟨⟨(), rfl, trivial, by rw [ht]; exact hP, hD⟩, hS.F ht⟩) hS.2.2 hd hlk
theorem zw_free {H0 H : Heap} {locs : List Loc} (hD : va_D A ws) (hS : va_S A H0 H locs) (hA : ∀ q, H0.size ≤ q → A q) : ∀ q, va_A ws H.size q → A q := by
  intro q h
  rcases h with ⟨k, e, hk⟩ | h
  · exact hD.2 k _ hk
  · exact hA q (Nat.le_trans hS.1 h)
/-- the words of a call of an object's method -/
def zw_KV (own : String) (index : Nat) (Cn : String) (y : MethodName) (bytes : ByteArray) (maxL : Nat) (ret : Option FieldType) (n : Nat) : Prop :=
  Cond.code y bytes maxL ret ∈ zw_tbl ∧ (Cond.methodLink own index y ∈ zw_tbl ∧ Cond.instanceMethod y ∈ zw_tbl ∧ Cond.selects Cn y y ∈ zw_tbl ∧ Cond.initialized Cn ∈ zw_tbl) ∧ (y.cls = Cn ∧ y.cls ≠ "java/lang/invoke/MethodHandle" ∧ y.cls ≠ "java/lang/invoke/VarHandle" ∧ (parseMethodDescriptor y.desc).map (fun d => d.parameters.length) = some n)
def zw_KS (own : String) (index : Nat) (y : MethodName) (bytes : ByteArray) (maxL : Nat) (ret : Option FieldType) (n : Nat) : Prop :=
  Cond.code y bytes maxL ret ∈ zw_tbl ∧ (Cond.methodLink own index y ∈ zw_tbl ∧ Cond.static y ∈ zw_tbl ∧ Cond.initialized own ∈ zw_tbl) ∧ (y.cls = own ∧ y.cls ≠ "java/lang/invoke/MethodHandle" ∧ y.cls ≠ "java/lang/invoke/VarHandle" ∧ (parseMethodDescriptor y.desc).map (fun d => d.parameters.length) = some n)
theorem zw_goodV {own : String} {index : Nat} {Cn : String} {y : MethodName} {bytes : ByteArray} {maxL : Nat} {ret : Option FieldType} {n : Nat} (K : zw_KV own index Cn y bytes maxL ret n) : GoodIn zw_tbl (wsV own index Cn y (Cond.code y bytes maxL ret :: zw_tbl)) := by
  intro w hw
  rcases List.mem_append.mp hw with h | h
  · have h2 : w ∈ zw_tbl := by
      simp only [List.mem_cons, List.not_mem_nil, or_false] at h
      rcases h with rfl | rfl | rfl | rfl
      · exact K.2.1.1
      · exact K.2.1.2.1
      · exact K.2.1.2.2.1
      · exact K.2.1.2.2.2
    exact zw_good w h2
  · rcases List.mem_cons.mp h with rfl | h
    · exact zw_good _ K.1
    · exact zw_good _ h
theorem zw_goodS {own : String} {index : Nat} {y : MethodName} {bytes : ByteArray} {maxL : Nat} {ret : Option FieldType} {n : Nat} (K : zw_KS own index y bytes maxL ret n) : GoodIn zw_tbl (wsS own index y (Cond.code y bytes maxL ret :: zw_tbl)) := by
  intro w hw
  rcases List.mem_append.mp hw with h | h
  · have h2 : w ∈ zw_tbl := by
      simp only [List.mem_cons, List.not_mem_nil, or_false] at h
      rcases h with rfl | rfl | rfl
      · exact K.2.1.1
      · exact K.2.1.2.1
      · exact K.2.1.2.2
    exact zw_good w h2
  · rcases List.mem_cons.mp h with rfl | h
    · exact zw_good _ K.1
    · exact zw_good _ h
/-- the room that a callee wants of the caller's -/
def zw_RR (rm R : Room) (maxL nc ns : Nat) : Prop := rm.cells = 0 ∧ rm.slots = 0 ∧ (rm.frames + 1 ≤ R.frames ∧ 8 + (maxL + 11) + rm.locals ≤ R.locals) ∧ nc + 0 ≤ R.cells ∧ ns + 0 ≤ R.slots
theorem zw_calli (C : zw_C p s m args c D tys A own cc nL) {y : MethodName} {bytes : ByteArray} {maxL n index : Nat} {rt : FieldType} {rm : Room} {Cn : String} {b ci N : Nat} {T : u_T} {fs As rest : List Value} {r : Int32} (K : zw_KV own index Cn y bytes maxL (some rt) n) (hM : zw_Mi l y bytes maxL rt D tys rm (.ref b :: As) ws ws2 r) (hR : zw_RR rm R maxL nc ns) (F : zw_F Cn T N ci) (q0 : Nat) (he : ws[q0]? = some (b, .inr (ci, fs))) (hn : As.length = n) (hst : st = As.reverse ++ .ref b :: rest) (hcat : (rest.map fun v => v.category).sum ≤ 8) (hd : decode cc pc = .ok (.invokevirtual index, 3)) (k : zw_W p l e R s m args below meth c D A nL Q nc ns ws2 (pc + 3) lv (.int r :: rest)) : zw_W p l e R s m args below meth c D A nL Q nc ns ws pc lv st := by
  intro H locs ls hP hD hS hl
  subst hst
  have hF := zw_free hD hS C.2.2.2.2.2.2
  refine va_calli (va_runV (As := As) (rest := rest) ⟨C.1, C.2.1, C.2.2.1, C.2.2.2.1, C.2.2.2.2.1⟩ (hM H.size) (cwV n C.2.2.2.2.1 (zw_goodV K) rfl hR.1 hR.2.1 K.2.2 hR.2.2.1) ⟨zw_blind, va_recv C.2.2.2.2.2.1 hP F.1 he, fun U hU hW => ⟨rfl, by rw [hU], by rw [hU]; exact hP, va_K.moved hW.alike C.2.2.2.2.2.1, hD.weaken (fun _ _ _ _ => trivial)⟩⟩ rfl hn hl.1 rfl (lv_room hcat) hd hR.2.2.2) hS (fun q _ h => hF q h) hF (fun r2 u t H1 locs1 ht hvm hw hB hz1 hk1 hS1 => ?_)
  subst hw
  exact k H1 locs1 ls (ht ▸ hB.1) (hB.2.weaken (fun _ _ _ h => hF _ h)) hS1 hl
theorem zw_calll (C : zw_C p s m args c D tys A own cc nL) {y : MethodName} {bytes : ByteArray} {maxL n index : Nat} {rm : Room} {Cn : String} {b ci N : Nat} {T : u_T} {fs As rest : List Value} {r : Int64} (K : zw_KV own index Cn y bytes maxL (some .long) n) (hM : zw_Ml l y bytes maxL D tys rm (.ref b :: As) ws ws2 r) (hR : zw_RR rm R maxL nc ns) (F : zw_F Cn T N ci) (q0 : Nat) (he : ws[q0]? = some (b, .inr (ci, fs))) (hn : As.length = n) (hst : st = As.reverse ++ .ref b :: rest) (hcat : (rest.map fun v => v.category).sum ≤ 8) (hd : decode cc pc = .ok (.invokevirtual index, 3)) (k : zw_W p l e R s m args below meth c D A nL Q nc ns ws2 (pc + 3) lv (.long r :: rest)) : zw_W p l e R s m args below meth c D A nL Q nc ns ws pc lv st := by
  intro H locs ls hP hD hS hl
  subst hst
  have hF := zw_free hD hS C.2.2.2.2.2.2
  refine va_calll (va_runV (As := As) (rest := rest) ⟨C.1, C.2.1, C.2.2.1, C.2.2.2.1, C.2.2.2.2.1⟩ (hM H.size) (cwV n C.2.2.2.2.1 (zw_goodV K) rfl hR.1 hR.2.1 K.2.2 hR.2.2.1) ⟨zw_blind, va_recv C.2.2.2.2.2.1 hP F.1 he, fun U hU hW => ⟨rfl, by rw [hU], by rw [hU]; exact hP, va_K.moved hW.alike C.2.2.2.2.2.1, hD.weaken (fun _ _ _ _ => trivial)⟩⟩ rfl hn hl.1 rfl (lv_room hcat) hd hR.2.2.2) hS (fun q _ h => hF q h) hF (fun r2 u t H1 locs1 ht hvm hw hB hz1 hk1 hS1 => ?_)
  subst hw
  exact k H1 locs1 ls (ht ▸ hB.1) (hB.2.weaken (fun _ _ _ h => hF _ h)) hS1 hl
theorem zw_callv (C : zw_C p s m args c D tys A own cc nL) {y : MethodName} {bytes : ByteArray} {maxL n index : Nat} {rm : Room} {Cn : String} {b ci N : Nat} {T : u_T} {fs As rest : List Value} (K : zw_KV own index Cn y bytes maxL none n) (hM : zw_Mv l y bytes maxL D tys rm (.ref b :: As) ws ws2) (hR : zw_RR rm R maxL nc ns) (F : zw_F Cn T N ci) (q0 : Nat) (he : ws[q0]? = some (b, .inr (ci, fs))) (hn : As.length = n) (hst : st = As.reverse ++ .ref b :: rest) (hcat : (rest.map fun v => v.category).sum ≤ 8) (hd : decode cc pc = .ok (.invokevirtual index, 3)) (k : zw_W p l e R s m args below meth c D A nL Q nc ns ws2 (pc + 3) lv rest) : zw_W p l e R s m args below meth c D A nL Q nc ns ws pc lv st := by
  intro H locs ls hP hD hS hl
  subst hst
  have hF := zw_free hD hS C.2.2.2.2.2.2
  refine va_callv (va_runV (As := As) (rest := rest) ⟨C.1, C.2.1, C.2.2.1, C.2.2.2.1, C.2.2.2.2.1⟩ (hM H.size) (cwV n C.2.2.2.2.1 (zw_goodV K) rfl hR.1 hR.2.1 K.2.2 hR.2.2.1) ⟨zw_blind, va_recv C.2.2.2.2.2.1 hP F.1 he, fun U hU hW => ⟨rfl, by rw [hU], by rw [hU]; exact hP, va_K.moved hW.alike C.2.2.2.2.2.1, hD.weaken (fun _ _ _ _ => trivial)⟩⟩ rfl hn hl.1 rfl (lv_room hcat) hd hR.2.2.2) hS (fun q _ h => hF q h) hF (fun u t H1 locs1 ht hvm hw hB hz1 hk1 hS1 => ?_)
  exact k H1 locs1 ls (ht ▸ hB.1) (hB.2.weaken (fun _ _ _ h => hF _ h)) hS1 hl
theorem zw_scalli (C : zw_C p s m args c D tys A own cc nL) {y : MethodName} {bytes : ByteArray} {maxL n index : Nat} {rt : FieldType} {rm : Room} {As rest : List Value} {r : Int32} (K : zw_KS own index y bytes maxL (some rt) n) (hM : zw_Mi l y bytes maxL rt D tys rm As ws ws2 r) (hR : zw_RR rm R maxL nc ns) (hn : As.length = n) (hst : st = As.reverse ++ rest) (hcat : (rest.map fun v => v.category).sum ≤ 8) (hd : decode cc pc = .ok (.invokestatic index, 3)) (k : zw_W p l e R s m args below meth c D A nL Q nc ns ws2 (pc + 3) lv (.int r :: rest)) : zw_W p l e R s m args below meth c D A nL Q nc ns ws pc lv st := by
  intro H locs ls hP hD hS hl
  subst hst
  have hF := zw_free hD hS C.2.2.2.2.2.2
  refine va_calli (va_runS (As := As) (rest := rest) ⟨C.1, C.2.1, C.2.2.1, C.2.2.2.1, C.2.2.2.2.1⟩ (hM H.size) (cwS n C.2.2.2.2.1 (zw_goodS K) rfl hR.1 hR.2.1 K.2.2 hR.2.2.1) ⟨zw_blind, fun U hU hW => ⟨rfl, by rw [hU], by rw [hU]; exact hP, va_K.moved hW.alike C.2.2.2.2.2.1, hD.weaken (fun _ _ _ _ => trivial)⟩⟩ rfl hn hl.1 rfl (lv_room hcat) hd hR.2.2.2) hS (fun q _ h => hF q h) hF (fun r2 u t H1 locs1 ht hvm hw hB hz1 hk1 hS1 => ?_)
  subst hw
  exact k H1 locs1 ls (ht ▸ hB.1) (hB.2.weaken (fun _ _ _ h => hF _ h)) hS1 hl
end ZR
/-! small words, and the rules for Math and arraycopy -/
def zw_l {α β : Type} (x : α) (k : α → β) : β := k x
theorem zw_l_eq {α β : Type} {x y : α} {k : α → β} (e : x = y) : zw_l x k = k y := by subst e; rfl
abbrev zw_tys (cI cL : ClassId) : List (ClassId × FieldType) := [(cI, .int), (cL, .long)]
abbrev zw_rm (f k : Nat) : Room := { frames := f, cells := 0, slots := 0, locals := k }
theorem zw_tout {x : Int32} {n : Nat} (hn : n < 2 ^ 31) (h : ∀ k : Nat, k ≤ n → ¬ x = nI k) : x.toInt < 0 ∨ (n : Int) < x.toInt := by
  rcases Int.lt_or_le x.toInt 0 with h0 | h0
  · exact Or.inl h0
  · rcases Int.lt_or_le (n : Int) x.toInt with h1 | h1
    · exact Or.inr h1
    · obtain ⟨j, hj, e⟩ := nI_of (x := x) (by intro hlt; have := Int32.lt_iff_toInt_lt.mp hlt; have z : (0 : Int32).toInt = 0 := rfl; omega)
      have hx : x.toInt = (j : Int) := by rw [e]; exact nI_toInt hj
      exact absurd e (h j (by omega))
theorem zw_nb {r : Int32} (h : r = 0 ∨ r = 1) : narrow .boolean (.int r) = .int r := by
  rcases h with rfl | rfl <;> rfl
section ZX
variable {p : Program} {l : Launch} {e : Env} {R : Room} {s : State} {m : MethodId} {args : Array Value} {below : List Frame} {meth : Method} {c : Code} {D : va_G} {tys : List (ClassId × FieldType)} {A : Nat → Prop} {own : String} {cc : ByteArray} {nL : Nat} {Q : State → Prop} {nc ns : Nat} {ws : va_W} {pc : Nat} {lv : List (Nat × Value)} {st : List Value}
theorem zw_mmax (C : zw_C p s m args c D tys A own cc nL) {index : Nat} (K : Cond.methodLink own index Lib.Math.max.name ∈ zw_tbl ∧ Cond.static Lib.Math.max.name ∈ zw_tbl ∧ Cond.initialized "java/lang/Math" ∈ zw_tbl ∧ Cond.code Lib.Math.max.name Lib.Math.max.code 2 (some .int) ∈ zw_tbl) (hf : 1 ≤ R.frames) (hlo : 40 ≤ R.locals) (hcat : (st.map fun v => v.category).sum ≤ 8) (hc : nc ≤ R.cells) (hs : ns ≤ R.slots) {x y : Int32} (hd : decode cc pc = .ok (.invokestatic index, 3)) (k : zw_W p l e R s m args below meth c D A nL Q nc ns ws (pc + 3) lv (.int (if x < y then y else x) :: st)) : zw_W p l e R s m args below meth c D A nL Q nc ns ws pc lv (.int y :: .int x :: st) := fun H locs ls hP hD hS hl => va_mmax C.1 C.2.1 (C.2.2.1.trans hl.1.symm) C.2.2.2.1 (C.2.2.2.2.1 _ K.1) (C.2.2.2.2.1 _ K.2.1) (C.2.2.2.2.1 _ K.2.2.1) (C.2.2.2.2.1 _ K.2.2.2) hf (by omega) hc hs hd (k H locs ls hP hD hS hl)
theorem zw_mminL (C : zw_C p s m args c D tys A own cc nL) {index : Nat} (K : Cond.methodLink own index Lib.MathLoose.min_long.x ∈ zw_tbl ∧ Cond.static Lib.MathLoose.min_long.x ∈ zw_tbl ∧ Cond.initialized "java/lang/Math" ∈ zw_tbl ∧ Cond.code Lib.MathLoose.min_long.x Lib.MathLoose.min_long.code 4 (some .long) ∈ zw_tbl) (hf : 1 ≤ R.frames) (hlo : 40 ≤ R.locals) (hcat : (st.map fun v => v.category).sum ≤ 8) (hc : nc ≤ R.cells) (hs : ns ≤ R.slots) {x y : Int64} (hd : decode cc pc = .ok (.invokestatic index, 3)) (k : zw_W p l e R s m args below meth c D A nL Q nc ns ws (pc + 3) lv (.long (if y < x then y else x) :: st)) : zw_W p l e R s m args below meth c D A nL Q nc ns ws pc lv (.long y :: .long x :: st) := fun H locs ls hP hD hS hl => va_mmin_long C.1 C.2.1 (C.2.2.1.trans hl.1.symm) C.2.2.2.1 (C.2.2.2.2.1 _ K.1) (C.2.2.2.2.1 _ K.2.1) (C.2.2.2.2.1 _ K.2.2.1) (C.2.2.2.2.1 _ K.2.2.2) hf (by omega) hc hs hd (k H locs ls hP hD hS hl)
theorem zw_copyi (C : zw_C p s m args c D tys A own cc nL) {index : Nat} (q0 q1 : Nat) (K : Cond.methodLink own index arraycopyName ∈ zw_tbl ∧ Cond.native arraycopyName ∈ zw_tbl ∧ Cond.static arraycopyName ∈ zw_tbl ∧ Cond.initialized "java/lang/System" ∈ zw_tbl) {a a0 : Nat} {cA : ClassId} {n0 n1 : Nat} {f g : Nat → Int32} {ws2 : va_W} (ht : tys[0]? = some (cA, .int)) (ha0 : ws[q0]? = some (a0, .inl (cA, n0, .inl f))) (ha1 : ws[q1]? = some (a, .inl (cA, n1, .inl g))) {sp dp n : Int32} (h1 : ¬ sp < 0) (h2 : ¬ dp < 0) (h3 : (¬ n < 0) ∧ sp.toNatClampNeg + n.toNatClampNeg ≤ n0 ∧ dp.toNatClampNeg + n.toNatClampNeg ≤ n1) (hf : 1 ≤ R.frames) (hlo : 60 ≤ R.locals) (hcat : (st.map fun v => v.category).sum ≤ 8) (hw : ws.set q1 (a, .inl (cA, n1, .inl (va_cpy f g sp.toNatClampNeg dp.toNatClampNeg n.toNatClampNeg))) = ws2) (hd : decode cc pc = .ok (.invokestatic index, 3)) (k : zw_W p l e R s m args below meth c D A nL Q nc ns ws2 (pc + 3) lv st) : zw_W p l e R s m args below meth c D A nL Q nc ns ws pc lv (.int n :: .int dp :: .ref a :: .int sp :: .ref a0 :: st) := fun H locs ls hP hD hS hl => va_copyi C.1 C.2.1 (C.2.2.1.trans hl.1.symm) C.2.2.2.1 (C.2.2.2.2.1 _ K.1) (C.2.2.2.2.1 _ K.2.1) (C.2.2.2.2.1 _ K.2.2.1) (C.2.2.2.2.1 _ K.2.2.2) C.2.2.2.2.2.1 hP hD hS q0 q1 0 0 ha0 ha1 ht ht rfl h1 h2 h3.1 h3.2.1 h3.2.2 (fun _ _ => rfl) hf (Nat.le_trans (Nat.add_le_add hcat (Nat.le_of_ble_eq_true (m := 52) rfl)) hlo) hd (fun H1 locs1 hP1 hD1 hS1 => k H1 locs1 ls (hw ▸ hP1) (hw ▸ hD1) hS1 hl)
theorem zw_ldc2 (C : zw_C p s m args c D tys A own cc nL) {index : Nat} {v : Int64} (K : Cond.constantLong own index v ∈ zw_tbl) (hd : decode cc pc = .ok (.ldc2_w index, 3)) (k : zw_W p l e R s m args below meth c D A nL Q nc ns ws (pc + 3) lv (.long v :: st)) : zw_W p l e R s m args below meth c D A nL Q nc ns ws pc lv st := fun H locs ls hP hD hS hl => W.ldc2 C.1 C.2.1 C.2.2.2.1 (C.2.2.2.2.1 _ K) (g := F0 m pc ls st) rfl hd (k H locs ls hP hD hS hl)
end ZX
end
section
/-! the words of the fields and calls, by their places in the tables -/
theorem FX0 : zw_F RX0 TX0 5 0 := ⟨rfl, fun w h => by
  obtain ⟨k, hk, rfl⟩ := List.mem_map.mp h
  have hk := List.mem_range.mp hk
  match k, hk with | 0, _ => exact (zw_in1 57 rfl rfl) | 1, _ => exact (zw_in1 59 rfl rfl) | 2, _ => exact (zw_in1 61 rfl rfl) | 3, _ => exact (zw_in1 63 rfl rfl) | 4, _ => exact (zw_in1 65 rfl rfl) | k + 5, hk => exact absurd hk (by omega)⟩
theorem GX0 : zw_FW TX0 5 tyX0 := ⟨tyX0_ok, nmX0⟩
theorem FX1 : zw_F RX1 TX1 5 1 := ⟨rfl, fun w h => by
  obtain ⟨k, hk, rfl⟩ := List.mem_map.mp h
  have hk := List.mem_range.mp hk
  match k, hk with | 0, _ => exact (zw_in1 32 rfl rfl) | 1, _ => exact (zw_in1 34 rfl rfl) | 2, _ => exact (zw_in1 36 rfl rfl) | 3, _ => exact (zw_in1 38 rfl rfl) | 4, _ => exact (zw_in1 40 rfl rfl) | k + 5, hk => exact absurd hk (by omega)⟩
theorem GX1 : zw_FW TX1 5 tyX1 := ⟨tyX1_ok, nmX1⟩
theorem FX2 : zw_F RX2 TX2 6 2 := ⟨rfl, fun w h => by
  obtain ⟨k, hk, rfl⟩ := List.mem_map.mp h
  have hk := List.mem_range.mp hk
  match k, hk with | 0, _ => exact (zw_in1 85 rfl rfl) | 1, _ => exact (zw_in1 87 rfl rfl) | 2, _ => exact (zw_in1 89 rfl rfl) | 3, _ => exact (zw_in1 91 rfl rfl) | 4, _ => exact (zw_in1 93 rfl rfl) | 5, _ => exact (zw_in1 95 rfl rfl) | k + 6, hk => exact absurd hk (by omega)⟩
theorem GX2 : zw_FW TX2 6 tyX2 := ⟨tyX2_ok, nmX2⟩
theorem FX3 : zw_F RX3 TX3 13 3 := ⟨rfl, fun w h => by
  obtain ⟨k, hk, rfl⟩ := List.mem_map.mp h
  have hk := List.mem_range.mp hk
  match k, hk with | 0, _ => exact (zw_in1 111 rfl rfl) | 1, _ => exact (zw_in1 113 rfl rfl) | 2, _ => exact (zw_in1 115 rfl rfl) | 3, _ => exact (zw_in1 117 rfl rfl) | 4, _ => exact (zw_in1 119 rfl rfl) | 5, _ => exact (zw_in1 121 rfl rfl) | 6, _ => exact (zw_in1 123 rfl rfl) | 7, _ => exact (zw_in1 125 rfl rfl) | 8, _ => exact (zw_in1 127 rfl rfl) | 9, _ => exact (zw_in1 129 rfl rfl) | 10, _ => exact (zw_in1 131 rfl rfl) | 11, _ => exact (zw_in1 133 rfl rfl) | 12, _ => exact (zw_in1 135 rfl rfl) | k + 13, hk => exact absurd hk (by omega)⟩
theorem GX3 : zw_FW TX3 13 tyX3 := ⟨tyX3_ok, nmX3⟩
theorem FX4 : zw_F RX4 TX4 36 4 := ⟨rfl, fun w h => by
  obtain ⟨k, hk, rfl⟩ := List.mem_map.mp h
  have hk := List.mem_range.mp hk
  match k, hk with | 0, _ => exact (zw_in2 148 rfl rfl) | 1, _ => exact (zw_in2 150 rfl rfl) | 2, _ => exact (zw_in2 152 rfl rfl) | 3, _ => exact (zw_in2 154 rfl rfl) | 4, _ => exact (zw_in2 156 rfl rfl) | 5, _ => exact (zw_in2 158 rfl rfl) | 6, _ => exact (zw_in2 160 rfl rfl) | 7, _ => exact (zw_in2 162 rfl rfl) | 8, _ => exact (zw_in2 164 rfl rfl) | 9, _ => exact (zw_in2 166 rfl rfl) | 10, _ => exact (zw_in2 168 rfl rfl) | 11, _ => exact (zw_in2 170 rfl rfl) | 12, _ => exact (zw_in2 172 rfl rfl) | 13, _ => exact (zw_in2 174 rfl rfl) | 14, _ => exact (zw_in2 176 rfl rfl) | 15, _ => exact (zw_in2 178 rfl rfl) | 16, _ => exact (zw_in2 180 rfl rfl) | 17, _ => exact (zw_in2 182 rfl rfl) | 18, _ => exact (zw_in2 184 rfl rfl) | 19, _ => exact (zw_in2 186 rfl rfl) | 20, _ => exact (zw_in2 188 rfl rfl) | 21, _ => exact (zw_in2 190 rfl rfl) | 22, _ => exact (zw_in2 192 rfl rfl) | 23, _ => exact (zw_in2 194 rfl rfl) | 24, _ => exact (zw_in2 196 rfl rfl) | 25, _ => exact (zw_in2 198 rfl rfl) | 26, _ => exact (zw_in2 200 rfl rfl) | 27, _ => exact (zw_in2 202 rfl rfl) | 28, _ => exact (zw_in2 204 rfl rfl) | 29, _ => exact (zw_in2 206 rfl rfl) | 30, _ => exact (zw_in2 208 rfl rfl) | 31, _ => exact (zw_in2 210 rfl rfl) | 32, _ => exact (zw_in2 212 rfl rfl) | 33, _ => exact (zw_in2 214 rfl rfl) | 34, _ => exact (zw_in2 216 rfl rfl) | 35, _ => exact (zw_in2 218 rfl rfl) | k + 36, hk => exact absurd hk (by omega)⟩
theorem GX4 : zw_FW TX4 36 tyX4 := ⟨tyX4_ok, nmX4⟩
theorem lkX0_9 : Cond.fieldLink RX0 9 (TX0 0).1 (TX0 0).2.1 (TX0 0).2.2.1 ∈ zw_tbl := (zw_in1 51 rfl rfl)
theorem lkX0_15 : Cond.fieldLink RX0 15 (TX0 1).1 (TX0 1).2.1 (TX0 1).2.2.1 ∈ zw_tbl := (zw_in1 52 rfl rfl)
theorem lkX0_19 : Cond.fieldLink RX0 19 (TX0 2).1 (TX0 2).2.1 (TX0 2).2.2.1 ∈ zw_tbl := (zw_in1 53 rfl rfl)
theorem lkX0_22 : Cond.fieldLink RX0 22 (TX0 3).1 (TX0 3).2.1 (TX0 3).2.2.1 ∈ zw_tbl := (zw_in1 54 rfl rfl)
theorem lkX0_25 : Cond.fieldLink RX0 25 (TX0 4).1 (TX0 4).2.1 (TX0 4).2.2.1 ∈ zw_tbl := (zw_in1 55 rfl rfl)
theorem lkX1_9 : Cond.fieldLink RX1 9 (TX1 0).1 (TX1 0).2.1 (TX1 0).2.2.1 ∈ zw_tbl := (zw_in1 22 rfl rfl)
theorem lkX1_13 : Cond.fieldLink RX1 13 (TX1 1).1 (TX1 1).2.1 (TX1 1).2.2.1 ∈ zw_tbl := (zw_in1 24 rfl rfl)
theorem lkX1_16 : Cond.fieldLink RX1 16 (TX1 2).1 (TX1 2).2.1 (TX1 2).2.2.1 ∈ zw_tbl := (zw_in1 26 rfl rfl)
theorem lkX1_19 : Cond.fieldLink RX1 19 (TX1 3).1 (TX1 3).2.1 (TX1 3).2.2.1 ∈ zw_tbl := (zw_in1 28 rfl rfl)
theorem lkX1_23 : Cond.fieldLink RX1 23 (TX1 4).1 (TX1 4).2.1 (TX1 4).2.2.1 ∈ zw_tbl := (zw_in1 30 rfl rfl)
theorem lkX2_9 : Cond.fieldLink RX2 9 (TX2 0).1 (TX2 0).2.1 (TX2 0).2.2.1 ∈ zw_tbl := (zw_in1 74 rfl rfl)
theorem lkX2_15 : Cond.fieldLink RX2 15 (TX2 1).1 (TX2 1).2.1 (TX2 1).2.2.1 ∈ zw_tbl := (zw_in1 76 rfl rfl)
theorem lkX2_18 : Cond.fieldLink RX2 18 (TX2 2).1 (TX2 2).2.1 (TX2 2).2.2.1 ∈ zw_tbl := (zw_in1 78 rfl rfl)
theorem lkX2_21 : Cond.fieldLink RX2 21 (TX2 3).1 (TX2 3).2.1 (TX2 3).2.2.1 ∈ zw_tbl := (zw_in1 80 rfl rfl)
theorem lkX2_24 : Cond.fieldLink RX2 24 (TX2 4).1 (TX2 4).2.1 (TX2 4).2.2.1 ∈ zw_tbl := (zw_in1 82 rfl rfl)
theorem lkX2_27 : Cond.fieldLink RX2 27 (TX2 5).1 (TX2 5).2.1 (TX2 5).2.2.1 ∈ zw_tbl := (zw_in1 84 rfl rfl)
theorem lkX3_9 : Cond.fieldLink RX3 9 (TX3 0).1 (TX3 0).2.1 (TX3 0).2.2.1 ∈ zw_tbl := (zw_in1 98 rfl rfl)
theorem lkX3_13 : Cond.fieldLink RX3 13 (TX3 1).1 (TX3 1).2.1 (TX3 1).2.2.1 ∈ zw_tbl := (zw_in1 99 rfl rfl)
theorem lkX3_17 : Cond.fieldLink RX3 17 (TX3 2).1 (TX3 2).2.1 (TX3 2).2.2.1 ∈ zw_tbl := (zw_in1 100 rfl rfl)
theorem lkX3_20 : Cond.fieldLink RX3 20 (TX3 3).1 (TX3 3).2.1 (TX3 3).2.2.1 ∈ zw_tbl := (zw_in1 101 rfl rfl)
theorem lkX3_24 : Cond.fieldLink RX3 24 (TX3 4).1 (TX3 4).2.1 (TX3 4).2.2.1 ∈ zw_tbl := (zw_in1 102 rfl rfl)
theorem lkX3_27 : Cond.fieldLink RX3 27 (TX3 5).1 (TX3 5).2.1 (TX3 5).2.2.1 ∈ zw_tbl := (zw_in1 103 rfl rfl)
theorem lkX3_33 : Cond.fieldLink RX3 33 (TX3 6).1 (TX3 6).2.1 (TX3 6).2.2.1 ∈ zw_tbl := (zw_in1 104 rfl rfl)
theorem lkX3_37 : Cond.fieldLink RX3 37 (TX3 7).1 (TX3 7).2.1 (TX3 7).2.2.1 ∈ zw_tbl := (zw_in1 105 rfl rfl)
theorem lkX3_40 : Cond.fieldLink RX3 40 (TX3 8).1 (TX3 8).2.1 (TX3 8).2.2.1 ∈ zw_tbl := (zw_in1 106 rfl rfl)
theorem lkX3_46 : Cond.fieldLink RX3 46 (TX3 9).1 (TX3 9).2.1 (TX3 9).2.2.1 ∈ zw_tbl := (zw_in1 107 rfl rfl)
theorem lkX3_50 : Cond.fieldLink RX3 50 (TX3 10).1 (TX3 10).2.1 (TX3 10).2.2.1 ∈ zw_tbl := (zw_in1 108 rfl rfl)
theorem lkX3_56 : Cond.fieldLink RX3 56 (TX3 11).1 (TX3 11).2.1 (TX3 11).2.2.1 ∈ zw_tbl := (zw_in1 109 rfl rfl)
theorem lkX3_60 : Cond.fieldLink RX3 60 (TX3 12).1 (TX3 12).2.1 (TX3 12).2.2.1 ∈ zw_tbl := (zw_in1 110 rfl rfl)
theorem lkX3_141 : Cond.fieldLink RX3 141 (TX0 4).1 (TX0 4).2.1 (TX0 4).2.2.1 ∈ zw_tbl := (zw_in1 56 rfl rfl)
theorem lkX3_147 : Cond.fieldLink RX3 147 (TX1 4).1 (TX1 4).2.1 (TX1 4).2.2.1 ∈ zw_tbl := (zw_in1 31 rfl rfl)
theorem lkX3_148 : Cond.fieldLink RX3 148 (TX2 0).1 (TX2 0).2.1 (TX2 0).2.2.1 ∈ zw_tbl := (zw_in1 75 rfl rfl)
theorem lkX3_151 : Cond.fieldLink RX3 151 (TX2 1).1 (TX2 1).2.1 (TX2 1).2.2.1 ∈ zw_tbl := (zw_in1 77 rfl rfl)
theorem lkX3_154 : Cond.fieldLink RX3 154 (TX2 2).1 (TX2 2).2.1 (TX2 2).2.2.1 ∈ zw_tbl := (zw_in1 79 rfl rfl)
theorem lkX3_157 : Cond.fieldLink RX3 157 (TX2 3).1 (TX2 3).2.1 (TX2 3).2.2.1 ∈ zw_tbl := (zw_in1 81 rfl rfl)
theorem lkX3_160 : Cond.fieldLink RX3 160 (TX2 4).1 (TX2 4).2.1 (TX2 4).2.2.1 ∈ zw_tbl := (zw_in1 83 rfl rfl)
theorem lkX3_172 : Cond.fieldLink RX3 172 (TX1 1).1 (TX1 1).2.1 (TX1 1).2.2.1 ∈ zw_tbl := (zw_in1 25 rfl rfl)
theorem lkX3_175 : Cond.fieldLink RX3 175 (TX1 2).1 (TX1 2).2.1 (TX1 2).2.2.1 ∈ zw_tbl := (zw_in1 27 rfl rfl)
theorem lkX3_178 : Cond.fieldLink RX3 178 (TX1 0).1 (TX1 0).2.1 (TX1 0).2.2.1 ∈ zw_tbl := (zw_in1 23 rfl rfl)
theorem lkX3_194 : Cond.fieldLink RX3 194 (TX1 3).1 (TX1 3).2.1 (TX1 3).2.2.1 ∈ zw_tbl := (zw_in1 29 rfl rfl)
theorem kvX0_29 : zw_KV RX0 29 RX0 yX0_placeOf cX0_placeOf 4 (some .int) 1 := ⟨(zw_in2 89 rfl rfl), ⟨(zw_in2 86 rfl rfl), (zw_in2 88 rfl rfl), (zw_inS 15 rfl rfl), (zw_in1 3 rfl rfl)⟩, ⟨rfl, by decide, by decide, by decide⟩⟩
theorem kvX2_30 : zw_KV RX2 30 RX2 yX2_hasFailure cX2_hasFailure 1 (some .boolean) 0 := ⟨(zw_in1 211 rfl rfl), ⟨(zw_in1 208 rfl rfl), (zw_in1 209 rfl rfl), (zw_in1 210 rfl rfl), (zw_in1 4 rfl rfl)⟩, ⟨rfl, by decide, by decide, by decide⟩⟩
theorem kvX2_34 : zw_KV RX2 34 RX2 yX2_fail cX2_fail 2 none 1 := ⟨(zw_in1 215 rfl rfl), ⟨(zw_in1 212 rfl rfl), (zw_in1 213 rfl rfl), (zw_in1 214 rfl rfl), (zw_in1 4 rfl rfl)⟩, ⟨rfl, by decide, by decide, by decide⟩⟩
theorem kvX3_64 : zw_KS RX3 64 yX3_cellOf cX3_cellOf 2 (some .int) 2 := ⟨(zw_in1 144 rfl rfl), ⟨(zw_in1 142 rfl rfl), (zw_in1 143 rfl rfl), (zw_in1 1 rfl rfl)⟩, ⟨rfl, by decide, by decide, by decide⟩⟩
theorem kvX3_68 : zw_KV RX3 68 RX3 yX3_isThing cX3_isThing 2 (some .boolean) 1 := ⟨(zw_in1 152 rfl rfl), ⟨(zw_in1 149 rfl rfl), (zw_in1 151 rfl rfl), (zw_inS 0 rfl rfl), (zw_in1 1 rfl rfl)⟩, ⟨rfl, by decide, by decide, by decide⟩⟩
theorem kvX3_72 : zw_KS RX3 72 yX3_isColumn cX3_isColumn 1 (some .boolean) 1 := ⟨(zw_in1 155 rfl rfl), ⟨(zw_in1 153 rfl rfl), (zw_in1 154 rfl rfl), (zw_in1 1 rfl rfl)⟩, ⟨rfl, by decide, by decide, by decide⟩⟩
theorem kvX3_75 : zw_KS RX3 75 yX3_isPlaceOfRow cX3_isPlaceOfRow 2 (some .boolean) 1 := ⟨(zw_in1 166 rfl rfl), ⟨(zw_in1 164 rfl rfl), (zw_in1 165 rfl rfl), (zw_in1 1 rfl rfl)⟩, ⟨rfl, by decide, by decide, by decide⟩⟩
theorem kvX3_79 : zw_KV RX3 79 RX3 yX3_canMakeScale cX3_canMakeScale 4 (some .boolean) 3 := ⟨(zw_in1 183 rfl rfl), ⟨(zw_in1 180 rfl rfl), (zw_in1 182 rfl rfl), (zw_inS 1 rfl rfl), (zw_in1 1 rfl rfl)⟩, ⟨rfl, by decide, by decide, by decide⟩⟩
theorem kvX3_83 : zw_KV RX3 83 RX1 yX1_isFull cX1_isFull 1 (some .boolean) 0 := ⟨(zw_in1 191 rfl rfl), ⟨(zw_in1 188 rfl rfl), (zw_in1 189 rfl rfl), (zw_in1 190 rfl rfl), (zw_in1 2 rfl rfl)⟩, ⟨rfl, by decide, by decide, by decide⟩⟩
theorem kvX3_87 : zw_KV RX3 87 RX3 yX3_makeNow cX3_makeNow 5 (some .int) 2 := ⟨(zw_in1 195 rfl rfl), ⟨(zw_in1 192 rfl rfl), (zw_in1 194 rfl rfl), (zw_inS 2 rfl rfl), (zw_in1 1 rfl rfl)⟩, ⟨rfl, by decide, by decide, by decide⟩⟩
theorem kvX3_90 : zw_KV RX3 90 RX1 yX1_make cX1_make 7 (some .int) 4 := ⟨(zw_in2 15 rfl rfl), ⟨(zw_in2 12 rfl rfl), (zw_in2 13 rfl rfl), (zw_in2 14 rfl rfl), (zw_in1 2 rfl rfl)⟩, ⟨rfl, by decide, by decide, by decide⟩⟩
theorem kvX3_94 : zw_KV RX3 94 RX3 yX3_canMakeSieve cX3_canMakeSieve 4 (some .boolean) 3 := ⟨(zw_in2 23 rfl rfl), ⟨(zw_in2 20 rfl rfl), (zw_in2 22 rfl rfl), (zw_inS 8 rfl rfl), (zw_in1 1 rfl rfl)⟩, ⟨rfl, by decide, by decide, by decide⟩⟩
theorem kvX3_97 : zw_KV RX3 97 RX3 yX3_canMakeOrder cX3_canMakeOrder 4 (some .boolean) 3 := ⟨(zw_in2 31 rfl rfl), ⟨(zw_in2 28 rfl rfl), (zw_in2 30 rfl rfl), (zw_inS 9 rfl rfl), (zw_in1 1 rfl rfl)⟩, ⟨rfl, by decide, by decide, by decide⟩⟩
theorem kvX3_100 : zw_KV RX3 100 RX1 yX1_has cX1_has 2 (some .boolean) 1 := ⟨(zw_in1 187 rfl rfl), ⟨(zw_in1 184 rfl rfl), (zw_in1 185 rfl rfl), (zw_in1 186 rfl rfl), (zw_in1 2 rfl rfl)⟩, ⟨rfl, by decide, by decide, by decide⟩⟩
theorem kvX3_103 : zw_KV RX3 103 RX2 yX2_opensCall cX2_opensCall 1 (some .boolean) 0 := ⟨(zw_in1 199 rfl rfl), ⟨(zw_in1 196 rfl rfl), (zw_in1 197 rfl rfl), (zw_in1 198 rfl rfl), (zw_in1 4 rfl rfl)⟩, ⟨rfl, by decide, by decide, by decide⟩⟩
theorem kvX3_106 : zw_KV RX3 106 RX3 yX3_askScale cX3_askScale 5 (some .long) 2 := ⟨(zw_in1 203 rfl rfl), ⟨(zw_in1 200 rfl rfl), (zw_in1 202 rfl rfl), (zw_inS 3 rfl rfl), (zw_in1 1 rfl rfl)⟩, ⟨rfl, by decide, by decide, by decide⟩⟩
theorem kvX3_110 : zw_KV RX3 110 RX2 yX2_hasFailure cX2_hasFailure 1 (some .boolean) 0 := ⟨(zw_in1 211 rfl rfl), ⟨(zw_in2 7 rfl rfl), (zw_in1 209 rfl rfl), (zw_in1 210 rfl rfl), (zw_in1 4 rfl rfl)⟩, ⟨rfl, by decide, by decide, by decide⟩⟩
theorem kvX3_113 : zw_KV RX3 113 RX2 yX2_endFailedCall cX2_endFailedCall 1 (some .int) 0 := ⟨(zw_in2 11 rfl rfl), ⟨(zw_in2 8 rfl rfl), (zw_in2 9 rfl rfl), (zw_in2 10 rfl rfl), (zw_in1 4 rfl rfl)⟩, ⟨rfl, by decide, by decide, by decide⟩⟩
theorem kvX3_117 : zw_KV RX3 117 RX3 yX3_askSieve cX3_askSieve 5 (some .boolean) 2 := ⟨(zw_in1 227 rfl rfl), ⟨(zw_in1 224 rfl rfl), (zw_in1 226 rfl rfl), (zw_inS 5 rfl rfl), (zw_in1 1 rfl rfl)⟩, ⟨rfl, by decide, by decide, by decide⟩⟩
theorem kvX3_121 : zw_KV RX3 121 RX3 yX3_takeDraft cX3_takeDraft 2 none 1 := ⟨(zw_in2 43 rfl rfl), ⟨(zw_in2 40 rfl rfl), (zw_in2 42 rfl rfl), (zw_inS 10 rfl rfl), (zw_in1 1 rfl rfl)⟩, ⟨rfl, by decide, by decide, by decide⟩⟩
theorem kvX3_131 : zw_KV RX3 131 RX3 yX3_moveForward cX3_moveForward 5 (some .int) 2 := ⟨(zw_in2 54 rfl rfl), ⟨(zw_in2 51 rfl rfl), (zw_in2 53 rfl rfl), (zw_inS 11 rfl rfl), (zw_in1 1 rfl rfl)⟩, ⟨rfl, by decide, by decide, by decide⟩⟩
theorem kvX3_134 : zw_KV RX3 134 RX0 yX0_clear cX0_clear 1 none 0 := ⟨(zw_in2 81 rfl rfl), ⟨(zw_in2 78 rfl rfl), (zw_in2 79 rfl rfl), (zw_in2 80 rfl rfl), (zw_in1 3 rfl rfl)⟩, ⟨rfl, by decide, by decide, by decide⟩⟩
theorem kvX3_137 : zw_KV RX3 137 RX0 yX0_add cX0_add 7 none 3 := ⟨(zw_in2 85 rfl rfl), ⟨(zw_in2 82 rfl rfl), (zw_in2 83 rfl rfl), (zw_in2 84 rfl rfl), (zw_in1 3 rfl rfl)⟩, ⟨rfl, by decide, by decide, by decide⟩⟩
theorem kvX3_144 : zw_KV RX3 144 RX0 yX0_tellOf cX0_tellOf 3 (some .long) 2 := ⟨(zw_in2 101 rfl rfl), ⟨(zw_in2 98 rfl rfl), (zw_in2 99 rfl rfl), (zw_in2 100 rfl rfl), (zw_in1 3 rfl rfl)⟩, ⟨rfl, by decide, by decide, by decide⟩⟩
theorem kvX3_165 : zw_KV RX3 165 RX3 yX3_askOrder cX3_askOrder 6 (some .int) 3 := ⟨(zw_in2 58 rfl rfl), ⟨(zw_in2 55 rfl rfl), (zw_in2 57 rfl rfl), (zw_inS 12 rfl rfl), (zw_in1 1 rfl rfl)⟩, ⟨rfl, by decide, by decide, by decide⟩⟩
theorem kvX3_169 : zw_KV RX3 169 RX2 yX2_beginsAsking cX2_beginsAsking 1 (some .boolean) 0 := ⟨(zw_in1 207 rfl rfl), ⟨(zw_in1 204 rfl rfl), (zw_in1 205 rfl rfl), (zw_in1 206 rfl rfl), (zw_in1 4 rfl rfl)⟩, ⟨rfl, by decide, by decide, by decide⟩⟩
theorem kvX3_181 : zw_KV RX3 181 RX3 yX3_quotient cX3_quotient 5 (some .long) 2 := ⟨(zw_in1 219 rfl rfl), ⟨(zw_in1 216 rfl rfl), (zw_in1 218 rfl rfl), (zw_inS 4 rfl rfl), (zw_in1 1 rfl rfl)⟩, ⟨rfl, by decide, by decide, by decide⟩⟩
theorem kvX3_190 : zw_KV RX3 190 RX3 yX3_itemAt cX3_itemAt 3 (some .long) 1 := ⟨(zw_in2 6 rfl rfl), ⟨(zw_in2 3 rfl rfl), (zw_in2 5 rfl rfl), (zw_inS 7 rfl rfl), (zw_in1 1 rfl rfl)⟩, ⟨rfl, by decide, by decide, by decide⟩⟩
theorem kvX3_197 : zw_KV RX3 197 RX1 yX1_countAsked cX1_countAsked 2 (some .long) 1 := ⟨(zw_in1 231 rfl rfl), ⟨(zw_in1 228 rfl rfl), (zw_in1 229 rfl rfl), (zw_in1 230 rfl rfl), (zw_in1 2 rfl rfl)⟩, ⟨rfl, by decide, by decide, by decide⟩⟩
theorem kvX3_201 : zw_KV RX3 201 RX2 yX2_fail cX2_fail 2 none 1 := ⟨(zw_in1 215 rfl rfl), ⟨(zw_in1 220 rfl rfl), (zw_in1 213 rfl rfl), (zw_in1 214 rfl rfl), (zw_in1 4 rfl rfl)⟩, ⟨rfl, by decide, by decide, by decide⟩⟩
theorem kvX3_207 : zw_KV RX3 207 RX3 yX3_askSafely cX3_askSafely 4 (some .boolean) 2 := ⟨(zw_in1 238 rfl rfl), ⟨(zw_in1 235 rfl rfl), (zw_in1 237 rfl rfl), (zw_inS 6 rfl rfl), (zw_in1 1 rfl rfl)⟩, ⟨rfl, by decide, by decide, by decide⟩⟩
theorem kvX3_210 : zw_KS RX3 210 yX3_lesserFirst cX3_lesserFirst 4 (some .int) 2 := ⟨(zw_in2 61 rfl rfl), ⟨(zw_in2 59 rfl rfl), (zw_in2 60 rfl rfl), (zw_in1 1 rfl rfl)⟩, ⟨rfl, by decide, by decide, by decide⟩⟩
theorem kvX3_214 : zw_KV RX3 214 RX3 yX3_askThen cX3_askThen 6 (some .int) 4 := ⟨(zw_in2 65 rfl rfl), ⟨(zw_in2 62 rfl rfl), (zw_in2 64 rfl rfl), (zw_inS 13 rfl rfl), (zw_in1 1 rfl rfl)⟩, ⟨rfl, by decide, by decide, by decide⟩⟩
theorem kvX3_218 : zw_KV RX3 218 RX3 yX3_rankBySieve cX3_rankBySieve 3 (some .int) 2 := ⟨(zw_in2 69 rfl rfl), ⟨(zw_in2 66 rfl rfl), (zw_in2 68 rfl rfl), (zw_inS 14 rfl rfl), (zw_in1 1 rfl rfl)⟩, ⟨rfl, by decide, by decide, by decide⟩⟩
theorem kvX3_221 : zw_KV RX3 221 RX2 yX2_meetsFailure cX2_meetsFailure 1 (some .boolean) 0 := ⟨(zw_in2 2 rfl rfl), ⟨(zw_in1 239 rfl rfl), (zw_in2 0 rfl rfl), (zw_in2 1 rfl rfl), (zw_in1 4 rfl rfl)⟩, ⟨rfl, by decide, by decide, by decide⟩⟩
theorem lkmX3_125 : Cond.methodLink RX3 125 arraycopyName ∈ zw_tbl ∧ Cond.native arraycopyName ∈ zw_tbl ∧ Cond.static arraycopyName ∈ zw_tbl ∧ Cond.initialized "java/lang/System" ∈ zw_tbl := ⟨(zw_in2 44 rfl rfl), (zw_in2 46 rfl rfl), (zw_in2 45 rfl rfl), (zw_in1 7 rfl rfl)⟩
theorem lkmX3_185 : Cond.methodLink RX3 185 Lib.MathLoose.min_long.x ∈ zw_tbl ∧ Cond.static Lib.MathLoose.min_long.x ∈ zw_tbl ∧ Cond.initialized "java/lang/Math" ∈ zw_tbl ∧ Cond.code Lib.MathLoose.min_long.x Lib.MathLoose.min_long.code 4 (some .long) ∈ zw_tbl := ⟨(zw_in1 221 rfl rfl), (zw_in1 222 rfl rfl), (zw_in1 6 rfl rfl), (zw_in1 223 rfl rfl)⟩
theorem lkmX3_204 : Cond.methodLink RX3 204 Lib.Math.max.name ∈ zw_tbl ∧ Cond.static Lib.Math.max.name ∈ zw_tbl ∧ Cond.initialized "java/lang/Math" ∈ zw_tbl ∧ Cond.code Lib.Math.max.name Lib.Math.max.code 2 (some .int) ∈ zw_tbl := ⟨(zw_in1 232 rfl rfl), (zw_in1 233 rfl rfl), (zw_in1 6 rfl rfl), (zw_in1 234 rfl rfl)⟩
theorem lkcX3_163 : Cond.constantLong RX3 163 (8) ∈ zw_tbl := (zw_in1 167 rfl rfl)
end
section
/-! THE DESK: its cells, by what they hold. B: things, list length, latest told, cells, row, listed, draft; S, V, O: kinds, a, b, kept, size; G, F: keys, members, totals, firsts, size; T: begun, ever, met, failed calls, latest failure, standing. -/
abbrev dB : Type := Int32 × Int32 × Int64 × (Nat → Int64) × (Nat → Int64) × (Nat → Int32) × (Nat → Int32)
abbrev dS : Type := (Nat → Int32) × (Nat → Int32) × (Nat → Int32) × (Nat → Int64) × Int32
abbrev dV : Type := (Nat → Int32) × (Nat → Int32) × (Nat → Int32) × (Nat → Int64) × Int32
abbrev dO : Type := (Nat → Int32) × (Nat → Int32) × (Nat → Int32) × (Nat → Int64) × Int32
abbrev dG : Type := (Nat → Int64) × (Nat → Int32) × (Nat → Int64) × (Nat → Int32) × Int32
abbrev dF : Type := (Nat → Int64) × (Nat → Int32) × (Nat → Int64) × (Nat → Int32) × Int32
abbrev dT : Type := Int32 × Int32 × Int32 × Int32 × Int32 × Int32
def wD (cI cL : ClassId) (a : Nat → Nat) (B : dB) (S : dS) (V : dV) (O : dO) (G : dG) (F : dF) (T : dT) : va_W := [(a 0, .inr (3, [.ref (a 1), .int B.1, .ref (a 2), .ref (a 3), .ref (a 4), .int B.2.1, .ref (a 5), .ref (a 10), .ref (a 15), .ref (a 20), .ref (a 25), .ref (a 30), .long B.2.2.1])), (a 1, .inl (cL, 120, .inr (.inl B.2.2.2.1))), (a 2, .inl (cL, 8, .inr (.inl B.2.2.2.2.1))), (a 3, .inl (cI, 40, .inl B.2.2.2.2.2.1)), (a 4, .inl (cI, 40, .inl B.2.2.2.2.2.2)), (a 5, .inr (1, [.ref (a 6), .ref (a 7), .ref (a 8), .ref (a 9), .int S.2.2.2.2])), (a 6, .inl (cI, 24, .inl S.1)), (a 7, .inl (cI, 24, .inl S.2.1)), (a 8, .inl (cI, 24, .inl S.2.2.1)), (a 9, .inl (cL, 24, .inr (.inl S.2.2.2.1))), (a 10, .inr (1, [.ref (a 11), .ref (a 12), .ref (a 13), .ref (a 14), .int V.2.2.2.2])), (a 11, .inl (cI, 24, .inl V.1)), (a 12, .inl (cI, 24, .inl V.2.1)), (a 13, .inl (cI, 24, .inl V.2.2.1)), (a 14, .inl (cL, 24, .inr (.inl V.2.2.2.1))), (a 15, .inr (1, [.ref (a 16), .ref (a 17), .ref (a 18), .ref (a 19), .int O.2.2.2.2])), (a 16, .inl (cI, 24, .inl O.1)), (a 17, .inl (cI, 24, .inl O.2.1)), (a 18, .inl (cI, 24, .inl O.2.2.1)), (a 19, .inl (cL, 24, .inr (.inl O.2.2.2.1))), (a 20, .inr (0, [.ref (a 21), .ref (a 22), .ref (a 23), .ref (a 24), .int G.2.2.2.2])), (a 21, .inl (cL, 40, .inr (.inl G.1))), (a 22, .inl (cI, 40, .inl G.2.1)), (a 23, .inl (cL, 40, .inr (.inl G.2.2.1))), (a 24, .inl (cI, 40, .inl G.2.2.2.1)), (a 25, .inr (0, [.ref (a 26), .ref (a 27), .ref (a 28), .ref (a 29), .int F.2.2.2.2])), (a 26, .inl (cL, 40, .inr (.inl F.1))), (a 27, .inl (cI, 40, .inl F.2.1)), (a 28, .inl (cL, 40, .inr (.inl F.2.2.1))), (a 29, .inl (cI, 40, .inl F.2.2.2.1)), (a 30, .inr (2, [.int T.1, .int T.2.1, .int T.2.2.1, .int T.2.2.2.1, .int T.2.2.2.2.1, .int T.2.2.2.2.2]))]
/-- a count that is at most N -/
def zw_le (x : Int32) (N : Nat) : Prop := ∃ n : Nat, n ≤ N ∧ x = nI n
theorem zw_ix {x sz : Int32} {N : Nat} (h1 : ¬ x < 0) (h2 : ¬ sz ≤ x) (hs : zw_le sz N) (hN : N < 2 ^ 31) : vp_in x N := by
  obtain ⟨n, hn, rfl⟩ := hs
  obtain ⟨j, hj, rfl⟩ := nI_of h1
  have hlt : j < n := by
    rcases Nat.lt_or_ge j n with h | h
    · exact h
    · exact absurd (nI_le h hj) h2
  exact vp_in_nI (by omega) hN
theorem zw_ix2 {x sz : Int32} {N : Nat} (h1 : ¬ x < 0) (h2 : x < sz) (hs : zw_le sz N) (hN : N < 2 ^ 31) : vp_in x N :=
  zw_ix h1 (fun h => Int32.lt_irrefl (Int32.lt_of_lt_of_le h2 h)) hs hN
end
section
def fX2_hasFailure (T : dT) : Int32 := (if T.2.2.2.2.2 = 0 then 0 else 1)
set_option maxHeartbeats 4000000 in
set_option maxRecDepth 100000 in
theorem kX2_hasFailure {l : Launch} {D : va_G} {cI cL : ClassId} {a : Nat → Nat} {B : dB} {S : dS} {V : dV} {O : dO} {G : dG} {F : dF} {T : dT} {q : Int32} (hF : fX2_hasFailure T = q) : zw_Mi l yX2_hasFailure cX2_hasFailure 1 .boolean D (zw_tys cI cL) (zw_rm 0 0) [.ref (a 30)] (wD cI cL a B S V O G F T) (wD cI cL a B S V O G F T) q := by
  unfold fX2_hasFailure at hF
  refine zw_Mi_of (own := RX2) (by decide) rfl (Nat.le_of_ble_eq_true rfl) ?_
  intro p e s m args below meth c A C hr hlk
  refine zw_eq (lv2 := [(0, .ref (a 30))]) rfl rfl rfl ?_
  refine zw_aload_n C dX2_hasFailure_0 0 rfl rfl ?_
  refine zw_get C FX2 30 5 (v := .int T.2.2.2.2.2) rfl (by decide) lkX2_27 rfl dX2_hasFailure_1 ?_
  refine zw_if_eq C 11 dX2_hasFailure_4 (by decide) (fun h1 => ?_) (fun h1 => ?_)
  · rw [if_pos h1] at hF
    refine zw_iconst C (v := 0) dX2_hasFailure_11 (by decide) ?_
    subst hF
    exact zw_zreturn C hr hlk rfl dX2_hasFailure_12 rfl rfl
  · rw [if_neg h1] at hF
    refine zw_iconst C (v := 1) dX2_hasFailure_7 (by decide) ?_
    refine zw_goto C 12 dX2_hasFailure_8 (by decide) ?_
    subst hF
    exact zw_zreturn C hr hlk rfl dX2_hasFailure_12 rfl rfl
def fX2_opensCall (T : dT) : Int32 × dT := (if T.2.2.1 < 2000 then (1, (0, T.2.1, T.2.2.1, T.2.2.2.1, T.2.2.2.2.1, 0)) else (0, T))
set_option maxHeartbeats 4000000 in
set_option maxRecDepth 100000 in
theorem kX2_opensCall {l : Launch} {D : va_G} {cI cL : ClassId} {a : Nat → Nat} {B : dB} {S : dS} {V : dV} {O : dO} {G : dG} {F : dF} {T : dT} {q : Int32 × dT} (hF : fX2_opensCall T = q) : zw_Mi l yX2_opensCall cX2_opensCall 1 .boolean D (zw_tys cI cL) (zw_rm 0 0) [.ref (a 30)] (wD cI cL a B S V O G F T) (wD cI cL a B S V O G F q.2) q.1 := by
  unfold fX2_opensCall at hF
  refine zw_Mi_of (own := RX2) (by decide) rfl (Nat.le_of_ble_eq_true rfl) ?_
  intro p e s m args below meth c A C hr hlk
  refine zw_eq (lv2 := [(0, .ref (a 30))]) rfl rfl rfl ?_
  refine zw_aload_n C dX2_opensCall_0 0 rfl rfl ?_
  refine zw_get C FX2 30 2 (v := .int T.2.2.1) rfl (by decide) lkX2_18 rfl dX2_opensCall_1 ?_
  refine zw_sipush C (v := 2000) dX2_opensCall_4 (by decide) ?_
  refine zw_icmp_lt C 12 dX2_opensCall_7 (by decide) (fun h1 => ?_) (fun h1 => ?_)
  · rw [if_pos h1] at hF
    refine zw_aload_n C dX2_opensCall_12 0 rfl rfl ?_
    refine zw_iconst C (v := 0) dX2_opensCall_13 (by decide) ?_
    refine zw_put C FX2 GX2 30 0 (v := .int 0) (ws2 := (wD cI cL a B S V O G F (0, T.2.1, T.2.2.1, T.2.2.2.1, T.2.2.2.2.1, T.2.2.2.2.2))) rfl (by decide) lkX2_9 rfl rfl rfl (Nat.le_of_ble_eq_true rfl) rfl dX2_opensCall_14 ?_
    refine zw_aload_n C dX2_opensCall_17 0 rfl rfl ?_
    refine zw_iconst C (v := 0) dX2_opensCall_18 (by decide) ?_
    refine zw_put C FX2 GX2 30 5 (v := .int 0) (ws2 := (wD cI cL a B S V O G F (0, T.2.1, T.2.2.1, T.2.2.2.1, T.2.2.2.2.1, 0))) rfl (by decide) lkX2_27 rfl rfl rfl (Nat.le_of_ble_eq_true rfl) rfl dX2_opensCall_19 ?_
    refine zw_iconst C (v := 1) dX2_opensCall_22 (by decide) ?_
    subst hF
    exact zw_zreturn C hr hlk rfl dX2_opensCall_23 rfl rfl
  · rw [if_neg h1] at hF
    refine zw_iconst C (v := 0) dX2_opensCall_10 (by decide) ?_
    subst hF
    exact zw_zreturn C hr hlk rfl dX2_opensCall_11 rfl rfl
def fX2_fail (T : dT) (p1 : Int32) : dT := (if (fX2_hasFailure T) = 0 then (T.1, T.2.1, T.2.2.1, T.2.2.2.1, T.2.2.2.2.1, p1) else T)
set_option maxHeartbeats 4000000 in
set_option maxRecDepth 100000 in
theorem kX2_fail {l : Launch} {D : va_G} {cI cL : ClassId} {a : Nat → Nat} {B : dB} {S : dS} {V : dV} {O : dO} {G : dG} {F : dF} {T : dT} {p1 : Int32} {q : dT} (hF : fX2_fail T p1 = q) : zw_Mv l yX2_fail cX2_fail 2 D (zw_tys cI cL) (zw_rm 1 20) [.ref (a 30), .int p1] (wD cI cL a B S V O G F T) (wD cI cL a B S V O G F q) := by
  unfold fX2_fail at hF
  refine zw_Mv_of (own := RX2) (by decide) rfl (Nat.le_of_ble_eq_true rfl) ?_
  intro p e s m args below meth c A C hr hlk
  refine zw_eq (lv2 := [(0, .ref (a 30)), (1, .int p1)]) rfl rfl rfl ?_
  refine zw_aload_n C dX2_fail_0 0 rfl rfl ?_
  refine zw_calli C kvX2_30 (kX2_hasFailure rfl) ⟨rfl, rfl, ⟨by decide, by decide⟩, by decide, by decide⟩ FX2 30 (As := []) (rest := []) rfl rfl rfl (Nat.le_of_ble_eq_true rfl) dX2_fail_1 ?_
  refine zw_if_ne C 12 dX2_fail_4 (by decide) (fun h1 => ?_) (fun h1 => ?_)
  · rw [if_neg h1] at hF
    subst hF
    exact zw_return C hr hlk dX2_fail_12 rfl
  · rw [if_pos h1] at hF
    refine zw_aload_n C dX2_fail_7 0 rfl rfl ?_
    refine zw_iload_n C dX2_fail_8 1 rfl rfl ?_
    refine zw_put C FX2 GX2 30 5 (v := .int p1) (ws2 := (wD cI cL a B S V O G F (T.1, T.2.1, T.2.2.1, T.2.2.2.1, T.2.2.2.2.1, p1))) rfl (by decide) lkX2_27 rfl rfl rfl (Nat.le_of_ble_eq_true rfl) rfl dX2_fail_9 ?_
    subst hF
    exact zw_return C hr hlk dX2_fail_12 rfl
def fX2_beginsAsking (T : dT) : Int32 × dT := (if (fX2_hasFailure T) = 0 then (if T.1 < 2000 then (1, (T.1 + 1, T.2.1 + 1, T.2.2.1, T.2.2.2.1, T.2.2.2.2.1, T.2.2.2.2.2)) else (zw_l (fX2_fail T 4) (fun q3 => (0, q3)))) else (0, T))
set_option maxHeartbeats 4000000 in
set_option maxRecDepth 100000 in
theorem kX2_beginsAsking {l : Launch} {D : va_G} {cI cL : ClassId} {a : Nat → Nat} {B : dB} {S : dS} {V : dV} {O : dO} {G : dG} {F : dF} {T : dT} {q : Int32 × dT} (hF : fX2_beginsAsking T = q) : zw_Mi l yX2_beginsAsking cX2_beginsAsking 1 .boolean D (zw_tys cI cL) (zw_rm 2 41) [.ref (a 30)] (wD cI cL a B S V O G F T) (wD cI cL a B S V O G F q.2) q.1 := by
  unfold fX2_beginsAsking at hF
  refine zw_Mi_of (own := RX2) (by decide) rfl (Nat.le_of_ble_eq_true rfl) ?_
  intro p e s m args below meth c A C hr hlk
  refine zw_eq (lv2 := [(0, .ref (a 30))]) rfl rfl rfl ?_
  refine zw_aload_n C dX2_beginsAsking_0 0 rfl rfl ?_
  refine zw_calli C kvX2_30 (kX2_hasFailure rfl) ⟨rfl, rfl, ⟨by decide, by decide⟩, by decide, by decide⟩ FX2 30 (As := []) (rest := []) rfl rfl rfl (Nat.le_of_ble_eq_true rfl) dX2_beginsAsking_1 ?_
  refine zw_if_eq C 9 dX2_beginsAsking_4 (by decide) (fun h1 => ?_) (fun h1 => ?_)
  · rw [if_pos h1] at hF
    refine zw_aload_n C dX2_beginsAsking_9 0 rfl rfl ?_
    refine zw_get C FX2 30 0 (v := .int T.1) rfl (by decide) lkX2_9 rfl dX2_beginsAsking_10 ?_
    refine zw_sipush C (v := 2000) dX2_beginsAsking_13 (by decide) ?_
    refine zw_icmp_lt C 26 dX2_beginsAsking_16 (by decide) (fun h2 => ?_) (fun h2 => ?_)
    · rw [if_pos h2] at hF
      refine zw_aload_n C dX2_beginsAsking_26 0 rfl rfl ?_
      refine zw_dup C dX2_beginsAsking_27 rfl ?_
      refine zw_get C FX2 30 0 (v := .int T.1) rfl (by decide) lkX2_9 rfl dX2_beginsAsking_28 ?_
      refine zw_iconst C (v := 1) dX2_beginsAsking_31 (by decide) ?_
      refine zw_iadd C dX2_beginsAsking_32 ?_
      refine zw_put C FX2 GX2 30 0 (v := .int (T.1 + 1)) (ws2 := (wD cI cL a B S V O G F (T.1 + 1, T.2.1, T.2.2.1, T.2.2.2.1, T.2.2.2.2.1, T.2.2.2.2.2))) rfl (by decide) lkX2_9 rfl rfl rfl (Nat.le_of_ble_eq_true rfl) rfl dX2_beginsAsking_33 ?_
      refine zw_aload_n C dX2_beginsAsking_36 0 rfl rfl ?_
      refine zw_dup C dX2_beginsAsking_37 rfl ?_
      refine zw_get C FX2 30 1 (v := .int T.2.1) rfl (by decide) lkX2_15 rfl dX2_beginsAsking_38 ?_
      refine zw_iconst C (v := 1) dX2_beginsAsking_41 (by decide) ?_
      refine zw_iadd C dX2_beginsAsking_42 ?_
      refine zw_put C FX2 GX2 30 1 (v := .int (T.2.1 + 1)) (ws2 := (wD cI cL a B S V O G F (T.1 + 1, T.2.1 + 1, T.2.2.1, T.2.2.2.1, T.2.2.2.2.1, T.2.2.2.2.2))) rfl (by decide) lkX2_15 rfl rfl rfl (Nat.le_of_ble_eq_true rfl) rfl dX2_beginsAsking_43 ?_
      refine zw_iconst C (v := 1) dX2_beginsAsking_46 (by decide) ?_
      subst hF
      exact zw_zreturn C hr hlk rfl dX2_beginsAsking_47 rfl rfl
    · rw [if_neg h2] at hF
      refine zw_aload_n C dX2_beginsAsking_19 0 rfl rfl ?_
      refine zw_iconst C (v := 4) dX2_beginsAsking_20 (by decide) ?_
      obtain ⟨q3, e4⟩ : ∃ z, fX2_fail T 4 = z := ⟨_, rfl⟩
      rw [zw_l_eq e4] at hF
      refine zw_callv C kvX2_34 (kX2_fail e4) ⟨rfl, rfl, ⟨by decide, by decide⟩, by decide, by decide⟩ FX2 30 (As := [.int 4]) (rest := []) rfl rfl rfl (Nat.le_of_ble_eq_true rfl) dX2_beginsAsking_21 ?_
      refine zw_iconst C (v := 0) dX2_beginsAsking_24 (by decide) ?_
      subst hF
      exact zw_zreturn C hr hlk rfl dX2_beginsAsking_25 rfl rfl
  · rw [if_neg h1] at hF
    refine zw_iconst C (v := 0) dX2_beginsAsking_7 (by decide) ?_
    subst hF
    exact zw_zreturn C hr hlk rfl dX2_beginsAsking_8 rfl rfl
def fX2_meetsFailure (T : dT) : Int32 × dT := (if (fX2_hasFailure T) = 0 then (0, T) else (if T.2.2.2.2.2 = 4 then (0, T) else (1, (T.1, T.2.1, T.2.2.1 + 1, T.2.2.2.1, T.2.2.2.2.1, 0))))
set_option maxHeartbeats 4000000 in
set_option maxRecDepth 100000 in
theorem kX2_meetsFailure {l : Launch} {D : va_G} {cI cL : ClassId} {a : Nat → Nat} {B : dB} {S : dS} {V : dV} {O : dO} {G : dG} {F : dF} {T : dT} {q : Int32 × dT} (hF : fX2_meetsFailure T = q) : zw_Mi l yX2_meetsFailure cX2_meetsFailure 1 .boolean D (zw_tys cI cL) (zw_rm 1 20) [.ref (a 30)] (wD cI cL a B S V O G F T) (wD cI cL a B S V O G F q.2) q.1 := by
  unfold fX2_meetsFailure at hF
  refine zw_Mi_of (own := RX2) (by decide) rfl (Nat.le_of_ble_eq_true rfl) ?_
  intro p e s m args below meth c A C hr hlk
  refine zw_eq (lv2 := [(0, .ref (a 30))]) rfl rfl rfl ?_
  refine zw_aload_n C dX2_meetsFailure_0 0 rfl rfl ?_
  refine zw_calli C kvX2_30 (kX2_hasFailure rfl) ⟨rfl, rfl, ⟨by decide, by decide⟩, by decide, by decide⟩ FX2 30 (As := []) (rest := []) rfl rfl rfl (Nat.le_of_ble_eq_true rfl) dX2_meetsFailure_1 ?_
  refine zw_if_eq C 15 dX2_meetsFailure_4 (by decide) (fun h1 => ?_) (fun h1 => ?_)
  · rw [if_pos h1] at hF
    refine zw_iconst C (v := 0) dX2_meetsFailure_15 (by decide) ?_
    subst hF
    exact zw_zreturn C hr hlk rfl dX2_meetsFailure_16 rfl rfl
  · rw [if_neg h1] at hF
    refine zw_aload_n C dX2_meetsFailure_7 0 rfl rfl ?_
    refine zw_get C FX2 30 5 (v := .int T.2.2.2.2.2) rfl (by decide) lkX2_27 rfl dX2_meetsFailure_8 ?_
    refine zw_iconst C (v := 4) dX2_meetsFailure_11 (by decide) ?_
    refine zw_icmp_ne C 17 dX2_meetsFailure_12 (by decide) (fun h2 => ?_) (fun h2 => ?_)
    · rw [if_neg h2] at hF
      refine zw_aload_n C dX2_meetsFailure_17 0 rfl rfl ?_
      refine zw_iconst C (v := 0) dX2_meetsFailure_18 (by decide) ?_
      refine zw_put C FX2 GX2 30 5 (v := .int 0) (ws2 := (wD cI cL a B S V O G F (T.1, T.2.1, T.2.2.1, T.2.2.2.1, T.2.2.2.2.1, 0))) rfl (by decide) lkX2_27 rfl rfl rfl (Nat.le_of_ble_eq_true rfl) rfl dX2_meetsFailure_19 ?_
      refine zw_aload_n C dX2_meetsFailure_22 0 rfl rfl ?_
      refine zw_dup C dX2_meetsFailure_23 rfl ?_
      refine zw_get C FX2 30 2 (v := .int T.2.2.1) rfl (by decide) lkX2_18 rfl dX2_meetsFailure_24 ?_
      refine zw_iconst C (v := 1) dX2_meetsFailure_27 (by decide) ?_
      refine zw_iadd C dX2_meetsFailure_28 ?_
      refine zw_put C FX2 GX2 30 2 (v := .int (T.2.2.1 + 1)) (ws2 := (wD cI cL a B S V O G F (T.1, T.2.1, T.2.2.1 + 1, T.2.2.2.1, T.2.2.2.2.1, 0))) rfl (by decide) lkX2_18 rfl rfl rfl (Nat.le_of_ble_eq_true rfl) rfl dX2_meetsFailure_29 ?_
      refine zw_iconst C (v := 1) dX2_meetsFailure_32 (by decide) ?_
      subst hF
      exact zw_zreturn C hr hlk rfl dX2_meetsFailure_33 rfl rfl
    · rw [if_pos h2] at hF
      refine zw_iconst C (v := 0) dX2_meetsFailure_15 (by decide) ?_
      subst hF
      exact zw_zreturn C hr hlk rfl dX2_meetsFailure_16 rfl rfl
def fX2_endFailedCall (T : dT) : Int32 × dT := ((-10) - T.2.2.2.2.2, (T.1, T.2.1, T.2.2.1 + 1, T.2.2.2.1 + 1, T.2.2.2.2.2, T.2.2.2.2.2))
set_option maxHeartbeats 4000000 in
set_option maxRecDepth 100000 in
theorem kX2_endFailedCall {l : Launch} {D : va_G} {cI cL : ClassId} {a : Nat → Nat} {B : dB} {S : dS} {V : dV} {O : dO} {G : dG} {F : dF} {T : dT} {q : Int32 × dT} (hF : fX2_endFailedCall T = q) : zw_Mi l yX2_endFailedCall cX2_endFailedCall 1 .int D (zw_tys cI cL) (zw_rm 0 0) [.ref (a 30)] (wD cI cL a B S V O G F T) (wD cI cL a B S V O G F q.2) q.1 := by
  unfold fX2_endFailedCall at hF
  refine zw_Mi_of (own := RX2) (by decide) rfl (Nat.le_of_ble_eq_true rfl) ?_
  intro p e s m args below meth c A C hr hlk
  refine zw_eq (lv2 := [(0, .ref (a 30))]) rfl rfl rfl ?_
  refine zw_aload_n C dX2_endFailedCall_0 0 rfl rfl ?_
  refine zw_dup C dX2_endFailedCall_1 rfl ?_
  refine zw_get C FX2 30 2 (v := .int T.2.2.1) rfl (by decide) lkX2_18 rfl dX2_endFailedCall_2 ?_
  refine zw_iconst C (v := 1) dX2_endFailedCall_5 (by decide) ?_
  refine zw_iadd C dX2_endFailedCall_6 ?_
  refine zw_put C FX2 GX2 30 2 (v := .int (T.2.2.1 + 1)) (ws2 := (wD cI cL a B S V O G F (T.1, T.2.1, T.2.2.1 + 1, T.2.2.2.1, T.2.2.2.2.1, T.2.2.2.2.2))) rfl (by decide) lkX2_18 rfl rfl rfl (Nat.le_of_ble_eq_true rfl) rfl dX2_endFailedCall_7 ?_
  refine zw_aload_n C dX2_endFailedCall_10 0 rfl rfl ?_
  refine zw_dup C dX2_endFailedCall_11 rfl ?_
  refine zw_get C FX2 30 3 (v := .int T.2.2.2.1) rfl (by decide) lkX2_21 rfl dX2_endFailedCall_12 ?_
  refine zw_iconst C (v := 1) dX2_endFailedCall_15 (by decide) ?_
  refine zw_iadd C dX2_endFailedCall_16 ?_
  refine zw_put C FX2 GX2 30 3 (v := .int (T.2.2.2.1 + 1)) (ws2 := (wD cI cL a B S V O G F (T.1, T.2.1, T.2.2.1 + 1, T.2.2.2.1 + 1, T.2.2.2.2.1, T.2.2.2.2.2))) rfl (by decide) lkX2_21 rfl rfl rfl (Nat.le_of_ble_eq_true rfl) rfl dX2_endFailedCall_17 ?_
  refine zw_aload_n C dX2_endFailedCall_20 0 rfl rfl ?_
  refine zw_aload_n C dX2_endFailedCall_21 0 rfl rfl ?_
  refine zw_get C FX2 30 5 (v := .int T.2.2.2.2.2) rfl (by decide) lkX2_27 rfl dX2_endFailedCall_22 ?_
  refine zw_put C FX2 GX2 30 4 (v := .int T.2.2.2.2.2) (ws2 := (wD cI cL a B S V O G F (T.1, T.2.1, T.2.2.1 + 1, T.2.2.2.1 + 1, T.2.2.2.2.2, T.2.2.2.2.2))) rfl (by decide) lkX2_24 rfl rfl rfl (Nat.le_of_ble_eq_true rfl) rfl dX2_endFailedCall_25 ?_
  refine zw_bipush C (v := (-10)) dX2_endFailedCall_28 (by decide) ?_
  refine zw_aload_n C dX2_endFailedCall_30 0 rfl rfl ?_
  refine zw_get C FX2 30 5 (v := .int T.2.2.2.2.2) rfl (by decide) lkX2_27 rfl dX2_endFailedCall_31 ?_
  refine zw_isub C dX2_endFailedCall_34 ?_
  subst hF
  exact zw_ireturn C hr hlk dX2_endFailedCall_35 rfl rfl
end
section
def fX1_has (S : dS) (p1 : Int32) : Int32 := (if p1 < 0 then 0 else (if S.2.2.2.2 ≤ p1 then 0 else 1))
set_option maxHeartbeats 4000000 in
set_option maxRecDepth 100000 in
theorem kX1_has_S {l : Launch} {D : va_G} {cI cL : ClassId} {a : Nat → Nat} {B : dB} {S : dS} {V : dV} {O : dO} {G : dG} {F : dF} {T : dT} {p1 : Int32} {q : Int32} (hF : fX1_has S p1 = q) : zw_Mi l yX1_has cX1_has 2 .boolean D (zw_tys cI cL) (zw_rm 0 0) [.ref (a 5), .int p1] (wD cI cL a B S V O G F T) (wD cI cL a B S V O G F T) q := by
  unfold fX1_has at hF
  refine zw_Mi_of (own := RX1) (by decide) rfl (Nat.le_of_ble_eq_true rfl) ?_
  intro p e s m args below meth c A C hr hlk
  refine zw_eq (lv2 := [(0, .ref (a 5)), (1, .int p1)]) rfl rfl rfl ?_
  refine zw_iload_n C dX1_has_0 1 rfl rfl ?_
  refine zw_if_lt C 16 dX1_has_1 (by decide) (fun h1 => ?_) (fun h1 => ?_)
  · rw [if_pos h1] at hF
    refine zw_iconst C (v := 0) dX1_has_16 (by decide) ?_
    subst hF
    exact zw_zreturn C hr hlk rfl dX1_has_17 rfl rfl
  · rw [if_neg h1] at hF
    refine zw_iload_n C dX1_has_4 1 rfl rfl ?_
    refine zw_aload_n C dX1_has_5 0 rfl rfl ?_
    refine zw_get C FX1 5 4 (v := .int S.2.2.2.2) rfl (by decide) lkX1_23 rfl dX1_has_6 ?_
    refine zw_icmp_ge C 16 dX1_has_9 (by decide) (fun h2 => ?_) (fun h2 => ?_)
    · rw [if_pos h2] at hF
      refine zw_iconst C (v := 0) dX1_has_16 (by decide) ?_
      subst hF
      exact zw_zreturn C hr hlk rfl dX1_has_17 rfl rfl
    · rw [if_neg h2] at hF
      refine zw_iconst C (v := 1) dX1_has_12 (by decide) ?_
      refine zw_goto C 17 dX1_has_13 (by decide) ?_
      subst hF
      exact zw_zreturn C hr hlk rfl dX1_has_17 rfl rfl
def fX1_isFull (S : dS) : Int32 := (if S.2.2.2.2 < 24 then 0 else 1)
set_option maxHeartbeats 4000000 in
set_option maxRecDepth 100000 in
theorem kX1_isFull_S {l : Launch} {D : va_G} {cI cL : ClassId} {a : Nat → Nat} {B : dB} {S : dS} {V : dV} {O : dO} {G : dG} {F : dF} {T : dT} {q : Int32} (hF : fX1_isFull S = q) : zw_Mi l yX1_isFull cX1_isFull 1 .boolean D (zw_tys cI cL) (zw_rm 0 0) [.ref (a 5)] (wD cI cL a B S V O G F T) (wD cI cL a B S V O G F T) q := by
  unfold fX1_isFull at hF
  refine zw_Mi_of (own := RX1) (by decide) rfl (Nat.le_of_ble_eq_true rfl) ?_
  intro p e s m args below meth c A C hr hlk
  refine zw_eq (lv2 := [(0, .ref (a 5))]) rfl rfl rfl ?_
  refine zw_aload_n C dX1_isFull_0 0 rfl rfl ?_
  refine zw_get C FX1 5 4 (v := .int S.2.2.2.2) rfl (by decide) lkX1_23 rfl dX1_isFull_1 ?_
  refine zw_bipush C (v := 24) dX1_isFull_4 (by decide) ?_
  refine zw_icmp_lt C 13 dX1_isFull_6 (by decide) (fun h1 => ?_) (fun h1 => ?_)
  · rw [if_pos h1] at hF
    refine zw_iconst C (v := 0) dX1_isFull_13 (by decide) ?_
    subst hF
    exact zw_zreturn C hr hlk rfl dX1_isFull_14 rfl rfl
  · rw [if_neg h1] at hF
    refine zw_iconst C (v := 1) dX1_isFull_9 (by decide) ?_
    refine zw_goto C 14 dX1_isFull_10 (by decide) ?_
    subst hF
    exact zw_zreturn C hr hlk rfl dX1_isFull_14 rfl rfl
def fX1_make (S : dS) (p1 : Int32) (p2 : Int32) (p3 : Int32) (p4 : Int64) : Int32 × dS := (S.2.2.2.2, ((upd S.1 S.2.2.2.2.toNatClampNeg p1), (upd S.2.1 S.2.2.2.2.toNatClampNeg p2), (upd S.2.2.1 S.2.2.2.2.toNatClampNeg p3), (vp_updL S.2.2.2.1 S.2.2.2.2.toNatClampNeg p4), S.2.2.2.2 + 1))
set_option maxHeartbeats 4000000 in
set_option maxRecDepth 100000 in
theorem kX1_make_S {l : Launch} {D : va_G} {cI cL : ClassId} {a : Nat → Nat} {B : dB} {S : dS} {V : dV} {O : dO} {G : dG} {F : dF} {T : dT} {p1 : Int32} {p2 : Int32} {p3 : Int32} {p4 : Int64} {q : Int32 × dS} (hy1 : vp_in S.2.2.2.2 24) (hF : fX1_make S p1 p2 p3 p4 = q) : zw_Mi l yX1_make cX1_make 7 .int D (zw_tys cI cL) (zw_rm 0 0) [.ref (a 5), .int p1, .int p2, .int p3, .long p4] (wD cI cL a B S V O G F T) (wD cI cL a B q.2 V O G F T) q.1 := by
  unfold fX1_make at hF
  refine zw_Mi_of (own := RX1) (by decide) rfl (Nat.le_of_ble_eq_true rfl) ?_
  intro p e s m args below meth c A C hr hlk
  refine zw_eq (lv2 := [(0, .ref (a 5)), (1, .int p1), (2, .int p2), (3, .int p3), (4, .long p4)]) rfl rfl rfl ?_
  refine zw_aload_n C dX1_make_0 0 rfl rfl ?_
  refine zw_get C FX1 5 4 (v := .int S.2.2.2.2) rfl (by decide) lkX1_23 rfl dX1_make_1 ?_
  refine zw_istore C dX1_make_4 (by decide) rfl ?_
  refine zw_aload_n C dX1_make_6 1 rfl rfl ?_
  refine zw_get C FX1 5 0 (v := .ref (a 6)) rfl (by decide) lkX1_9 rfl dX1_make_7 ?_
  refine zw_iload C dX1_make_10 0 rfl ?_
  refine zw_iload_n C dX1_make_12 2 rfl rfl ?_
  refine zw_iast C 6 0 (f := S.1) (i := S.2.2.2.2) (ws2 := (wD cI cL a B ((upd S.1 S.2.2.2.2.toNatClampNeg p1), S.2.1, S.2.2.1, S.2.2.2.1, S.2.2.2.2) V O G F T)) rfl rfl hy1 rfl dX1_make_13 ?_
  refine zw_aload_n C dX1_make_14 1 rfl rfl ?_
  refine zw_get C FX1 5 1 (v := .ref (a 7)) rfl (by decide) lkX1_13 rfl dX1_make_15 ?_
  refine zw_iload C dX1_make_18 0 rfl ?_
  refine zw_iload_n C dX1_make_20 3 rfl rfl ?_
  refine zw_iast C 7 0 (f := S.2.1) (i := S.2.2.2.2) (ws2 := (wD cI cL a B ((upd S.1 S.2.2.2.2.toNatClampNeg p1), (upd S.2.1 S.2.2.2.2.toNatClampNeg p2), S.2.2.1, S.2.2.2.1, S.2.2.2.2) V O G F T)) rfl rfl hy1 rfl dX1_make_21 ?_
  refine zw_aload_n C dX1_make_22 1 rfl rfl ?_
  refine zw_get C FX1 5 2 (v := .ref (a 8)) rfl (by decide) lkX1_16 rfl dX1_make_23 ?_
  refine zw_iload C dX1_make_26 0 rfl ?_
  refine zw_iload_n C dX1_make_28 4 rfl rfl ?_
  refine zw_iast C 8 0 (f := S.2.2.1) (i := S.2.2.2.2) (ws2 := (wD cI cL a B ((upd S.1 S.2.2.2.2.toNatClampNeg p1), (upd S.2.1 S.2.2.2.2.toNatClampNeg p2), (upd S.2.2.1 S.2.2.2.2.toNatClampNeg p3), S.2.2.2.1, S.2.2.2.2) V O G F T)) rfl rfl hy1 rfl dX1_make_29 ?_
  refine zw_aload_n C dX1_make_30 1 rfl rfl ?_
  refine zw_get C FX1 5 3 (v := .ref (a 9)) rfl (by decide) lkX1_19 rfl dX1_make_31 ?_
  refine zw_iload C dX1_make_34 0 rfl ?_
  refine zw_lload C dX1_make_36 5 rfl ?_
  refine zw_last C 9 1 (f := S.2.2.2.1) (i := S.2.2.2.2) (ws2 := (wD cI cL a B ((upd S.1 S.2.2.2.2.toNatClampNeg p1), (upd S.2.1 S.2.2.2.2.toNatClampNeg p2), (upd S.2.2.1 S.2.2.2.2.toNatClampNeg p3), (vp_updL S.2.2.2.1 S.2.2.2.2.toNatClampNeg p4), S.2.2.2.2) V O G F T)) rfl rfl hy1 rfl dX1_make_38 ?_
  refine zw_aload_n C dX1_make_39 1 rfl rfl ?_
  refine zw_dup C dX1_make_40 rfl ?_
  refine zw_get C FX1 5 4 (v := .int S.2.2.2.2) rfl (by decide) lkX1_23 rfl dX1_make_41 ?_
  refine zw_iconst C (v := 1) dX1_make_44 (by decide) ?_
  refine zw_iadd C dX1_make_45 ?_
  refine zw_put C FX1 GX1 5 4 (v := .int (S.2.2.2.2 + 1)) (ws2 := (wD cI cL a B ((upd S.1 S.2.2.2.2.toNatClampNeg p1), (upd S.2.1 S.2.2.2.2.toNatClampNeg p2), (upd S.2.2.1 S.2.2.2.2.toNatClampNeg p3), (vp_updL S.2.2.2.1 S.2.2.2.2.toNatClampNeg p4), S.2.2.2.2 + 1) V O G F T)) rfl (by decide) lkX1_23 rfl rfl rfl (Nat.le_of_ble_eq_true rfl) rfl dX1_make_46 ?_
  refine zw_iload C dX1_make_49 0 rfl ?_
  subst hF
  exact zw_ireturn C hr hlk dX1_make_51 rfl rfl
def fX1_countAsked (S3 : (Nat → Int64)) (p1 : Int32) : Int64 × (Nat → Int64) := ((vp_updL S3 p1.toNatClampNeg ((S3 p1.toNatClampNeg) + 1)) p1.toNatClampNeg, (vp_updL S3 p1.toNatClampNeg ((S3 p1.toNatClampNeg) + 1)))
set_option maxHeartbeats 4000000 in
set_option maxRecDepth 100000 in
theorem kX1_countAsked_S {l : Launch} {D : va_G} {cI cL : ClassId} {a : Nat → Nat} {B : dB} {S : dS} {V : dV} {O : dO} {G : dG} {F : dF} {T : dT} {p1 : Int32} {q : Int64 × (Nat → Int64)} {S3 : Nat → Int64} (hy1 : vp_in p1 24) (hF : fX1_countAsked S3 p1 = q) : zw_Ml l yX1_countAsked cX1_countAsked 2 D (zw_tys cI cL) (zw_rm 0 0) [.ref (a 5), .int p1] (wD cI cL a B (S.1, S.2.1, S.2.2.1, S3, S.2.2.2.2) V O G F T) (wD cI cL a B (S.1, S.2.1, S.2.2.1, q.2, S.2.2.2.2) V O G F T) q.1 := by
  unfold fX1_countAsked at hF
  refine zw_Ml_of (own := RX1) (by decide) rfl (Nat.le_of_ble_eq_true rfl) ?_
  intro p e s m args below meth c A C hr hlk
  refine zw_eq (lv2 := [(0, .ref (a 5)), (1, .int p1)]) rfl rfl rfl ?_
  refine zw_aload_n C dX1_countAsked_0 0 rfl rfl ?_
  refine zw_get C FX1 5 3 (v := .ref (a 9)) rfl (by decide) lkX1_19 rfl dX1_countAsked_1 ?_
  refine zw_iload_n C dX1_countAsked_4 1 rfl rfl ?_
  refine zw_dup2_11 C dX1_countAsked_5 rfl rfl ?_
  refine zw_lald C 9 1 (f := S3) (i := p1) rfl rfl hy1 dX1_countAsked_6 ?_
  refine zw_lconst C (v := 1) dX1_countAsked_7 (by decide) ?_
  refine zw_ladd C dX1_countAsked_8 ?_
  refine zw_last C 9 1 (f := S3) (i := p1) (ws2 := (wD cI cL a B (S.1, S.2.1, S.2.2.1, (vp_updL S3 p1.toNatClampNeg ((S3 p1.toNatClampNeg) + 1)), S.2.2.2.2) V O G F T)) rfl rfl hy1 rfl dX1_countAsked_9 ?_
  refine zw_aload_n C dX1_countAsked_10 0 rfl rfl ?_
  refine zw_get C FX1 5 3 (v := .ref (a 9)) rfl (by decide) lkX1_19 rfl dX1_countAsked_11 ?_
  refine zw_iload_n C dX1_countAsked_14 1 rfl rfl ?_
  refine zw_lald C 9 1 (f := (vp_updL S3 p1.toNatClampNeg ((S3 p1.toNatClampNeg) + 1))) (i := p1) rfl rfl hy1 dX1_countAsked_15 ?_
  subst hF
  exact zw_lreturn C hr hlk dX1_countAsked_16 rfl rfl
set_option maxHeartbeats 4000000 in
set_option maxRecDepth 100000 in
theorem kX1_has_V {l : Launch} {D : va_G} {cI cL : ClassId} {a : Nat → Nat} {B : dB} {S : dS} {V : dV} {O : dO} {G : dG} {F : dF} {T : dT} {p1 : Int32} {q : Int32} (hF : fX1_has V p1 = q) : zw_Mi l yX1_has cX1_has 2 .boolean D (zw_tys cI cL) (zw_rm 0 0) [.ref (a 10), .int p1] (wD cI cL a B S V O G F T) (wD cI cL a B S V O G F T) q := by
  unfold fX1_has at hF
  refine zw_Mi_of (own := RX1) (by decide) rfl (Nat.le_of_ble_eq_true rfl) ?_
  intro p e s m args below meth c A C hr hlk
  refine zw_eq (lv2 := [(0, .ref (a 10)), (1, .int p1)]) rfl rfl rfl ?_
  refine zw_iload_n C dX1_has_0 1 rfl rfl ?_
  refine zw_if_lt C 16 dX1_has_1 (by decide) (fun h1 => ?_) (fun h1 => ?_)
  · rw [if_pos h1] at hF
    refine zw_iconst C (v := 0) dX1_has_16 (by decide) ?_
    subst hF
    exact zw_zreturn C hr hlk rfl dX1_has_17 rfl rfl
  · rw [if_neg h1] at hF
    refine zw_iload_n C dX1_has_4 1 rfl rfl ?_
    refine zw_aload_n C dX1_has_5 0 rfl rfl ?_
    refine zw_get C FX1 10 4 (v := .int V.2.2.2.2) rfl (by decide) lkX1_23 rfl dX1_has_6 ?_
    refine zw_icmp_ge C 16 dX1_has_9 (by decide) (fun h2 => ?_) (fun h2 => ?_)
    · rw [if_pos h2] at hF
      refine zw_iconst C (v := 0) dX1_has_16 (by decide) ?_
      subst hF
      exact zw_zreturn C hr hlk rfl dX1_has_17 rfl rfl
    · rw [if_neg h2] at hF
      refine zw_iconst C (v := 1) dX1_has_12 (by decide) ?_
      refine zw_goto C 17 dX1_has_13 (by decide) ?_
      subst hF
      exact zw_zreturn C hr hlk rfl dX1_has_17 rfl rfl
set_option maxHeartbeats 4000000 in
set_option maxRecDepth 100000 in
theorem kX1_isFull_V {l : Launch} {D : va_G} {cI cL : ClassId} {a : Nat → Nat} {B : dB} {S : dS} {V : dV} {O : dO} {G : dG} {F : dF} {T : dT} {q : Int32} (hF : fX1_isFull V = q) : zw_Mi l yX1_isFull cX1_isFull 1 .boolean D (zw_tys cI cL) (zw_rm 0 0) [.ref (a 10)] (wD cI cL a B S V O G F T) (wD cI cL a B S V O G F T) q := by
  unfold fX1_isFull at hF
  refine zw_Mi_of (own := RX1) (by decide) rfl (Nat.le_of_ble_eq_true rfl) ?_
  intro p e s m args below meth c A C hr hlk
  refine zw_eq (lv2 := [(0, .ref (a 10))]) rfl rfl rfl ?_
  refine zw_aload_n C dX1_isFull_0 0 rfl rfl ?_
  refine zw_get C FX1 10 4 (v := .int V.2.2.2.2) rfl (by decide) lkX1_23 rfl dX1_isFull_1 ?_
  refine zw_bipush C (v := 24) dX1_isFull_4 (by decide) ?_
  refine zw_icmp_lt C 13 dX1_isFull_6 (by decide) (fun h1 => ?_) (fun h1 => ?_)
  · rw [if_pos h1] at hF
    refine zw_iconst C (v := 0) dX1_isFull_13 (by decide) ?_
    subst hF
    exact zw_zreturn C hr hlk rfl dX1_isFull_14 rfl rfl
  · rw [if_neg h1] at hF
    refine zw_iconst C (v := 1) dX1_isFull_9 (by decide) ?_
    refine zw_goto C 14 dX1_isFull_10 (by decide) ?_
    subst hF
    exact zw_zreturn C hr hlk rfl dX1_isFull_14 rfl rfl
set_option maxHeartbeats 4000000 in
set_option maxRecDepth 100000 in
theorem kX1_make_V {l : Launch} {D : va_G} {cI cL : ClassId} {a : Nat → Nat} {B : dB} {S : dS} {V : dV} {O : dO} {G : dG} {F : dF} {T : dT} {p1 : Int32} {p2 : Int32} {p3 : Int32} {p4 : Int64} {q : Int32 × dS} (hy1 : vp_in V.2.2.2.2 24) (hF : fX1_make V p1 p2 p3 p4 = q) : zw_Mi l yX1_make cX1_make 7 .int D (zw_tys cI cL) (zw_rm 0 0) [.ref (a 10), .int p1, .int p2, .int p3, .long p4] (wD cI cL a B S V O G F T) (wD cI cL a B S q.2 O G F T) q.1 := by
  unfold fX1_make at hF
  refine zw_Mi_of (own := RX1) (by decide) rfl (Nat.le_of_ble_eq_true rfl) ?_
  intro p e s m args below meth c A C hr hlk
  refine zw_eq (lv2 := [(0, .ref (a 10)), (1, .int p1), (2, .int p2), (3, .int p3), (4, .long p4)]) rfl rfl rfl ?_
  refine zw_aload_n C dX1_make_0 0 rfl rfl ?_
  refine zw_get C FX1 10 4 (v := .int V.2.2.2.2) rfl (by decide) lkX1_23 rfl dX1_make_1 ?_
  refine zw_istore C dX1_make_4 (by decide) rfl ?_
  refine zw_aload_n C dX1_make_6 1 rfl rfl ?_
  refine zw_get C FX1 10 0 (v := .ref (a 11)) rfl (by decide) lkX1_9 rfl dX1_make_7 ?_
  refine zw_iload C dX1_make_10 0 rfl ?_
  refine zw_iload_n C dX1_make_12 2 rfl rfl ?_
  refine zw_iast C 11 0 (f := V.1) (i := V.2.2.2.2) (ws2 := (wD cI cL a B S ((upd V.1 V.2.2.2.2.toNatClampNeg p1), V.2.1, V.2.2.1, V.2.2.2.1, V.2.2.2.2) O G F T)) rfl rfl hy1 rfl dX1_make_13 ?_
  refine zw_aload_n C dX1_make_14 1 rfl rfl ?_
  refine zw_get C FX1 10 1 (v := .ref (a 12)) rfl (by decide) lkX1_13 rfl dX1_make_15 ?_
  refine zw_iload C dX1_make_18 0 rfl ?_
  refine zw_iload_n C dX1_make_20 3 rfl rfl ?_
  refine zw_iast C 12 0 (f := V.2.1) (i := V.2.2.2.2) (ws2 := (wD cI cL a B S ((upd V.1 V.2.2.2.2.toNatClampNeg p1), (upd V.2.1 V.2.2.2.2.toNatClampNeg p2), V.2.2.1, V.2.2.2.1, V.2.2.2.2) O G F T)) rfl rfl hy1 rfl dX1_make_21 ?_
  refine zw_aload_n C dX1_make_22 1 rfl rfl ?_
  refine zw_get C FX1 10 2 (v := .ref (a 13)) rfl (by decide) lkX1_16 rfl dX1_make_23 ?_
  refine zw_iload C dX1_make_26 0 rfl ?_
  refine zw_iload_n C dX1_make_28 4 rfl rfl ?_
  refine zw_iast C 13 0 (f := V.2.2.1) (i := V.2.2.2.2) (ws2 := (wD cI cL a B S ((upd V.1 V.2.2.2.2.toNatClampNeg p1), (upd V.2.1 V.2.2.2.2.toNatClampNeg p2), (upd V.2.2.1 V.2.2.2.2.toNatClampNeg p3), V.2.2.2.1, V.2.2.2.2) O G F T)) rfl rfl hy1 rfl dX1_make_29 ?_
  refine zw_aload_n C dX1_make_30 1 rfl rfl ?_
  refine zw_get C FX1 10 3 (v := .ref (a 14)) rfl (by decide) lkX1_19 rfl dX1_make_31 ?_
  refine zw_iload C dX1_make_34 0 rfl ?_
  refine zw_lload C dX1_make_36 5 rfl ?_
  refine zw_last C 14 1 (f := V.2.2.2.1) (i := V.2.2.2.2) (ws2 := (wD cI cL a B S ((upd V.1 V.2.2.2.2.toNatClampNeg p1), (upd V.2.1 V.2.2.2.2.toNatClampNeg p2), (upd V.2.2.1 V.2.2.2.2.toNatClampNeg p3), (vp_updL V.2.2.2.1 V.2.2.2.2.toNatClampNeg p4), V.2.2.2.2) O G F T)) rfl rfl hy1 rfl dX1_make_38 ?_
  refine zw_aload_n C dX1_make_39 1 rfl rfl ?_
  refine zw_dup C dX1_make_40 rfl ?_
  refine zw_get C FX1 10 4 (v := .int V.2.2.2.2) rfl (by decide) lkX1_23 rfl dX1_make_41 ?_
  refine zw_iconst C (v := 1) dX1_make_44 (by decide) ?_
  refine zw_iadd C dX1_make_45 ?_
  refine zw_put C FX1 GX1 10 4 (v := .int (V.2.2.2.2 + 1)) (ws2 := (wD cI cL a B S ((upd V.1 V.2.2.2.2.toNatClampNeg p1), (upd V.2.1 V.2.2.2.2.toNatClampNeg p2), (upd V.2.2.1 V.2.2.2.2.toNatClampNeg p3), (vp_updL V.2.2.2.1 V.2.2.2.2.toNatClampNeg p4), V.2.2.2.2 + 1) O G F T)) rfl (by decide) lkX1_23 rfl rfl rfl (Nat.le_of_ble_eq_true rfl) rfl dX1_make_46 ?_
  refine zw_iload C dX1_make_49 0 rfl ?_
  subst hF
  exact zw_ireturn C hr hlk dX1_make_51 rfl rfl
set_option maxHeartbeats 4000000 in
set_option maxRecDepth 100000 in
theorem kX1_countAsked_V {l : Launch} {D : va_G} {cI cL : ClassId} {a : Nat → Nat} {B : dB} {S : dS} {V : dV} {O : dO} {G : dG} {F : dF} {T : dT} {p1 : Int32} {q : Int64 × (Nat → Int64)} {S3 : Nat → Int64} (hy1 : vp_in p1 24) (hF : fX1_countAsked S3 p1 = q) : zw_Ml l yX1_countAsked cX1_countAsked 2 D (zw_tys cI cL) (zw_rm 0 0) [.ref (a 10), .int p1] (wD cI cL a B S (V.1, V.2.1, V.2.2.1, S3, V.2.2.2.2) O G F T) (wD cI cL a B S (V.1, V.2.1, V.2.2.1, q.2, V.2.2.2.2) O G F T) q.1 := by
  unfold fX1_countAsked at hF
  refine zw_Ml_of (own := RX1) (by decide) rfl (Nat.le_of_ble_eq_true rfl) ?_
  intro p e s m args below meth c A C hr hlk
  refine zw_eq (lv2 := [(0, .ref (a 10)), (1, .int p1)]) rfl rfl rfl ?_
  refine zw_aload_n C dX1_countAsked_0 0 rfl rfl ?_
  refine zw_get C FX1 10 3 (v := .ref (a 14)) rfl (by decide) lkX1_19 rfl dX1_countAsked_1 ?_
  refine zw_iload_n C dX1_countAsked_4 1 rfl rfl ?_
  refine zw_dup2_11 C dX1_countAsked_5 rfl rfl ?_
  refine zw_lald C 14 1 (f := S3) (i := p1) rfl rfl hy1 dX1_countAsked_6 ?_
  refine zw_lconst C (v := 1) dX1_countAsked_7 (by decide) ?_
  refine zw_ladd C dX1_countAsked_8 ?_
  refine zw_last C 14 1 (f := S3) (i := p1) (ws2 := (wD cI cL a B S (V.1, V.2.1, V.2.2.1, (vp_updL S3 p1.toNatClampNeg ((S3 p1.toNatClampNeg) + 1)), V.2.2.2.2) O G F T)) rfl rfl hy1 rfl dX1_countAsked_9 ?_
  refine zw_aload_n C dX1_countAsked_10 0 rfl rfl ?_
  refine zw_get C FX1 10 3 (v := .ref (a 14)) rfl (by decide) lkX1_19 rfl dX1_countAsked_11 ?_
  refine zw_iload_n C dX1_countAsked_14 1 rfl rfl ?_
  refine zw_lald C 14 1 (f := (vp_updL S3 p1.toNatClampNeg ((S3 p1.toNatClampNeg) + 1))) (i := p1) rfl rfl hy1 dX1_countAsked_15 ?_
  subst hF
  exact zw_lreturn C hr hlk dX1_countAsked_16 rfl rfl
set_option maxHeartbeats 4000000 in
set_option maxRecDepth 100000 in
theorem kX1_has_O {l : Launch} {D : va_G} {cI cL : ClassId} {a : Nat → Nat} {B : dB} {S : dS} {V : dV} {O : dO} {G : dG} {F : dF} {T : dT} {p1 : Int32} {q : Int32} (hF : fX1_has O p1 = q) : zw_Mi l yX1_has cX1_has 2 .boolean D (zw_tys cI cL) (zw_rm 0 0) [.ref (a 15), .int p1] (wD cI cL a B S V O G F T) (wD cI cL a B S V O G F T) q := by
  unfold fX1_has at hF
  refine zw_Mi_of (own := RX1) (by decide) rfl (Nat.le_of_ble_eq_true rfl) ?_
  intro p e s m args below meth c A C hr hlk
  refine zw_eq (lv2 := [(0, .ref (a 15)), (1, .int p1)]) rfl rfl rfl ?_
  refine zw_iload_n C dX1_has_0 1 rfl rfl ?_
  refine zw_if_lt C 16 dX1_has_1 (by decide) (fun h1 => ?_) (fun h1 => ?_)
  · rw [if_pos h1] at hF
    refine zw_iconst C (v := 0) dX1_has_16 (by decide) ?_
    subst hF
    exact zw_zreturn C hr hlk rfl dX1_has_17 rfl rfl
  · rw [if_neg h1] at hF
    refine zw_iload_n C dX1_has_4 1 rfl rfl ?_
    refine zw_aload_n C dX1_has_5 0 rfl rfl ?_
    refine zw_get C FX1 15 4 (v := .int O.2.2.2.2) rfl (by decide) lkX1_23 rfl dX1_has_6 ?_
    refine zw_icmp_ge C 16 dX1_has_9 (by decide) (fun h2 => ?_) (fun h2 => ?_)
    · rw [if_pos h2] at hF
      refine zw_iconst C (v := 0) dX1_has_16 (by decide) ?_
      subst hF
      exact zw_zreturn C hr hlk rfl dX1_has_17 rfl rfl
    · rw [if_neg h2] at hF
      refine zw_iconst C (v := 1) dX1_has_12 (by decide) ?_
      refine zw_goto C 17 dX1_has_13 (by decide) ?_
      subst hF
      exact zw_zreturn C hr hlk rfl dX1_has_17 rfl rfl
set_option maxHeartbeats 4000000 in
set_option maxRecDepth 100000 in
theorem kX1_isFull_O {l : Launch} {D : va_G} {cI cL : ClassId} {a : Nat → Nat} {B : dB} {S : dS} {V : dV} {O : dO} {G : dG} {F : dF} {T : dT} {q : Int32} (hF : fX1_isFull O = q) : zw_Mi l yX1_isFull cX1_isFull 1 .boolean D (zw_tys cI cL) (zw_rm 0 0) [.ref (a 15)] (wD cI cL a B S V O G F T) (wD cI cL a B S V O G F T) q := by
  unfold fX1_isFull at hF
  refine zw_Mi_of (own := RX1) (by decide) rfl (Nat.le_of_ble_eq_true rfl) ?_
  intro p e s m args below meth c A C hr hlk
  refine zw_eq (lv2 := [(0, .ref (a 15))]) rfl rfl rfl ?_
  refine zw_aload_n C dX1_isFull_0 0 rfl rfl ?_
  refine zw_get C FX1 15 4 (v := .int O.2.2.2.2) rfl (by decide) lkX1_23 rfl dX1_isFull_1 ?_
  refine zw_bipush C (v := 24) dX1_isFull_4 (by decide) ?_
  refine zw_icmp_lt C 13 dX1_isFull_6 (by decide) (fun h1 => ?_) (fun h1 => ?_)
  · rw [if_pos h1] at hF
    refine zw_iconst C (v := 0) dX1_isFull_13 (by decide) ?_
    subst hF
    exact zw_zreturn C hr hlk rfl dX1_isFull_14 rfl rfl
  · rw [if_neg h1] at hF
    refine zw_iconst C (v := 1) dX1_isFull_9 (by decide) ?_
    refine zw_goto C 14 dX1_isFull_10 (by decide) ?_
    subst hF
    exact zw_zreturn C hr hlk rfl dX1_isFull_14 rfl rfl
set_option maxHeartbeats 4000000 in
set_option maxRecDepth 100000 in
theorem kX1_make_O {l : Launch} {D : va_G} {cI cL : ClassId} {a : Nat → Nat} {B : dB} {S : dS} {V : dV} {O : dO} {G : dG} {F : dF} {T : dT} {p1 : Int32} {p2 : Int32} {p3 : Int32} {p4 : Int64} {q : Int32 × dS} (hy1 : vp_in O.2.2.2.2 24) (hF : fX1_make O p1 p2 p3 p4 = q) : zw_Mi l yX1_make cX1_make 7 .int D (zw_tys cI cL) (zw_rm 0 0) [.ref (a 15), .int p1, .int p2, .int p3, .long p4] (wD cI cL a B S V O G F T) (wD cI cL a B S V q.2 G F T) q.1 := by
  unfold fX1_make at hF
  refine zw_Mi_of (own := RX1) (by decide) rfl (Nat.le_of_ble_eq_true rfl) ?_
  intro p e s m args below meth c A C hr hlk
  refine zw_eq (lv2 := [(0, .ref (a 15)), (1, .int p1), (2, .int p2), (3, .int p3), (4, .long p4)]) rfl rfl rfl ?_
  refine zw_aload_n C dX1_make_0 0 rfl rfl ?_
  refine zw_get C FX1 15 4 (v := .int O.2.2.2.2) rfl (by decide) lkX1_23 rfl dX1_make_1 ?_
  refine zw_istore C dX1_make_4 (by decide) rfl ?_
  refine zw_aload_n C dX1_make_6 1 rfl rfl ?_
  refine zw_get C FX1 15 0 (v := .ref (a 16)) rfl (by decide) lkX1_9 rfl dX1_make_7 ?_
  refine zw_iload C dX1_make_10 0 rfl ?_
  refine zw_iload_n C dX1_make_12 2 rfl rfl ?_
  refine zw_iast C 16 0 (f := O.1) (i := O.2.2.2.2) (ws2 := (wD cI cL a B S V ((upd O.1 O.2.2.2.2.toNatClampNeg p1), O.2.1, O.2.2.1, O.2.2.2.1, O.2.2.2.2) G F T)) rfl rfl hy1 rfl dX1_make_13 ?_
  refine zw_aload_n C dX1_make_14 1 rfl rfl ?_
  refine zw_get C FX1 15 1 (v := .ref (a 17)) rfl (by decide) lkX1_13 rfl dX1_make_15 ?_
  refine zw_iload C dX1_make_18 0 rfl ?_
  refine zw_iload_n C dX1_make_20 3 rfl rfl ?_
  refine zw_iast C 17 0 (f := O.2.1) (i := O.2.2.2.2) (ws2 := (wD cI cL a B S V ((upd O.1 O.2.2.2.2.toNatClampNeg p1), (upd O.2.1 O.2.2.2.2.toNatClampNeg p2), O.2.2.1, O.2.2.2.1, O.2.2.2.2) G F T)) rfl rfl hy1 rfl dX1_make_21 ?_
  refine zw_aload_n C dX1_make_22 1 rfl rfl ?_
  refine zw_get C FX1 15 2 (v := .ref (a 18)) rfl (by decide) lkX1_16 rfl dX1_make_23 ?_
  refine zw_iload C dX1_make_26 0 rfl ?_
  refine zw_iload_n C dX1_make_28 4 rfl rfl ?_
  refine zw_iast C 18 0 (f := O.2.2.1) (i := O.2.2.2.2) (ws2 := (wD cI cL a B S V ((upd O.1 O.2.2.2.2.toNatClampNeg p1), (upd O.2.1 O.2.2.2.2.toNatClampNeg p2), (upd O.2.2.1 O.2.2.2.2.toNatClampNeg p3), O.2.2.2.1, O.2.2.2.2) G F T)) rfl rfl hy1 rfl dX1_make_29 ?_
  refine zw_aload_n C dX1_make_30 1 rfl rfl ?_
  refine zw_get C FX1 15 3 (v := .ref (a 19)) rfl (by decide) lkX1_19 rfl dX1_make_31 ?_
  refine zw_iload C dX1_make_34 0 rfl ?_
  refine zw_lload C dX1_make_36 5 rfl ?_
  refine zw_last C 19 1 (f := O.2.2.2.1) (i := O.2.2.2.2) (ws2 := (wD cI cL a B S V ((upd O.1 O.2.2.2.2.toNatClampNeg p1), (upd O.2.1 O.2.2.2.2.toNatClampNeg p2), (upd O.2.2.1 O.2.2.2.2.toNatClampNeg p3), (vp_updL O.2.2.2.1 O.2.2.2.2.toNatClampNeg p4), O.2.2.2.2) G F T)) rfl rfl hy1 rfl dX1_make_38 ?_
  refine zw_aload_n C dX1_make_39 1 rfl rfl ?_
  refine zw_dup C dX1_make_40 rfl ?_
  refine zw_get C FX1 15 4 (v := .int O.2.2.2.2) rfl (by decide) lkX1_23 rfl dX1_make_41 ?_
  refine zw_iconst C (v := 1) dX1_make_44 (by decide) ?_
  refine zw_iadd C dX1_make_45 ?_
  refine zw_put C FX1 GX1 15 4 (v := .int (O.2.2.2.2 + 1)) (ws2 := (wD cI cL a B S V ((upd O.1 O.2.2.2.2.toNatClampNeg p1), (upd O.2.1 O.2.2.2.2.toNatClampNeg p2), (upd O.2.2.1 O.2.2.2.2.toNatClampNeg p3), (vp_updL O.2.2.2.1 O.2.2.2.2.toNatClampNeg p4), O.2.2.2.2 + 1) G F T)) rfl (by decide) lkX1_23 rfl rfl rfl (Nat.le_of_ble_eq_true rfl) rfl dX1_make_46 ?_
  refine zw_iload C dX1_make_49 0 rfl ?_
  subst hF
  exact zw_ireturn C hr hlk dX1_make_51 rfl rfl
set_option maxHeartbeats 4000000 in
set_option maxRecDepth 100000 in
theorem kX1_countAsked_O {l : Launch} {D : va_G} {cI cL : ClassId} {a : Nat → Nat} {B : dB} {S : dS} {V : dV} {O : dO} {G : dG} {F : dF} {T : dT} {p1 : Int32} {q : Int64 × (Nat → Int64)} {S3 : Nat → Int64} (hy1 : vp_in p1 24) (hF : fX1_countAsked S3 p1 = q) : zw_Ml l yX1_countAsked cX1_countAsked 2 D (zw_tys cI cL) (zw_rm 0 0) [.ref (a 15), .int p1] (wD cI cL a B S V (O.1, O.2.1, O.2.2.1, S3, O.2.2.2.2) G F T) (wD cI cL a B S V (O.1, O.2.1, O.2.2.1, q.2, O.2.2.2.2) G F T) q.1 := by
  unfold fX1_countAsked at hF
  refine zw_Ml_of (own := RX1) (by decide) rfl (Nat.le_of_ble_eq_true rfl) ?_
  intro p e s m args below meth c A C hr hlk
  refine zw_eq (lv2 := [(0, .ref (a 15)), (1, .int p1)]) rfl rfl rfl ?_
  refine zw_aload_n C dX1_countAsked_0 0 rfl rfl ?_
  refine zw_get C FX1 15 3 (v := .ref (a 19)) rfl (by decide) lkX1_19 rfl dX1_countAsked_1 ?_
  refine zw_iload_n C dX1_countAsked_4 1 rfl rfl ?_
  refine zw_dup2_11 C dX1_countAsked_5 rfl rfl ?_
  refine zw_lald C 19 1 (f := S3) (i := p1) rfl rfl hy1 dX1_countAsked_6 ?_
  refine zw_lconst C (v := 1) dX1_countAsked_7 (by decide) ?_
  refine zw_ladd C dX1_countAsked_8 ?_
  refine zw_last C 19 1 (f := S3) (i := p1) (ws2 := (wD cI cL a B S V (O.1, O.2.1, O.2.2.1, (vp_updL S3 p1.toNatClampNeg ((S3 p1.toNatClampNeg) + 1)), O.2.2.2.2) G F T)) rfl rfl hy1 rfl dX1_countAsked_9 ?_
  refine zw_aload_n C dX1_countAsked_10 0 rfl rfl ?_
  refine zw_get C FX1 15 3 (v := .ref (a 19)) rfl (by decide) lkX1_19 rfl dX1_countAsked_11 ?_
  refine zw_iload_n C dX1_countAsked_14 1 rfl rfl ?_
  refine zw_lald C 19 1 (f := (vp_updL S3 p1.toNatClampNeg ((S3 p1.toNatClampNeg) + 1))) (i := p1) rfl rfl hy1 dX1_countAsked_15 ?_
  subst hF
  exact zw_lreturn C hr hlk dX1_countAsked_16 rfl rfl
end
section
def fX3_isColumn (p1 : Int32) : Int32 := (if p1 < 0 then 0 else (if 3 ≤ p1 then 0 else 1))
set_option maxHeartbeats 4000000 in
set_option maxRecDepth 100000 in
theorem kX3_isColumn {l : Launch} {D : va_G} {cI cL : ClassId} {a : Nat → Nat} {B : dB} {S : dS} {V : dV} {O : dO} {G : dG} {F : dF} {T : dT} {p1 : Int32} {q : Int32} (hF : fX3_isColumn p1 = q) : zw_Mi l yX3_isColumn cX3_isColumn 1 .boolean D (zw_tys cI cL) (zw_rm 0 0) [.int p1] (wD cI cL a B S V O G F T) (wD cI cL a B S V O G F T) q := by
  unfold fX3_isColumn at hF
  refine zw_Mi_of (own := RX3) (by decide) rfl (Nat.le_of_ble_eq_true rfl) ?_
  intro p e s m args below meth c A C hr hlk
  refine zw_eq (lv2 := [(0, .int p1)]) rfl rfl rfl ?_
  refine zw_iload_n C dX3_isColumn_0 0 rfl rfl ?_
  refine zw_if_lt C 13 dX3_isColumn_1 (by decide) (fun h1 => ?_) (fun h1 => ?_)
  · rw [if_pos h1] at hF
    refine zw_iconst C (v := 0) dX3_isColumn_13 (by decide) ?_
    subst hF
    exact zw_zreturn C hr hlk rfl dX3_isColumn_14 rfl rfl
  · rw [if_neg h1] at hF
    refine zw_iload_n C dX3_isColumn_4 0 rfl rfl ?_
    refine zw_iconst C (v := 3) dX3_isColumn_5 (by decide) ?_
    refine zw_icmp_ge C 13 dX3_isColumn_6 (by decide) (fun h2 => ?_) (fun h2 => ?_)
    · rw [if_pos h2] at hF
      refine zw_iconst C (v := 0) dX3_isColumn_13 (by decide) ?_
      subst hF
      exact zw_zreturn C hr hlk rfl dX3_isColumn_14 rfl rfl
    · rw [if_neg h2] at hF
      refine zw_iconst C (v := 1) dX3_isColumn_9 (by decide) ?_
      refine zw_goto C 14 dX3_isColumn_10 (by decide) ?_
      subst hF
      exact zw_zreturn C hr hlk rfl dX3_isColumn_14 rfl rfl
def fX3_isPlaceOfRow (p1 : Int64) : Int32 := (if (lg_cmp p1 0) < 0 then 0 else (if 0 ≤ (lg_cmp p1 8) then 0 else 1))
set_option maxHeartbeats 4000000 in
set_option maxRecDepth 100000 in
theorem kX3_isPlaceOfRow {l : Launch} {D : va_G} {cI cL : ClassId} {a : Nat → Nat} {B : dB} {S : dS} {V : dV} {O : dO} {G : dG} {F : dF} {T : dT} {p1 : Int64} {q : Int32} (hF : fX3_isPlaceOfRow p1 = q) : zw_Mi l yX3_isPlaceOfRow cX3_isPlaceOfRow 2 .boolean D (zw_tys cI cL) (zw_rm 0 0) [.long p1] (wD cI cL a B S V O G F T) (wD cI cL a B S V O G F T) q := by
  unfold fX3_isPlaceOfRow at hF
  refine zw_Mi_of (own := RX3) (by decide) rfl (Nat.le_of_ble_eq_true rfl) ?_
  intro p e s m args below meth c A C hr hlk
  refine zw_eq (lv2 := [(0, .long p1)]) rfl rfl rfl ?_
  refine zw_lload_n C dX3_isPlaceOfRow_0 0 rfl rfl ?_
  refine zw_lconst C (v := 0) dX3_isPlaceOfRow_1 (by decide) ?_
  refine zw_lcmp C dX3_isPlaceOfRow_2 ?_
  refine zw_if_lt C 18 dX3_isPlaceOfRow_3 (by decide) (fun h1 => ?_) (fun h1 => ?_)
  · rw [if_pos h1] at hF
    refine zw_iconst C (v := 0) dX3_isPlaceOfRow_18 (by decide) ?_
    subst hF
    exact zw_zreturn C hr hlk rfl dX3_isPlaceOfRow_19 rfl rfl
  · rw [if_neg h1] at hF
    refine zw_lload_n C dX3_isPlaceOfRow_6 0 rfl rfl ?_
    refine zw_ldc2 C lkcX3_163 dX3_isPlaceOfRow_7 ?_
    refine zw_lcmp C dX3_isPlaceOfRow_10 ?_
    refine zw_if_ge C 18 dX3_isPlaceOfRow_11 (by decide) (fun h2 => ?_) (fun h2 => ?_)
    · rw [if_pos h2] at hF
      refine zw_iconst C (v := 0) dX3_isPlaceOfRow_18 (by decide) ?_
      subst hF
      exact zw_zreturn C hr hlk rfl dX3_isPlaceOfRow_19 rfl rfl
    · rw [if_neg h2] at hF
      refine zw_iconst C (v := 1) dX3_isPlaceOfRow_14 (by decide) ?_
      refine zw_goto C 19 dX3_isPlaceOfRow_15 (by decide) ?_
      subst hF
      exact zw_zreturn C hr hlk rfl dX3_isPlaceOfRow_19 rfl rfl
def fX3_cellOf (p1 : Int32) (p2 : Int32) : Int32 := (p1 * 3) + p2
set_option maxHeartbeats 4000000 in
set_option maxRecDepth 100000 in
theorem kX3_cellOf {l : Launch} {D : va_G} {cI cL : ClassId} {a : Nat → Nat} {B : dB} {S : dS} {V : dV} {O : dO} {G : dG} {F : dF} {T : dT} {p1 : Int32} {p2 : Int32} {q : Int32} (hF : fX3_cellOf p1 p2 = q) : zw_Mi l yX3_cellOf cX3_cellOf 2 .int D (zw_tys cI cL) (zw_rm 0 0) [.int p1, .int p2] (wD cI cL a B S V O G F T) (wD cI cL a B S V O G F T) q := by
  unfold fX3_cellOf at hF
  refine zw_Mi_of (own := RX3) (by decide) rfl (Nat.le_of_ble_eq_true rfl) ?_
  intro p e s m args below meth c A C hr hlk
  refine zw_eq (lv2 := [(0, .int p1), (1, .int p2)]) rfl rfl rfl ?_
  refine zw_iload_n C dX3_cellOf_0 0 rfl rfl ?_
  refine zw_iconst C (v := 3) dX3_cellOf_1 (by decide) ?_
  refine zw_imul C dX3_cellOf_2 ?_
  refine zw_iload_n C dX3_cellOf_3 1 rfl rfl ?_
  refine zw_iadd C dX3_cellOf_4 ?_
  subst hF
  exact zw_ireturn C hr hlk dX3_cellOf_5 rfl rfl
def fX3_lesserFirst (p1 : Int64) (p2 : Int64) : Int32 := (if (lg_cmp p1 p2) = 0 then 0 else (if 0 ≤ (lg_cmp p1 p2) then 1 else (-1)))
set_option maxHeartbeats 4000000 in
set_option maxRecDepth 100000 in
theorem kX3_lesserFirst {l : Launch} {D : va_G} {cI cL : ClassId} {a : Nat → Nat} {B : dB} {S : dS} {V : dV} {O : dO} {G : dG} {F : dF} {T : dT} {p1 : Int64} {p2 : Int64} {q : Int32} (hF : fX3_lesserFirst p1 p2 = q) : zw_Mi l yX3_lesserFirst cX3_lesserFirst 4 .int D (zw_tys cI cL) (zw_rm 0 0) [.long p1, .long p2] (wD cI cL a B S V O G F T) (wD cI cL a B S V O G F T) q := by
  unfold fX3_lesserFirst at hF
  refine zw_Mi_of (own := RX3) (by decide) rfl (Nat.le_of_ble_eq_true rfl) ?_
  intro p e s m args below meth c A C hr hlk
  refine zw_eq (lv2 := [(0, .long p1), (2, .long p2)]) rfl rfl rfl ?_
  refine zw_lload_n C dX3_lesserFirst_0 0 rfl rfl ?_
  refine zw_lload_n C dX3_lesserFirst_1 1 rfl rfl ?_
  refine zw_lcmp C dX3_lesserFirst_2 ?_
  refine zw_if_ne C 8 dX3_lesserFirst_3 (by decide) (fun h1 => ?_) (fun h1 => ?_)
  · rw [if_neg h1] at hF
    refine zw_lload_n C dX3_lesserFirst_8 0 rfl rfl ?_
    refine zw_lload_n C dX3_lesserFirst_9 1 rfl rfl ?_
    refine zw_lcmp C dX3_lesserFirst_10 ?_
    refine zw_if_ge C 18 dX3_lesserFirst_11 (by decide) (fun h2 => ?_) (fun h2 => ?_)
    · rw [if_pos h2] at hF
      refine zw_iconst C (v := 1) dX3_lesserFirst_18 (by decide) ?_
      subst hF
      exact zw_ireturn C hr hlk dX3_lesserFirst_19 rfl rfl
    · rw [if_neg h2] at hF
      refine zw_iconst C (v := (-1)) dX3_lesserFirst_14 (by decide) ?_
      refine zw_goto C 19 dX3_lesserFirst_15 (by decide) ?_
      subst hF
      exact zw_ireturn C hr hlk dX3_lesserFirst_19 rfl rfl
  · rw [if_pos h1] at hF
    refine zw_iconst C (v := 0) dX3_lesserFirst_6 (by decide) ?_
    subst hF
    exact zw_ireturn C hr hlk dX3_lesserFirst_7 rfl rfl
def fX3_isThing (B : dB) (p1 : Int32) : Int32 := (if p1 < 0 then 0 else (if B.1 ≤ p1 then 0 else 1))
set_option maxHeartbeats 4000000 in
set_option maxRecDepth 100000 in
theorem kX3_isThing {l : Launch} {D : va_G} {cI cL : ClassId} {a : Nat → Nat} {B : dB} {S : dS} {V : dV} {O : dO} {G : dG} {F : dF} {T : dT} {p1 : Int32} {q : Int32} (hF : fX3_isThing B p1 = q) : zw_Mi l yX3_isThing cX3_isThing 2 .boolean D (zw_tys cI cL) (zw_rm 0 0) [.ref (a 0), .int p1] (wD cI cL a B S V O G F T) (wD cI cL a B S V O G F T) q := by
  unfold fX3_isThing at hF
  refine zw_Mi_of (own := RX3) (by decide) rfl (Nat.le_of_ble_eq_true rfl) ?_
  intro p e s m args below meth c A C hr hlk
  refine zw_eq (lv2 := [(0, .ref (a 0)), (1, .int p1)]) rfl rfl rfl ?_
  refine zw_iload_n C dX3_isThing_0 1 rfl rfl ?_
  refine zw_if_lt C 16 dX3_isThing_1 (by decide) (fun h1 => ?_) (fun h1 => ?_)
  · rw [if_pos h1] at hF
    refine zw_iconst C (v := 0) dX3_isThing_16 (by decide) ?_
    subst hF
    exact zw_zreturn C hr hlk rfl dX3_isThing_17 rfl rfl
  · rw [if_neg h1] at hF
    refine zw_iload_n C dX3_isThing_4 1 rfl rfl ?_
    refine zw_aload_n C dX3_isThing_5 0 rfl rfl ?_
    refine zw_get C FX3 0 1 (v := .int B.1) rfl (by decide) lkX3_13 rfl dX3_isThing_6 ?_
    refine zw_icmp_ge C 16 dX3_isThing_9 (by decide) (fun h2 => ?_) (fun h2 => ?_)
    · rw [if_pos h2] at hF
      refine zw_iconst C (v := 0) dX3_isThing_16 (by decide) ?_
      subst hF
      exact zw_zreturn C hr hlk rfl dX3_isThing_17 rfl rfl
    · rw [if_neg h2] at hF
      refine zw_iconst C (v := 1) dX3_isThing_12 (by decide) ?_
      refine zw_goto C 17 dX3_isThing_13 (by decide) ?_
      subst hF
      exact zw_zreturn C hr hlk rfl dX3_isThing_17 rfl rfl
def fX3_answer (B : dB) : Int64 := B.2.2.1
set_option maxHeartbeats 4000000 in
set_option maxRecDepth 100000 in
theorem kX3_answer {l : Launch} {D : va_G} {cI cL : ClassId} {a : Nat → Nat} {B : dB} {S : dS} {V : dV} {O : dO} {G : dG} {F : dF} {T : dT} {q : Int64} (hF : fX3_answer B = q) : zw_Ml l yX3_answer cX3_answer 1 D (zw_tys cI cL) (zw_rm 0 0) [.ref (a 0)] (wD cI cL a B S V O G F T) (wD cI cL a B S V O G F T) q := by
  unfold fX3_answer at hF
  refine zw_Ml_of (own := RX3) (by decide) rfl (Nat.le_of_ble_eq_true rfl) ?_
  intro p e s m args below meth c A C hr hlk
  refine zw_eq (lv2 := [(0, .ref (a 0))]) rfl rfl rfl ?_
  refine zw_aload_n C dX3_answer_0 0 rfl rfl ?_
  refine zw_get C FX3 0 12 (v := .long B.2.2.1) rfl (by decide) lkX3_60 rfl dX3_answer_1 ?_
  subst hF
  exact zw_lreturn C hr hlk dX3_answer_4 rfl rfl
def fX3_count (B : dB) (S : dS) (V : dV) (O : dO) (G : dG) (T : dT) (p1 : Int32) : Int32 := (if p1 = 0 then B.1 else (if p1 = 1 then S.2.2.2.2 else (if p1 = 2 then V.2.2.2.2 else (if p1 = 3 then O.2.2.2.2 else (if p1 = 4 then B.2.1 else (if p1 = 5 then G.2.2.2.2 else (if p1 = 6 then T.1 else (if p1 = 7 then T.2.1 else (if p1 = 8 then T.2.2.1 else (if p1 = 9 then T.2.2.2.1 else (if p1 = 10 then T.2.2.2.2.1 else (-1))))))))))))
set_option maxHeartbeats 4000000 in
set_option maxRecDepth 100000 in
theorem kX3_count {l : Launch} {D : va_G} {cI cL : ClassId} {a : Nat → Nat} {B : dB} {S : dS} {V : dV} {O : dO} {G : dG} {F : dF} {T : dT} {p1 : Int32} {q : Int32} (hF : fX3_count B S V O G T p1 = q) : zw_Mi l yX3_count cX3_count 2 .int D (zw_tys cI cL) (zw_rm 0 0) [.ref (a 0), .int p1] (wD cI cL a B S V O G F T) (wD cI cL a B S V O G F T) q := by
  unfold fX3_count at hF
  refine zw_Mi_of (own := RX3) (by decide) rfl (Nat.le_of_ble_eq_true rfl) ?_
  intro p e s m args below meth c A C hr hlk
  refine zw_eq (lv2 := [(0, .ref (a 0)), (1, .int p1)]) rfl rfl rfl ?_
  refine zw_iload_n C dX3_count_0 1 rfl rfl ?_
  by_cases h1 : p1 = 0
  · rw [if_pos h1] at hF
    refine zw_tableIn C 60 dX3_count_1 (by rw [h1]; decide) (by rw [h1]; decide) (by rw [h1]; rfl) (by decide) ?_
    refine zw_aload_n C dX3_count_60 0 rfl rfl ?_
    refine zw_get C FX3 0 1 (v := .int B.1) rfl (by decide) lkX3_13 rfl dX3_count_61 ?_
    subst hF
    exact zw_ireturn C hr hlk dX3_count_64 rfl rfl
  rw [if_neg h1] at hF
  by_cases h2 : p1 = 1
  · rw [if_pos h2] at hF
    refine zw_tableIn C 65 dX3_count_1 (by rw [h2]; decide) (by rw [h2]; decide) (by rw [h2]; rfl) (by decide) ?_
    refine zw_aload_n C dX3_count_65 0 rfl rfl ?_
    refine zw_get C FX3 0 6 (v := .ref (a 5)) rfl (by decide) lkX3_33 rfl dX3_count_66 ?_
    refine zw_get C FX1 5 4 (v := .int S.2.2.2.2) rfl (by decide) lkX3_147 rfl dX3_count_69 ?_
    subst hF
    exact zw_ireturn C hr hlk dX3_count_72 rfl rfl
  rw [if_neg h2] at hF
  by_cases h3 : p1 = 2
  · rw [if_pos h3] at hF
    refine zw_tableIn C 73 dX3_count_1 (by rw [h3]; decide) (by rw [h3]; decide) (by rw [h3]; rfl) (by decide) ?_
    refine zw_aload_n C dX3_count_73 0 rfl rfl ?_
    refine zw_get C FX3 0 7 (v := .ref (a 10)) rfl (by decide) lkX3_37 rfl dX3_count_74 ?_
    refine zw_get C FX1 10 4 (v := .int V.2.2.2.2) rfl (by decide) lkX3_147 rfl dX3_count_77 ?_
    subst hF
    exact zw_ireturn C hr hlk dX3_count_80 rfl rfl
  rw [if_neg h3] at hF
  by_cases h4 : p1 = 3
  · rw [if_pos h4] at hF
    refine zw_tableIn C 81 dX3_count_1 (by rw [h4]; decide) (by rw [h4]; decide) (by rw [h4]; rfl) (by decide) ?_
    refine zw_aload_n C dX3_count_81 0 rfl rfl ?_
    refine zw_get C FX3 0 8 (v := .ref (a 15)) rfl (by decide) lkX3_40 rfl dX3_count_82 ?_
    refine zw_get C FX1 15 4 (v := .int O.2.2.2.2) rfl (by decide) lkX3_147 rfl dX3_count_85 ?_
    subst hF
    exact zw_ireturn C hr hlk dX3_count_88 rfl rfl
  rw [if_neg h4] at hF
  by_cases h5 : p1 = 4
  · rw [if_pos h5] at hF
    refine zw_tableIn C 89 dX3_count_1 (by rw [h5]; decide) (by rw [h5]; decide) (by rw [h5]; rfl) (by decide) ?_
    refine zw_aload_n C dX3_count_89 0 rfl rfl ?_
    refine zw_get C FX3 0 5 (v := .int B.2.1) rfl (by decide) lkX3_27 rfl dX3_count_90 ?_
    subst hF
    exact zw_ireturn C hr hlk dX3_count_93 rfl rfl
  rw [if_neg h5] at hF
  by_cases h6 : p1 = 5
  · rw [if_pos h6] at hF
    refine zw_tableIn C 94 dX3_count_1 (by rw [h6]; decide) (by rw [h6]; decide) (by rw [h6]; rfl) (by decide) ?_
    refine zw_aload_n C dX3_count_94 0 rfl rfl ?_
    refine zw_get C FX3 0 9 (v := .ref (a 20)) rfl (by decide) lkX3_46 rfl dX3_count_95 ?_
    refine zw_get C FX0 20 4 (v := .int G.2.2.2.2) rfl (by decide) lkX3_141 rfl dX3_count_98 ?_
    subst hF
    exact zw_ireturn C hr hlk dX3_count_101 rfl rfl
  rw [if_neg h6] at hF
  by_cases h7 : p1 = 6
  · rw [if_pos h7] at hF
    refine zw_tableIn C 102 dX3_count_1 (by rw [h7]; decide) (by rw [h7]; decide) (by rw [h7]; rfl) (by decide) ?_
    refine zw_aload_n C dX3_count_102 0 rfl rfl ?_
    refine zw_get C FX3 0 11 (v := .ref (a 30)) rfl (by decide) lkX3_56 rfl dX3_count_103 ?_
    refine zw_get C FX2 30 0 (v := .int T.1) rfl (by decide) lkX3_148 rfl dX3_count_106 ?_
    subst hF
    exact zw_ireturn C hr hlk dX3_count_109 rfl rfl
  rw [if_neg h7] at hF
  by_cases h8 : p1 = 7
  · rw [if_pos h8] at hF
    refine zw_tableIn C 110 dX3_count_1 (by rw [h8]; decide) (by rw [h8]; decide) (by rw [h8]; rfl) (by decide) ?_
    refine zw_aload_n C dX3_count_110 0 rfl rfl ?_
    refine zw_get C FX3 0 11 (v := .ref (a 30)) rfl (by decide) lkX3_56 rfl dX3_count_111 ?_
    refine zw_get C FX2 30 1 (v := .int T.2.1) rfl (by decide) lkX3_151 rfl dX3_count_114 ?_
    subst hF
    exact zw_ireturn C hr hlk dX3_count_117 rfl rfl
  rw [if_neg h8] at hF
  by_cases h9 : p1 = 8
  · rw [if_pos h9] at hF
    refine zw_tableIn C 118 dX3_count_1 (by rw [h9]; decide) (by rw [h9]; decide) (by rw [h9]; rfl) (by decide) ?_
    refine zw_aload_n C dX3_count_118 0 rfl rfl ?_
    refine zw_get C FX3 0 11 (v := .ref (a 30)) rfl (by decide) lkX3_56 rfl dX3_count_119 ?_
    refine zw_get C FX2 30 2 (v := .int T.2.2.1) rfl (by decide) lkX3_154 rfl dX3_count_122 ?_
    subst hF
    exact zw_ireturn C hr hlk dX3_count_125 rfl rfl
  rw [if_neg h9] at hF
  by_cases h10 : p1 = 9
  · rw [if_pos h10] at hF
    refine zw_tableIn C 126 dX3_count_1 (by rw [h10]; decide) (by rw [h10]; decide) (by rw [h10]; rfl) (by decide) ?_
    refine zw_aload_n C dX3_count_126 0 rfl rfl ?_
    refine zw_get C FX3 0 11 (v := .ref (a 30)) rfl (by decide) lkX3_56 rfl dX3_count_127 ?_
    refine zw_get C FX2 30 3 (v := .int T.2.2.2.1) rfl (by decide) lkX3_157 rfl dX3_count_130 ?_
    subst hF
    exact zw_ireturn C hr hlk dX3_count_133 rfl rfl
  rw [if_neg h10] at hF
  by_cases h11 : p1 = 10
  · rw [if_pos h11] at hF
    refine zw_tableIn C 134 dX3_count_1 (by rw [h11]; decide) (by rw [h11]; decide) (by rw [h11]; rfl) (by decide) ?_
    refine zw_aload_n C dX3_count_134 0 rfl rfl ?_
    refine zw_get C FX3 0 11 (v := .ref (a 30)) rfl (by decide) lkX3_56 rfl dX3_count_135 ?_
    refine zw_get C FX2 30 4 (v := .int T.2.2.2.2.1) rfl (by decide) lkX3_160 rfl dX3_count_138 ?_
    subst hF
    exact zw_ireturn C hr hlk dX3_count_141 rfl rfl
  rw [if_neg h11] at hF
  refine zw_tableOut C 142 dX3_count_1 (zw_tout (n := 10) (by decide) (fun k hk => by match k, hk with | 0, _ => exact h1 | 1, _ => exact h2 | 2, _ => exact h3 | 3, _ => exact h4 | 4, _ => exact h5 | 5, _ => exact h6 | 6, _ => exact h7 | 7, _ => exact h8 | 8, _ => exact h9 | 9, _ => exact h10 | 10, _ => exact h11 | k + 11, hk => exact absurd hk (by omega))) (by decide) ?_
  refine zw_iconst C (v := (-1)) dX3_count_142 (by decide) ?_
  subst hF
  exact zw_ireturn C hr hlk dX3_count_143 rfl rfl
def fX0_clear (F : dF) : dF := (F.1, F.2.1, F.2.2.1, F.2.2.2.1, 0)
set_option maxHeartbeats 4000000 in
set_option maxRecDepth 100000 in
theorem kX0_clear_F {l : Launch} {D : va_G} {cI cL : ClassId} {a : Nat → Nat} {B : dB} {S : dS} {V : dV} {O : dO} {G : dG} {F : dF} {T : dT} {q : dF} (hF : fX0_clear F = q) : zw_Mv l yX0_clear cX0_clear 1 D (zw_tys cI cL) (zw_rm 0 0) [.ref (a 25)] (wD cI cL a B S V O G F T) (wD cI cL a B S V O G q T) := by
  unfold fX0_clear at hF
  refine zw_Mv_of (own := RX0) (by decide) rfl (Nat.le_of_ble_eq_true rfl) ?_
  intro p e s m args below meth c A C hr hlk
  refine zw_eq (lv2 := [(0, .ref (a 25))]) rfl rfl rfl ?_
  refine zw_aload_n C dX0_clear_0 0 rfl rfl ?_
  refine zw_iconst C (v := 0) dX0_clear_1 (by decide) ?_
  refine zw_put C FX0 GX0 25 4 (v := .int 0) (ws2 := (wD cI cL a B S V O G (F.1, F.2.1, F.2.2.1, F.2.2.2.1, 0) T)) rfl (by decide) lkX0_25 rfl rfl rfl (Nat.le_of_ble_eq_true rfl) rfl dX0_clear_2 ?_
  subst hF
  exact zw_return C hr hlk dX0_clear_5 rfl
def fX0_tellOf (G : dG) (p1 : Int32) (p2 : Int32) : Int64 := (if p1 < 0 then 0 else (if p1 < G.2.2.2.2 then (if p2 = 0 then G.1 p1.toNatClampNeg else (if p2 = 1 then (G.2.1 p1.toNatClampNeg).toInt64 else (if p2 = 2 then G.2.2.1 p1.toNatClampNeg else (if p2 = 3 then (G.2.2.2.1 p1.toNatClampNeg).toInt64 else 0)))) else 0))
set_option maxHeartbeats 4000000 in
set_option maxRecDepth 100000 in
theorem kX0_tellOf_G {l : Launch} {D : va_G} {cI cL : ClassId} {a : Nat → Nat} {B : dB} {S : dS} {V : dV} {O : dO} {G : dG} {F : dF} {T : dT} {p1 : Int32} {p2 : Int32} {q : Int64} (hy1 : zw_le G.2.2.2.2 40) (hF : fX0_tellOf G p1 p2 = q) : zw_Ml l yX0_tellOf cX0_tellOf 3 D (zw_tys cI cL) (zw_rm 0 0) [.ref (a 20), .int p1, .int p2] (wD cI cL a B S V O G F T) (wD cI cL a B S V O G F T) q := by
  unfold fX0_tellOf at hF
  refine zw_Ml_of (own := RX0) (by decide) rfl (Nat.le_of_ble_eq_true rfl) ?_
  intro p e s m args below meth c A C hr hlk
  refine zw_eq (lv2 := [(0, .ref (a 20)), (1, .int p1), (2, .int p2)]) rfl rfl rfl ?_
  refine zw_iload_n C dX0_tellOf_0 1 rfl rfl ?_
  refine zw_if_lt C 12 dX0_tellOf_1 (by decide) (fun h1 => ?_) (fun h1 => ?_)
  · rw [if_pos h1] at hF
    refine zw_lconst C (v := 0) dX0_tellOf_12 (by decide) ?_
    subst hF
    exact zw_lreturn C hr hlk dX0_tellOf_13 rfl rfl
  · rw [if_neg h1] at hF
    refine zw_iload_n C dX0_tellOf_4 1 rfl rfl ?_
    refine zw_aload_n C dX0_tellOf_5 0 rfl rfl ?_
    refine zw_get C FX0 20 4 (v := .int G.2.2.2.2) rfl (by decide) lkX0_25 rfl dX0_tellOf_6 ?_
    refine zw_icmp_lt C 14 dX0_tellOf_9 (by decide) (fun h2 => ?_) (fun h2 => ?_)
    · rw [if_pos h2] at hF
      refine zw_iload_n C dX0_tellOf_14 2 rfl rfl ?_
      by_cases h3 : p2 = 0
      · rw [if_pos h3] at hF
        refine zw_tableIn C 44 dX0_tellOf_15 (by rw [h3]; decide) (by rw [h3]; decide) (by rw [h3]; rfl) (by decide) ?_
        refine zw_aload_n C dX0_tellOf_44 0 rfl rfl ?_
        refine zw_get C FX0 20 0 (v := .ref (a 21)) rfl (by decide) lkX0_9 rfl dX0_tellOf_45 ?_
        refine zw_iload_n C dX0_tellOf_48 1 rfl rfl ?_
        refine zw_lald C 21 1 (f := G.1) (i := p1) rfl rfl (zw_ix2 (by assumption) (by assumption) hy1 (by decide)) dX0_tellOf_49 ?_
        subst hF
        exact zw_lreturn C hr hlk dX0_tellOf_50 rfl rfl
      rw [if_neg h3] at hF
      by_cases h4 : p2 = 1
      · rw [if_pos h4] at hF
        refine zw_tableIn C 51 dX0_tellOf_15 (by rw [h4]; decide) (by rw [h4]; decide) (by rw [h4]; rfl) (by decide) ?_
        refine zw_aload_n C dX0_tellOf_51 0 rfl rfl ?_
        refine zw_get C FX0 20 1 (v := .ref (a 22)) rfl (by decide) lkX0_15 rfl dX0_tellOf_52 ?_
        refine zw_iload_n C dX0_tellOf_55 1 rfl rfl ?_
        refine zw_iald C 22 0 (f := G.2.1) (i := p1) rfl rfl (zw_ix2 (by assumption) (by assumption) hy1 (by decide)) dX0_tellOf_56 ?_
        refine zw_i2l C dX0_tellOf_57 ?_
        subst hF
        exact zw_lreturn C hr hlk dX0_tellOf_58 rfl rfl
      rw [if_neg h4] at hF
      by_cases h5 : p2 = 2
      · rw [if_pos h5] at hF
        refine zw_tableIn C 59 dX0_tellOf_15 (by rw [h5]; decide) (by rw [h5]; decide) (by rw [h5]; rfl) (by decide) ?_
        refine zw_aload_n C dX0_tellOf_59 0 rfl rfl ?_
        refine zw_get C FX0 20 2 (v := .ref (a 23)) rfl (by decide) lkX0_19 rfl dX0_tellOf_60 ?_
        refine zw_iload_n C dX0_tellOf_63 1 rfl rfl ?_
        refine zw_lald C 23 1 (f := G.2.2.1) (i := p1) rfl rfl (zw_ix2 (by assumption) (by assumption) hy1 (by decide)) dX0_tellOf_64 ?_
        subst hF
        exact zw_lreturn C hr hlk dX0_tellOf_65 rfl rfl
      rw [if_neg h5] at hF
      by_cases h6 : p2 = 3
      · rw [if_pos h6] at hF
        refine zw_tableIn C 66 dX0_tellOf_15 (by rw [h6]; decide) (by rw [h6]; decide) (by rw [h6]; rfl) (by decide) ?_
        refine zw_aload_n C dX0_tellOf_66 0 rfl rfl ?_
        refine zw_get C FX0 20 3 (v := .ref (a 24)) rfl (by decide) lkX0_22 rfl dX0_tellOf_67 ?_
        refine zw_iload_n C dX0_tellOf_70 1 rfl rfl ?_
        refine zw_iald C 24 0 (f := G.2.2.2.1) (i := p1) rfl rfl (zw_ix2 (by assumption) (by assumption) hy1 (by decide)) dX0_tellOf_71 ?_
        refine zw_i2l C dX0_tellOf_72 ?_
        subst hF
        exact zw_lreturn C hr hlk dX0_tellOf_73 rfl rfl
      rw [if_neg h6] at hF
      refine zw_tableOut C 74 dX0_tellOf_15 (zw_tout (n := 3) (by decide) (fun k hk => by match k, hk with | 0, _ => exact h3 | 1, _ => exact h4 | 2, _ => exact h5 | 3, _ => exact h6 | k + 4, hk => exact absurd hk (by omega))) (by decide) ?_
      refine zw_lconst C (v := 0) dX0_tellOf_74 (by decide) ?_
      subst hF
      exact zw_lreturn C hr hlk dX0_tellOf_75 rfl rfl
    · rw [if_neg h2] at hF
      refine zw_lconst C (v := 0) dX0_tellOf_12 (by decide) ?_
      subst hF
      exact zw_lreturn C hr hlk dX0_tellOf_13 rfl rfl
def fX3_groups (G : dG) (p1 : Int32) (p2 : Int32) : Int64 := fX0_tellOf G p1 p2
set_option maxHeartbeats 4000000 in
set_option maxRecDepth 100000 in
theorem kX3_groups {l : Launch} {D : va_G} {cI cL : ClassId} {a : Nat → Nat} {B : dB} {S : dS} {V : dV} {O : dO} {G : dG} {F : dF} {T : dT} {p1 : Int32} {p2 : Int32} {q : Int64} (hy1 : zw_le G.2.2.2.2 40) (hF : fX3_groups G p1 p2 = q) : zw_Ml l yX3_groups cX3_groups 3 D (zw_tys cI cL) (zw_rm 1 22) [.ref (a 0), .int p1, .int p2] (wD cI cL a B S V O G F T) (wD cI cL a B S V O G F T) q := by
  unfold fX3_groups at hF
  refine zw_Ml_of (own := RX3) (by decide) rfl (Nat.le_of_ble_eq_true rfl) ?_
  intro p e s m args below meth c A C hr hlk
  refine zw_eq (lv2 := [(0, .ref (a 0)), (1, .int p1), (2, .int p2)]) rfl rfl rfl ?_
  refine zw_aload_n C dX3_groups_0 0 rfl rfl ?_
  refine zw_get C FX3 0 9 (v := .ref (a 20)) rfl (by decide) lkX3_46 rfl dX3_groups_1 ?_
  refine zw_iload_n C dX3_groups_4 1 rfl rfl ?_
  refine zw_iload_n C dX3_groups_5 2 rfl rfl ?_
  refine zw_calll C kvX3_144 (kX0_tellOf_G hy1 rfl) ⟨rfl, rfl, ⟨by decide, by decide⟩, by decide, by decide⟩ FX0 20 (As := [.int p1, .int p2]) (rest := []) rfl rfl rfl (Nat.le_of_ble_eq_true rfl) dX3_groups_6 ?_
  subst hF
  exact zw_lreturn C hr hlk dX3_groups_9 rfl rfl
end
section
/-! what the small tests say; the desk's numbers are in their bounds -/
theorem dz_lt {x sz : Int32} {n : Nat} (h1 : ¬ x < 0) (h2 : ¬ sz ≤ x) (hs : sz = nI n) : ∃ j : Nat, j < n ∧ x = nI j := by
  subst hs
  obtain ⟨j, hj, rfl⟩ := nI_of h1
  refine ⟨j, ?_, rfl⟩
  rcases Nat.lt_or_ge j n with h | h
  · exact h
  · exact absurd (nI_le h hj) h2
theorem dz_isThing {B : dB} {x : Int32} {n : Nat} (h : ¬ fX3_isThing B x = 0) (hs : B.1 = nI n) : ∃ j : Nat, j < n ∧ x = nI j := by
  unfold fX3_isThing at h
  by_cases h1 : x < 0
  · rw [if_pos h1] at h; exact absurd rfl h
  · rw [if_neg h1] at h
    by_cases h2 : B.1 ≤ x
    · rw [if_pos h2] at h; exact absurd rfl h
    · exact dz_lt h1 h2 hs
theorem dz_isColumn {x : Int32} (h : ¬ fX3_isColumn x = 0) : ∃ j : Nat, j < 3 ∧ x = nI j := by
  unfold fX3_isColumn at h
  by_cases h1 : x < 0
  · rw [if_pos h1] at h; exact absurd rfl h
  · rw [if_neg h1] at h
    by_cases h2 : (3 : Int32) ≤ x
    · rw [if_pos h2] at h; exact absurd rfl h
    · exact dz_lt (sz := 3) (n := 3) h1 h2 rfl
theorem dz_has {S : dS} {x : Int32} {n : Nat} (h : ¬ fX1_has S x = 0) (hs : S.2.2.2.2 = nI n) : ∃ j : Nat, j < n ∧ x = nI j := by
  unfold fX1_has at h
  by_cases h1 : x < 0
  · rw [if_pos h1] at h; exact absurd rfl h
  · rw [if_neg h1] at h
    by_cases h2 : S.2.2.2.2 ≤ x
    · rw [if_pos h2] at h; exact absurd rfl h
    · exact dz_lt h1 h2 hs
theorem dz_cell {x y : Int32} {j c : Nat} (hj : j < 40) (hc : c < 3) (hx : x = nI j) (hy : y = nI c) : fX3_cellOf x y = nI (j * 3 + c) ∧ vp_in (fX3_cellOf x y) 120 := by
  subst hx; subst hy
  have e : fX3_cellOf (nI j) (nI c) = nI (j * 3 + c) := by
    unfold fX3_cellOf
    rw [show (3 : Int32) = nI 3 from rfl, pk_mul, nI_add]
  exact ⟨e, by rw [e]; exact vp_in_nI (by omega) (by decide)⟩
theorem dz_place {x : Int64} (h : ¬ fX3_isPlaceOfRow x = 0) : ∃ j : Nat, j < 8 ∧ x = lN j := by
  unfold fX3_isPlaceOfRow at h
  by_cases h1 : lg_cmp x 0 < 0
  · rw [if_pos h1] at h; exact absurd rfl h
  · rw [if_neg h1] at h
    by_cases h2 : 0 ≤ lg_cmp x 8
    · rw [if_pos h2] at h; exact absurd rfl h
    · have a1 : ¬ x < 0 := fun z => h1 ((lg_cmp_lt x 0).mpr z)
      have a2 : ¬ (8 : Int64) ≤ x := fun z => h2 ((lg_cmp_ge x 8).mpr z)
      obtain ⟨k, hk, rfl⟩ := pk_lOf a1
      refine ⟨k, ?_, rfl⟩
      rcases Nat.lt_or_ge k 8 with h3 | h3
      · exact h3
      · exact absurd ((pk_lLE (a := 8) (b := k) (by decide) hk).mpr h3) a2
theorem dz_placeI {x : Int32} (h : ¬ fX3_isPlaceOfRow x.toInt64 = 0) : vp_in x 8 := by
  obtain ⟨j, hj, e⟩ := dz_place h
  have e2 : x = nI j := by rw [← lg_l2i_i2l x, e, lN_i]
  rw [e2]; exact vp_in_nI hj (by decide)
theorem dz_placeL {x : Int64} (h : ¬ fX3_isPlaceOfRow x = 0) : vp_in x.toInt32 8 := by
  obtain ⟨j, hj, rfl⟩ := dz_place h
  rw [lN_i]; exact vp_in_nI hj (by decide)
/-- the desk's counts and list in their bounds: n things, k of them listed -/
def dz_B (B : dB) (n k : Nat) : Prop := n ≤ 40 ∧ k ≤ n ∧ B.1 = nI n ∧ B.2.1 = nI k ∧ ∀ j : Nat, j < k → ∃ t : Nat, t < n ∧ B.2.2.2.2.2.1 j = nI t
theorem dz_full {B : dB} {n k : Nat} (hB : dz_B B n k) (h : B.1 < 40) : n < 40 := by
  rw [hB.2.2.1] at h
  exact (nI_ltI (a := n) (b := 40) (by have := hB.1; omega) (by decide)).mp h
theorem dz_le {B : dB} {n k : Nat} (hB : dz_B B n k) : zw_le B.2.1 40 := ⟨k, by have := hB.1; have := hB.2.1; omega, hB.2.2.2.1⟩
end
section
def fX3_thing (B : dB) (p1 : Int64) (p2 : Int64) (p3 : Int64) : Int32 × dB := (if B.1 < 40 then (B.1, (B.1 + 1, B.2.1 + 1, B.2.2.1, (vp_updL (vp_updL (vp_updL B.2.2.2.1 (fX3_cellOf B.1 0).toNatClampNeg p1) (fX3_cellOf B.1 1).toNatClampNeg p2) (fX3_cellOf B.1 2).toNatClampNeg p3), B.2.2.2.2.1, (upd B.2.2.2.2.2.1 B.2.1.toNatClampNeg B.1), B.2.2.2.2.2.2)) else ((-2), B))
set_option maxHeartbeats 4000000 in
set_option maxRecDepth 100000 in
theorem kX3_thing {l : Launch} {D : va_G} {cI cL : ClassId} {a : Nat → Nat} {B : dB} {S : dS} {V : dV} {O : dO} {G : dG} {F : dF} {T : dT} {p1 : Int64} {p2 : Int64} {p3 : Int64} {q : Int32 × dB} {n k : Nat} (hy1 : dz_B B n k) (hF : fX3_thing B p1 p2 p3 = q) : zw_Mi l yX3_thing cX3_thing 8 .int D (zw_tys cI cL) (zw_rm 1 21) [.ref (a 0), .long p1, .long p2, .long p3] (wD cI cL a B S V O G F T) (wD cI cL a q.2 S V O G F T) q.1 := by
  unfold fX3_thing at hF
  refine zw_Mi_of (own := RX3) (by decide) rfl (Nat.le_of_ble_eq_true rfl) ?_
  intro p e s m args below meth c A C hr hlk
  refine zw_eq (lv2 := [(0, .ref (a 0)), (1, .long p1), (3, .long p2), (5, .long p3)]) rfl rfl rfl ?_
  refine zw_aload_n C dX3_thing_0 0 rfl rfl ?_
  refine zw_get C FX3 0 1 (v := .int B.1) rfl (by decide) lkX3_13 rfl dX3_thing_1 ?_
  refine zw_bipush C (v := 40) dX3_thing_4 (by decide) ?_
  refine zw_icmp_lt C 12 dX3_thing_6 (by decide) (fun h1 => ?_) (fun h1 => ?_)
  · rw [if_pos h1] at hF
    refine zw_aload_n C dX3_thing_12 0 rfl rfl ?_
    refine zw_get C FX3 0 1 (v := .int B.1) rfl (by decide) lkX3_13 rfl dX3_thing_13 ?_
    refine zw_istore C dX3_thing_16 (by decide) rfl ?_
    refine zw_aload_n C dX3_thing_18 1 rfl rfl ?_
    refine zw_get C FX3 0 0 (v := .ref (a 1)) rfl (by decide) lkX3_9 rfl dX3_thing_19 ?_
    refine zw_iload C dX3_thing_22 0 rfl ?_
    refine zw_iconst C (v := 0) dX3_thing_24 (by decide) ?_
    refine zw_scalli C kvX3_64 (kX3_cellOf rfl) ⟨rfl, rfl, ⟨by decide, by decide⟩, by decide, by decide⟩ (As := [.int B.1, .int 0]) (rest := [.ref (a 1)]) rfl rfl (Nat.le_of_ble_eq_true rfl) dX3_thing_25 ?_
    refine zw_lload_n C dX3_thing_28 2 rfl rfl ?_
    refine zw_last C 1 1 (f := B.2.2.2.1) (i := (fX3_cellOf B.1 0)) (ws2 := (wD cI cL a (B.1, B.2.1, B.2.2.1, (vp_updL B.2.2.2.1 (fX3_cellOf B.1 0).toNatClampNeg p1), B.2.2.2.2.1, B.2.2.2.2.2.1, B.2.2.2.2.2.2) S V O G F T)) rfl rfl ((dz_cell (dz_full hy1 (by assumption)) (c := 0) (by decide) hy1.2.2.1 rfl).2) rfl dX3_thing_29 ?_
    refine zw_aload_n C dX3_thing_30 1 rfl rfl ?_
    refine zw_get C FX3 0 0 (v := .ref (a 1)) rfl (by decide) lkX3_9 rfl dX3_thing_31 ?_
    refine zw_iload C dX3_thing_34 0 rfl ?_
    refine zw_iconst C (v := 1) dX3_thing_36 (by decide) ?_
    refine zw_scalli C kvX3_64 (kX3_cellOf rfl) ⟨rfl, rfl, ⟨by decide, by decide⟩, by decide, by decide⟩ (As := [.int B.1, .int 1]) (rest := [.ref (a 1)]) rfl rfl (Nat.le_of_ble_eq_true rfl) dX3_thing_37 ?_
    refine zw_lload_n C dX3_thing_40 3 rfl rfl ?_
    refine zw_last C 1 1 (f := (vp_updL B.2.2.2.1 (fX3_cellOf B.1 0).toNatClampNeg p1)) (i := (fX3_cellOf B.1 1)) (ws2 := (wD cI cL a (B.1, B.2.1, B.2.2.1, (vp_updL (vp_updL B.2.2.2.1 (fX3_cellOf B.1 0).toNatClampNeg p1) (fX3_cellOf B.1 1).toNatClampNeg p2), B.2.2.2.2.1, B.2.2.2.2.2.1, B.2.2.2.2.2.2) S V O G F T)) rfl rfl ((dz_cell (dz_full hy1 (by assumption)) (c := 1) (by decide) hy1.2.2.1 rfl).2) rfl dX3_thing_41 ?_
    refine zw_aload_n C dX3_thing_42 1 rfl rfl ?_
    refine zw_get C FX3 0 0 (v := .ref (a 1)) rfl (by decide) lkX3_9 rfl dX3_thing_43 ?_
    refine zw_iload C dX3_thing_46 0 rfl ?_
    refine zw_iconst C (v := 2) dX3_thing_48 (by decide) ?_
    refine zw_scalli C kvX3_64 (kX3_cellOf rfl) ⟨rfl, rfl, ⟨by decide, by decide⟩, by decide, by decide⟩ (As := [.int B.1, .int 2]) (rest := [.ref (a 1)]) rfl rfl (Nat.le_of_ble_eq_true rfl) dX3_thing_49 ?_
    refine zw_lload C dX3_thing_52 4 rfl ?_
    refine zw_last C 1 1 (f := (vp_updL (vp_updL B.2.2.2.1 (fX3_cellOf B.1 0).toNatClampNeg p1) (fX3_cellOf B.1 1).toNatClampNeg p2)) (i := (fX3_cellOf B.1 2)) (ws2 := (wD cI cL a (B.1, B.2.1, B.2.2.1, (vp_updL (vp_updL (vp_updL B.2.2.2.1 (fX3_cellOf B.1 0).toNatClampNeg p1) (fX3_cellOf B.1 1).toNatClampNeg p2) (fX3_cellOf B.1 2).toNatClampNeg p3), B.2.2.2.2.1, B.2.2.2.2.2.1, B.2.2.2.2.2.2) S V O G F T)) rfl rfl ((dz_cell (dz_full hy1 (by assumption)) (c := 2) (by decide) hy1.2.2.1 rfl).2) rfl dX3_thing_54 ?_
    refine zw_aload_n C dX3_thing_55 1 rfl rfl ?_
    refine zw_dup C dX3_thing_56 rfl ?_
    refine zw_get C FX3 0 1 (v := .int B.1) rfl (by decide) lkX3_13 rfl dX3_thing_57 ?_
    refine zw_iconst C (v := 1) dX3_thing_60 (by decide) ?_
    refine zw_iadd C dX3_thing_61 ?_
    refine zw_put C FX3 GX3 0 1 (v := .int (B.1 + 1)) (ws2 := (wD cI cL a (B.1 + 1, B.2.1, B.2.2.1, (vp_updL (vp_updL (vp_updL B.2.2.2.1 (fX3_cellOf B.1 0).toNatClampNeg p1) (fX3_cellOf B.1 1).toNatClampNeg p2) (fX3_cellOf B.1 2).toNatClampNeg p3), B.2.2.2.2.1, B.2.2.2.2.2.1, B.2.2.2.2.2.2) S V O G F T)) rfl (by decide) lkX3_13 rfl rfl rfl (Nat.le_of_ble_eq_true rfl) rfl dX3_thing_62 ?_
    refine zw_aload_n C dX3_thing_65 1 rfl rfl ?_
    refine zw_get C FX3 0 3 (v := .ref (a 3)) rfl (by decide) lkX3_20 rfl dX3_thing_66 ?_
    refine zw_aload_n C dX3_thing_69 1 rfl rfl ?_
    refine zw_get C FX3 0 5 (v := .int B.2.1) rfl (by decide) lkX3_27 rfl dX3_thing_70 ?_
    refine zw_iload C dX3_thing_73 0 rfl ?_
    refine zw_iast C 3 0 (f := B.2.2.2.2.2.1) (i := B.2.1) (ws2 := (wD cI cL a (B.1 + 1, B.2.1, B.2.2.1, (vp_updL (vp_updL (vp_updL B.2.2.2.1 (fX3_cellOf B.1 0).toNatClampNeg p1) (fX3_cellOf B.1 1).toNatClampNeg p2) (fX3_cellOf B.1 2).toNatClampNeg p3), B.2.2.2.2.1, (upd B.2.2.2.2.2.1 B.2.1.toNatClampNeg B.1), B.2.2.2.2.2.2) S V O G F T)) rfl rfl (by rw [hy1.2.2.2.1]; exact vp_in_nI (by have := dz_full hy1 (by assumption); have := hy1.2.1; omega) (by decide)) rfl dX3_thing_75 ?_
    refine zw_aload_n C dX3_thing_76 1 rfl rfl ?_
    refine zw_dup C dX3_thing_77 rfl ?_
    refine zw_get C FX3 0 5 (v := .int B.2.1) rfl (by decide) lkX3_27 rfl dX3_thing_78 ?_
    refine zw_iconst C (v := 1) dX3_thing_81 (by decide) ?_
    refine zw_iadd C dX3_thing_82 ?_
    refine zw_put C FX3 GX3 0 5 (v := .int (B.2.1 + 1)) (ws2 := (wD cI cL a (B.1 + 1, B.2.1 + 1, B.2.2.1, (vp_updL (vp_updL (vp_updL B.2.2.2.1 (fX3_cellOf B.1 0).toNatClampNeg p1) (fX3_cellOf B.1 1).toNatClampNeg p2) (fX3_cellOf B.1 2).toNatClampNeg p3), B.2.2.2.2.1, (upd B.2.2.2.2.2.1 B.2.1.toNatClampNeg B.1), B.2.2.2.2.2.2) S V O G F T)) rfl (by decide) lkX3_27 rfl rfl rfl (Nat.le_of_ble_eq_true rfl) rfl dX3_thing_83 ?_
    refine zw_iload C dX3_thing_86 0 rfl ?_
    subst hF
    exact zw_ireturn C hr hlk dX3_thing_88 rfl rfl
  · rw [if_neg h1] at hF
    refine zw_bipush C (v := (-2)) dX3_thing_9 (by decide) ?_
    subst hF
    exact zw_ireturn C hr hlk dX3_thing_11 rfl rfl
def fX3_change (B : dB) (p1 : Int32) (p2 : Int32) (p3 : Int64) : Int32 × dB := (if (fX3_isThing B p1) = 0 then ((-1), B) else (if (fX3_isColumn p2) = 0 then ((-1), B) else (1, (B.1, B.2.1, B.2.2.1, (vp_updL B.2.2.2.1 (fX3_cellOf p1 p2).toNatClampNeg p3), B.2.2.2.2.1, B.2.2.2.2.2.1, B.2.2.2.2.2.2))))
set_option maxHeartbeats 4000000 in
set_option maxRecDepth 100000 in
theorem kX3_change {l : Launch} {D : va_G} {cI cL : ClassId} {a : Nat → Nat} {B : dB} {S : dS} {V : dV} {O : dO} {G : dG} {F : dF} {T : dT} {p1 : Int32} {p2 : Int32} {p3 : Int64} {q : Int32 × dB} {n k : Nat} (hy1 : dz_B B n k) (hF : fX3_change B p1 p2 p3 = q) : zw_Mi l yX3_change cX3_change 5 .int D (zw_tys cI cL) (zw_rm 1 21) [.ref (a 0), .int p1, .int p2, .long p3] (wD cI cL a B S V O G F T) (wD cI cL a q.2 S V O G F T) q.1 := by
  unfold fX3_change at hF
  refine zw_Mi_of (own := RX3) (by decide) rfl (Nat.le_of_ble_eq_true rfl) ?_
  intro p e s m args below meth c A C hr hlk
  refine zw_eq (lv2 := [(0, .ref (a 0)), (1, .int p1), (2, .int p2), (3, .long p3)]) rfl rfl rfl ?_
  refine zw_aload_n C dX3_change_0 0 rfl rfl ?_
  refine zw_iload_n C dX3_change_1 1 rfl rfl ?_
  refine zw_calli C kvX3_68 (kX3_isThing rfl) ⟨rfl, rfl, ⟨by decide, by decide⟩, by decide, by decide⟩ FX3 0 (As := [.int p1]) (rest := []) rfl rfl rfl (Nat.le_of_ble_eq_true rfl) dX3_change_2 ?_
  refine zw_if_eq C 15 dX3_change_5 (by decide) (fun h1 => ?_) (fun h1 => ?_)
  · rw [if_pos h1] at hF
    refine zw_iconst C (v := (-1)) dX3_change_15 (by decide) ?_
    subst hF
    exact zw_ireturn C hr hlk dX3_change_16 rfl rfl
  · rw [if_neg h1] at hF
    refine zw_iload_n C dX3_change_8 2 rfl rfl ?_
    refine zw_scalli C kvX3_72 (kX3_isColumn rfl) ⟨rfl, rfl, ⟨by decide, by decide⟩, by decide, by decide⟩ (As := [.int p2]) (rest := []) rfl rfl (Nat.le_of_ble_eq_true rfl) dX3_change_9 ?_
    refine zw_if_ne C 17 dX3_change_12 (by decide) (fun h2 => ?_) (fun h2 => ?_)
    · rw [if_neg h2] at hF
      refine zw_aload_n C dX3_change_17 0 rfl rfl ?_
      refine zw_get C FX3 0 0 (v := .ref (a 1)) rfl (by decide) lkX3_9 rfl dX3_change_18 ?_
      refine zw_iload_n C dX3_change_21 1 rfl rfl ?_
      refine zw_iload_n C dX3_change_22 2 rfl rfl ?_
      refine zw_scalli C kvX3_64 (kX3_cellOf rfl) ⟨rfl, rfl, ⟨by decide, by decide⟩, by decide, by decide⟩ (As := [.int p1, .int p2]) (rest := [.ref (a 1)]) rfl rfl (Nat.le_of_ble_eq_true rfl) dX3_change_23 ?_
      refine zw_lload_n C dX3_change_26 3 rfl rfl ?_
      refine zw_last C 1 1 (f := B.2.2.2.1) (i := (fX3_cellOf p1 p2)) (ws2 := (wD cI cL a (B.1, B.2.1, B.2.2.1, (vp_updL B.2.2.2.1 (fX3_cellOf p1 p2).toNatClampNeg p3), B.2.2.2.2.1, B.2.2.2.2.2.1, B.2.2.2.2.2.2) S V O G F T)) rfl rfl (by obtain ⟨j, hj, ej⟩ := dz_isThing (n := n) (by assumption) hy1.2.2.1; obtain ⟨i, hi, ei⟩ := dz_isColumn (by assumption); exact (dz_cell (by have := hy1.1; omega) hi ej ei).2) rfl dX3_change_27 ?_
      refine zw_iconst C (v := 1) dX3_change_28 (by decide) ?_
      subst hF
      exact zw_ireturn C hr hlk dX3_change_29 rfl rfl
    · rw [if_pos h2] at hF
      refine zw_iconst C (v := (-1)) dX3_change_15 (by decide) ?_
      subst hF
      exact zw_ireturn C hr hlk dX3_change_16 rfl rfl
def fX3_get (B : dB) (p1 : Int32) (p2 : Int32) : Int64 := (if (fX3_isThing B p1) = 0 then 0 else (if (fX3_isColumn p2) = 0 then 0 else B.2.2.2.1 (fX3_cellOf p1 p2).toNatClampNeg))
set_option maxHeartbeats 4000000 in
set_option maxRecDepth 100000 in
theorem kX3_get {l : Launch} {D : va_G} {cI cL : ClassId} {a : Nat → Nat} {B : dB} {S : dS} {V : dV} {O : dO} {G : dG} {F : dF} {T : dT} {p1 : Int32} {p2 : Int32} {q : Int64} {n k : Nat} (hy1 : dz_B B n k) (hF : fX3_get B p1 p2 = q) : zw_Ml l yX3_get cX3_get 3 D (zw_tys cI cL) (zw_rm 1 21) [.ref (a 0), .int p1, .int p2] (wD cI cL a B S V O G F T) (wD cI cL a B S V O G F T) q := by
  unfold fX3_get at hF
  refine zw_Ml_of (own := RX3) (by decide) rfl (Nat.le_of_ble_eq_true rfl) ?_
  intro p e s m args below meth c A C hr hlk
  refine zw_eq (lv2 := [(0, .ref (a 0)), (1, .int p1), (2, .int p2)]) rfl rfl rfl ?_
  refine zw_aload_n C dX3_get_0 0 rfl rfl ?_
  refine zw_iload_n C dX3_get_1 1 rfl rfl ?_
  refine zw_calli C kvX3_68 (kX3_isThing rfl) ⟨rfl, rfl, ⟨by decide, by decide⟩, by decide, by decide⟩ FX3 0 (As := [.int p1]) (rest := []) rfl rfl rfl (Nat.le_of_ble_eq_true rfl) dX3_get_2 ?_
  refine zw_if_eq C 15 dX3_get_5 (by decide) (fun h1 => ?_) (fun h1 => ?_)
  · rw [if_pos h1] at hF
    refine zw_lconst C (v := 0) dX3_get_15 (by decide) ?_
    subst hF
    exact zw_lreturn C hr hlk dX3_get_16 rfl rfl
  · rw [if_neg h1] at hF
    refine zw_iload_n C dX3_get_8 2 rfl rfl ?_
    refine zw_scalli C kvX3_72 (kX3_isColumn rfl) ⟨rfl, rfl, ⟨by decide, by decide⟩, by decide, by decide⟩ (As := [.int p2]) (rest := []) rfl rfl (Nat.le_of_ble_eq_true rfl) dX3_get_9 ?_
    refine zw_if_ne C 17 dX3_get_12 (by decide) (fun h2 => ?_) (fun h2 => ?_)
    · rw [if_neg h2] at hF
      refine zw_aload_n C dX3_get_17 0 rfl rfl ?_
      refine zw_get C FX3 0 0 (v := .ref (a 1)) rfl (by decide) lkX3_9 rfl dX3_get_18 ?_
      refine zw_iload_n C dX3_get_21 1 rfl rfl ?_
      refine zw_iload_n C dX3_get_22 2 rfl rfl ?_
      refine zw_scalli C kvX3_64 (kX3_cellOf rfl) ⟨rfl, rfl, ⟨by decide, by decide⟩, by decide, by decide⟩ (As := [.int p1, .int p2]) (rest := [.ref (a 1)]) rfl rfl (Nat.le_of_ble_eq_true rfl) dX3_get_23 ?_
      refine zw_lald C 1 1 (f := B.2.2.2.1) (i := (fX3_cellOf p1 p2)) rfl rfl (by obtain ⟨j, hj, ej⟩ := dz_isThing (n := n) (by assumption) hy1.2.2.1; obtain ⟨i, hi, ei⟩ := dz_isColumn (by assumption); exact (dz_cell (by have := hy1.1; omega) hi ej ei).2) dX3_get_26 ?_
      subst hF
      exact zw_lreturn C hr hlk dX3_get_27 rfl rfl
    · rw [if_pos h2] at hF
      refine zw_lconst C (v := 0) dX3_get_15 (by decide) ?_
      subst hF
      exact zw_lreturn C hr hlk dX3_get_16 rfl rfl
def fX3_item (B : dB) (p1 : Int32) (p2 : Int64) : Int32 × dB := (if (fX3_isPlaceOfRow p1.toInt64) = 0 then ((-1), B) else (1, (B.1, B.2.1, B.2.2.1, B.2.2.2.1, (vp_updL B.2.2.2.2.1 p1.toNatClampNeg p2), B.2.2.2.2.2.1, B.2.2.2.2.2.2)))
set_option maxHeartbeats 4000000 in
set_option maxRecDepth 100000 in
theorem kX3_item {l : Launch} {D : va_G} {cI cL : ClassId} {a : Nat → Nat} {B : dB} {S : dS} {V : dV} {O : dO} {G : dG} {F : dF} {T : dT} {p1 : Int32} {p2 : Int64} {q : Int32 × dB} (hF : fX3_item B p1 p2 = q) : zw_Mi l yX3_item cX3_item 4 .int D (zw_tys cI cL) (zw_rm 1 21) [.ref (a 0), .int p1, .long p2] (wD cI cL a B S V O G F T) (wD cI cL a q.2 S V O G F T) q.1 := by
  unfold fX3_item at hF
  refine zw_Mi_of (own := RX3) (by decide) rfl (Nat.le_of_ble_eq_true rfl) ?_
  intro p e s m args below meth c A C hr hlk
  refine zw_eq (lv2 := [(0, .ref (a 0)), (1, .int p1), (2, .long p2)]) rfl rfl rfl ?_
  refine zw_iload_n C dX3_item_0 1 rfl rfl ?_
  refine zw_i2l C dX3_item_1 ?_
  refine zw_scalli C kvX3_75 (kX3_isPlaceOfRow rfl) ⟨rfl, rfl, ⟨by decide, by decide⟩, by decide, by decide⟩ (As := [.long p1.toInt64]) (rest := []) rfl rfl (Nat.le_of_ble_eq_true rfl) dX3_item_2 ?_
  refine zw_if_ne C 10 dX3_item_5 (by decide) (fun h1 => ?_) (fun h1 => ?_)
  · rw [if_neg h1] at hF
    refine zw_aload_n C dX3_item_10 0 rfl rfl ?_
    refine zw_get C FX3 0 2 (v := .ref (a 2)) rfl (by decide) lkX3_17 rfl dX3_item_11 ?_
    refine zw_iload_n C dX3_item_14 1 rfl rfl ?_
    refine zw_lload_n C dX3_item_15 2 rfl rfl ?_
    refine zw_last C 2 1 (f := B.2.2.2.2.1) (i := p1) (ws2 := (wD cI cL a (B.1, B.2.1, B.2.2.1, B.2.2.2.1, (vp_updL B.2.2.2.2.1 p1.toNatClampNeg p2), B.2.2.2.2.2.1, B.2.2.2.2.2.2) S V O G F T)) rfl rfl (dz_placeI (by assumption)) rfl dX3_item_16 ?_
    refine zw_iconst C (v := 1) dX3_item_17 (by decide) ?_
    subst hF
    exact zw_ireturn C hr hlk dX3_item_18 rfl rfl
  · rw [if_pos h1] at hF
    refine zw_iconst C (v := (-1)) dX3_item_8 (by decide) ?_
    subst hF
    exact zw_ireturn C hr hlk dX3_item_9 rfl rfl
def fX3_list (B : dB) (p1 : Int32) : Int32 := (if p1 < 0 then (-1) else (if B.2.1 ≤ p1 then (-1) else B.2.2.2.2.2.1 p1.toNatClampNeg))
set_option maxHeartbeats 4000000 in
set_option maxRecDepth 100000 in
theorem kX3_list {l : Launch} {D : va_G} {cI cL : ClassId} {a : Nat → Nat} {B : dB} {S : dS} {V : dV} {O : dO} {G : dG} {F : dF} {T : dT} {p1 : Int32} {q : Int32} {n k : Nat} (hy1 : dz_B B n k) (hF : fX3_list B p1 = q) : zw_Mi l yX3_list cX3_list 2 .int D (zw_tys cI cL) (zw_rm 0 0) [.ref (a 0), .int p1] (wD cI cL a B S V O G F T) (wD cI cL a B S V O G F T) q := by
  unfold fX3_list at hF
  refine zw_Mi_of (own := RX3) (by decide) rfl (Nat.le_of_ble_eq_true rfl) ?_
  intro p e s m args below meth c A C hr hlk
  refine zw_eq (lv2 := [(0, .ref (a 0)), (1, .int p1)]) rfl rfl rfl ?_
  refine zw_iload_n C dX3_list_0 1 rfl rfl ?_
  refine zw_if_lt C 21 dX3_list_1 (by decide) (fun h1 => ?_) (fun h1 => ?_)
  · rw [if_pos h1] at hF
    refine zw_iconst C (v := (-1)) dX3_list_21 (by decide) ?_
    subst hF
    exact zw_ireturn C hr hlk dX3_list_22 rfl rfl
  · rw [if_neg h1] at hF
    refine zw_iload_n C dX3_list_4 1 rfl rfl ?_
    refine zw_aload_n C dX3_list_5 0 rfl rfl ?_
    refine zw_get C FX3 0 5 (v := .int B.2.1) rfl (by decide) lkX3_27 rfl dX3_list_6 ?_
    refine zw_icmp_ge C 21 dX3_list_9 (by decide) (fun h2 => ?_) (fun h2 => ?_)
    · rw [if_pos h2] at hF
      refine zw_iconst C (v := (-1)) dX3_list_21 (by decide) ?_
      subst hF
      exact zw_ireturn C hr hlk dX3_list_22 rfl rfl
    · rw [if_neg h2] at hF
      refine zw_aload_n C dX3_list_12 0 rfl rfl ?_
      refine zw_get C FX3 0 3 (v := .ref (a 3)) rfl (by decide) lkX3_20 rfl dX3_list_13 ?_
      refine zw_iload_n C dX3_list_16 1 rfl rfl ?_
      refine zw_iald C 3 0 (f := B.2.2.2.2.2.1) (i := p1) rfl rfl (zw_ix (by assumption) (by assumption) (dz_le hy1) (by decide)) dX3_list_17 ?_
      refine zw_goto C 22 dX3_list_18 (by decide) ?_
      subst hF
      exact zw_ireturn C hr hlk dX3_list_22 rfl rfl
def fX3_quotient (T : dT) (p1 : Int64) (p2 : Int64) : Int64 × dT := (if (lg_cmp p2 0) = 0 then (zw_l (fX2_fail T 1) (fun q2 => (0, q2))) else (p1 / p2, T))
set_option maxHeartbeats 4000000 in
set_option maxRecDepth 100000 in
theorem kX3_quotient {l : Launch} {D : va_G} {cI cL : ClassId} {a : Nat → Nat} {B : dB} {S : dS} {V : dV} {O : dO} {G : dG} {F : dF} {T : dT} {p1 : Int64} {p2 : Int64} {q : Int64 × dT} (hF : fX3_quotient T p1 p2 = q) : zw_Ml l yX3_quotient cX3_quotient 5 D (zw_tys cI cL) (zw_rm 2 41) [.ref (a 0), .long p1, .long p2] (wD cI cL a B S V O G F T) (wD cI cL a B S V O G F q.2) q.1 := by
  unfold fX3_quotient at hF
  refine zw_Ml_of (own := RX3) (by decide) rfl (Nat.le_of_ble_eq_true rfl) ?_
  intro p e s m args below meth c A C hr hlk
  refine zw_eq (lv2 := [(0, .ref (a 0)), (1, .long p1), (3, .long p2)]) rfl rfl rfl ?_
  refine zw_lload_n C dX3_quotient_0 2 rfl rfl ?_
  refine zw_lconst C (v := 0) dX3_quotient_1 (by decide) ?_
  refine zw_lcmp C dX3_quotient_2 ?_
  refine zw_if_ne C 16 dX3_quotient_3 (by decide) (fun h1 => ?_) (fun h1 => ?_)
  · rw [if_neg h1] at hF
    refine zw_lload_n C dX3_quotient_16 1 rfl rfl ?_
    refine zw_lload_n C dX3_quotient_17 2 rfl rfl ?_
    refine zw_ldiv C dX3_quotient_18 (fun z => (by assumption : ¬ lg_cmp p2 0 = 0) ((lg_cmp_eq _ _).mpr z)) ?_
    subst hF
    exact zw_lreturn C hr hlk dX3_quotient_19 rfl rfl
  · rw [if_pos h1] at hF
    refine zw_aload_n C dX3_quotient_6 0 rfl rfl ?_
    refine zw_get C FX3 0 11 (v := .ref (a 30)) rfl (by decide) lkX3_56 rfl dX3_quotient_7 ?_
    refine zw_iconst C (v := 1) dX3_quotient_10 (by decide) ?_
    obtain ⟨q2, e3⟩ : ∃ z, fX2_fail T 1 = z := ⟨_, rfl⟩
    rw [zw_l_eq e3] at hF
    refine zw_callv C kvX3_201 (kX2_fail e3) ⟨rfl, rfl, ⟨by decide, by decide⟩, by decide, by decide⟩ FX2 30 (As := [.int 1]) (rest := []) rfl rfl rfl (Nat.le_of_ble_eq_true rfl) dX3_quotient_11 ?_
    refine zw_lconst C (v := 0) dX3_quotient_14 (by decide) ?_
    subst hF
    exact zw_lreturn C hr hlk dX3_quotient_15 rfl rfl
def fX3_itemAt (B4 : (Nat → Int64)) (T : dT) (p1 : Int64) : Int64 × dT := (if (fX3_isPlaceOfRow p1) = 0 then (zw_l (fX2_fail T 2) (fun q2 => (0, q2))) else (B4 p1.toInt32.toNatClampNeg, T))
set_option maxHeartbeats 4000000 in
set_option maxRecDepth 100000 in
theorem kX3_itemAt {l : Launch} {D : va_G} {cI cL : ClassId} {a : Nat → Nat} {B : dB} {S : dS} {V : dV} {O : dO} {G : dG} {F : dF} {T : dT} {p1 : Int64} {q : Int64 × dT} {B4 : Nat → Int64} (hF : fX3_itemAt B4 T p1 = q) : zw_Ml l yX3_itemAt cX3_itemAt 3 D (zw_tys cI cL) (zw_rm 2 41) [.ref (a 0), .long p1] (wD cI cL a (B.1, B.2.1, B.2.2.1, B.2.2.2.1, B4, B.2.2.2.2.2.1, B.2.2.2.2.2.2) S V O G F T) (wD cI cL a (B.1, B.2.1, B.2.2.1, B.2.2.2.1, B4, B.2.2.2.2.2.1, B.2.2.2.2.2.2) S V O G F q.2) q.1 := by
  unfold fX3_itemAt at hF
  refine zw_Ml_of (own := RX3) (by decide) rfl (Nat.le_of_ble_eq_true rfl) ?_
  intro p e s m args below meth c A C hr hlk
  refine zw_eq (lv2 := [(0, .ref (a 0)), (1, .long p1)]) rfl rfl rfl ?_
  refine zw_lload_n C dX3_itemAt_0 1 rfl rfl ?_
  refine zw_scalli C kvX3_75 (kX3_isPlaceOfRow rfl) ⟨rfl, rfl, ⟨by decide, by decide⟩, by decide, by decide⟩ (As := [.long p1]) (rest := []) rfl rfl (Nat.le_of_ble_eq_true rfl) dX3_itemAt_1 ?_
  refine zw_if_ne C 17 dX3_itemAt_4 (by decide) (fun h1 => ?_) (fun h1 => ?_)
  · rw [if_neg h1] at hF
    refine zw_aload_n C dX3_itemAt_17 0 rfl rfl ?_
    refine zw_get C FX3 0 2 (v := .ref (a 2)) rfl (by decide) lkX3_17 rfl dX3_itemAt_18 ?_
    refine zw_lload_n C dX3_itemAt_21 1 rfl rfl ?_
    refine zw_l2i C dX3_itemAt_22 ?_
    refine zw_lald C 2 1 (f := B4) (i := p1.toInt32) rfl rfl (dz_placeL (by assumption)) dX3_itemAt_23 ?_
    subst hF
    exact zw_lreturn C hr hlk dX3_itemAt_24 rfl rfl
  · rw [if_pos h1] at hF
    refine zw_aload_n C dX3_itemAt_7 0 rfl rfl ?_
    refine zw_get C FX3 0 11 (v := .ref (a 30)) rfl (by decide) lkX3_56 rfl dX3_itemAt_8 ?_
    refine zw_iconst C (v := 2) dX3_itemAt_11 (by decide) ?_
    obtain ⟨q2, e3⟩ : ∃ z, fX2_fail T 2 = z := ⟨_, rfl⟩
    rw [zw_l_eq e3] at hF
    refine zw_callv C kvX3_201 (kX2_fail e3) ⟨rfl, rfl, ⟨by decide, by decide⟩, by decide, by decide⟩ FX2 30 (As := [.int 2]) (rest := []) rfl rfl rfl (Nat.le_of_ble_eq_true rfl) dX3_itemAt_12 ?_
    refine zw_lconst C (v := 0) dX3_itemAt_15 (by decide) ?_
    subst hF
    exact zw_lreturn C hr hlk dX3_itemAt_16 rfl rfl
end
section
/-! THE ASKINGS: the state d that they change (what scales and sieves keep, the tally), the functions, the numbers that may be asked -/
abbrev dY : Type := (Nat → Int64) × (Nat → Int64) × dT
abbrev dFS : Type := dY → Int32 → Int32 → Int64 × dY
abbrev dFV : Type := dY → Int32 → Int32 → Int32 × dY
abbrev dFO : Type := dY → Int32 → Int32 → Int32 → Int32 × dY
abbrev dW (cI cL : ClassId) (a : Nat → Nat) (B : dB) (S : dS) (V : dV) (O : dO) (G : dG) (F : dF) (d : dY) : va_W := wD cI cL a B (S.1, S.2.1, S.2.2.1, d.1, S.2.2.2.2) (V.1, V.2.1, V.2.2.1, d.2.1, V.2.2.2.2) O G F d.2.2
/-- x is one of sz, and its rank is below m -/
def dz_op (sz : Nat) (r : Nat → Nat) (m : Nat) (x : Int32) : Prop := vp_in x sz ∧ r x.toNatClampNeg < m
/-- what is made is made of such as were made before: ranks fall -/
def dz_tab (S : dS) (V : dV) (O : dO) (sn vn on : Nat) (rs rv ro : Nat → Nat) : Prop :=
  (∀ i, i < sn → (S.1 i = 0 → ∃ c, c < 3 ∧ S.2.1 i = nI c) ∧ (S.1 i = 2 ∨ S.1 i = 3 ∨ S.1 i = 4 ∨ S.1 i = 5 → dz_op sn rs (rs i) (S.2.1 i) ∧ dz_op sn rs (rs i) (S.2.2.1 i)) ∧ (S.1 i = 6 → dz_op vn rv (rs i) (S.2.1 i) ∧ dz_op sn rs (rs i) (S.2.2.1 i)) ∧ (S.1 i = 7 → dz_op sn rs (rs i) (S.2.1 i))) ∧
  (∀ i, i < vn → (V.1 i = 1 ∨ V.1 i = 2 → dz_op sn rs (rv i) (V.2.1 i) ∧ dz_op sn rs (rv i) (V.2.2.1 i)) ∧ (V.1 i = 3 ∨ V.1 i = 8 → dz_op vn rv (rv i) (V.2.1 i)) ∧ (V.1 i = 4 ∨ V.1 i = 5 → dz_op vn rv (rv i) (V.2.1 i) ∧ dz_op vn rv (rv i) (V.2.2.1 i))) ∧
  (∀ i, i < on → (O.1 i = 0 → dz_op sn rs (ro i) (O.2.1 i)) ∧ (O.1 i = 1 → dz_op on ro (ro i) (O.2.1 i)) ∧ (O.1 i = 2 → dz_op on ro (ro i) (O.2.1 i) ∧ dz_op on ro (ro i) (O.2.2.1 i)) ∧ (O.1 i = 3 → dz_op vn rv (ro i) (O.2.1 i)))
theorem dz_opIn {sz m N : Nat} {r : Nat → Nat} {x : Int32} (h : dz_op sz r m x) (hN : sz ≤ N) : vp_in x N := fun z => h.1 (z.imp id (fun y => Nat.le_trans hN y))
theorem dz_opLt {sz m : Nat} {r : Nat → Nat} {x : Int32} (h : dz_op sz r m x) : x.toNatClampNeg < sz := Nat.lt_of_not_le (fun z => h.1 (Or.inr z))
theorem dz_opMono {sz m m2 : Nat} {r : Nat → Nat} {x : Int32} (h : dz_op sz r m x) (hm : m ≤ m2) : dz_op sz r m2 x := ⟨h.1, Nat.lt_of_lt_of_le h.2 hm⟩
theorem dk_S0 {S : dS} {V : dV} {O : dO} {sn vn on n : Nat} {rs rv ro : Nat → Nat} {p : Int32} (hT : dz_tab S V O sn vn on rs rv ro) (hi : dz_op sn rs (n + 1) p) (hk : S.1 p.toNatClampNeg = 0) : ∃ c, c < 3 ∧ S.2.1 p.toNatClampNeg = nI c := (hT.1 _ (dz_opLt hi)).1 hk
theorem dk_S2 {S : dS} {V : dV} {O : dO} {sn vn on n : Nat} {rs rv ro : Nat → Nat} {p : Int32} (hT : dz_tab S V O sn vn on rs rv ro) (hi : dz_op sn rs (n + 1) p) (hk : S.1 p.toNatClampNeg = 2 ∨ S.1 p.toNatClampNeg = 3 ∨ S.1 p.toNatClampNeg = 4 ∨ S.1 p.toNatClampNeg = 5) : dz_op sn rs n (S.2.1 p.toNatClampNeg) ∧ dz_op sn rs n (S.2.2.1 p.toNatClampNeg) :=
  ((hT.1 _ (dz_opLt hi)).2.1 hk).imp (fun h => dz_opMono h (Nat.le_of_lt_succ hi.2)) (fun h => dz_opMono h (Nat.le_of_lt_succ hi.2))
theorem dk_S6 {S : dS} {V : dV} {O : dO} {sn vn on n : Nat} {rs rv ro : Nat → Nat} {p : Int32} (hT : dz_tab S V O sn vn on rs rv ro) (hi : dz_op sn rs (n + 1) p) (hk : S.1 p.toNatClampNeg = 6) : dz_op vn rv n (S.2.1 p.toNatClampNeg) ∧ dz_op sn rs n (S.2.2.1 p.toNatClampNeg) :=
  ((hT.1 _ (dz_opLt hi)).2.2.1 hk).imp (fun h => dz_opMono h (Nat.le_of_lt_succ hi.2)) (fun h => dz_opMono h (Nat.le_of_lt_succ hi.2))
theorem dk_S7 {S : dS} {V : dV} {O : dO} {sn vn on n : Nat} {rs rv ro : Nat → Nat} {p : Int32} (hT : dz_tab S V O sn vn on rs rv ro) (hi : dz_op sn rs (n + 1) p) (hk : S.1 p.toNatClampNeg = 7) : dz_op sn rs n (S.2.1 p.toNatClampNeg) :=
  dz_opMono ((hT.1 _ (dz_opLt hi)).2.2.2 hk) (Nat.le_of_lt_succ hi.2)
theorem dk_V1 {S : dS} {V : dV} {O : dO} {sn vn on n : Nat} {rs rv ro : Nat → Nat} {p : Int32} (hT : dz_tab S V O sn vn on rs rv ro) (hi : dz_op vn rv (n + 1) p) (hk : V.1 p.toNatClampNeg = 1 ∨ V.1 p.toNatClampNeg = 2) : dz_op sn rs n (V.2.1 p.toNatClampNeg) ∧ dz_op sn rs n (V.2.2.1 p.toNatClampNeg) :=
  ((hT.2.1 _ (dz_opLt hi)).1 hk).imp (fun h => dz_opMono h (Nat.le_of_lt_succ hi.2)) (fun h => dz_opMono h (Nat.le_of_lt_succ hi.2))
theorem dk_V3 {S : dS} {V : dV} {O : dO} {sn vn on n : Nat} {rs rv ro : Nat → Nat} {p : Int32} (hT : dz_tab S V O sn vn on rs rv ro) (hi : dz_op vn rv (n + 1) p) (hk : V.1 p.toNatClampNeg = 3 ∨ V.1 p.toNatClampNeg = 8) : dz_op vn rv n (V.2.1 p.toNatClampNeg) :=
  dz_opMono ((hT.2.1 _ (dz_opLt hi)).2.1 hk) (Nat.le_of_lt_succ hi.2)
theorem dk_V4 {S : dS} {V : dV} {O : dO} {sn vn on n : Nat} {rs rv ro : Nat → Nat} {p : Int32} (hT : dz_tab S V O sn vn on rs rv ro) (hi : dz_op vn rv (n + 1) p) (hk : V.1 p.toNatClampNeg = 4 ∨ V.1 p.toNatClampNeg = 5) : dz_op vn rv n (V.2.1 p.toNatClampNeg) ∧ dz_op vn rv n (V.2.2.1 p.toNatClampNeg) :=
  ((hT.2.1 _ (dz_opLt hi)).2.2 hk).imp (fun h => dz_opMono h (Nat.le_of_lt_succ hi.2)) (fun h => dz_opMono h (Nat.le_of_lt_succ hi.2))
theorem dk_O0 {S : dS} {V : dV} {O : dO} {sn vn on n : Nat} {rs rv ro : Nat → Nat} {p : Int32} (hT : dz_tab S V O sn vn on rs rv ro) (hi : dz_op on ro (n + 1) p) (hk : O.1 p.toNatClampNeg = 0) : dz_op sn rs n (O.2.1 p.toNatClampNeg) := dz_opMono ((hT.2.2 _ (dz_opLt hi)).1 hk) (Nat.le_of_lt_succ hi.2)
theorem dk_O1 {S : dS} {V : dV} {O : dO} {sn vn on n : Nat} {rs rv ro : Nat → Nat} {p : Int32} (hT : dz_tab S V O sn vn on rs rv ro) (hi : dz_op on ro (n + 1) p) (hk : O.1 p.toNatClampNeg = 1) : dz_op on ro n (O.2.1 p.toNatClampNeg) := dz_opMono ((hT.2.2 _ (dz_opLt hi)).2.1 hk) (Nat.le_of_lt_succ hi.2)
theorem dk_O2 {S : dS} {V : dV} {O : dO} {sn vn on n : Nat} {rs rv ro : Nat → Nat} {p : Int32} (hT : dz_tab S V O sn vn on rs rv ro) (hi : dz_op on ro (n + 1) p) (hk : O.1 p.toNatClampNeg = 2) : dz_op on ro n (O.2.1 p.toNatClampNeg) ∧ dz_op on ro n (O.2.2.1 p.toNatClampNeg) :=
  ((hT.2.2 _ (dz_opLt hi)).2.2.1 hk).imp (fun h => dz_opMono h (Nat.le_of_lt_succ hi.2)) (fun h => dz_opMono h (Nat.le_of_lt_succ hi.2))
theorem dk_O3 {S : dS} {V : dV} {O : dO} {sn vn on n : Nat} {rs rv ro : Nat → Nat} {p : Int32} (hT : dz_tab S V O sn vn on rs rv ro) (hi : dz_op on ro (n + 1) p) (hk : O.1 p.toNatClampNeg = 3) : dz_op vn rv n (O.2.1 p.toNatClampNeg) := dz_opMono ((hT.2.2 _ (dz_opLt hi)).2.2.2 hk) (Nat.le_of_lt_succ hi.2)
def CS (l : Launch) (D : va_G) (cI cL : ClassId) (a : Nat → Nat) (B : dB) (S : dS) (V : dV) (O : dO) (G : dG) (F : dF) (rm : Room) (ok okT : Int32 → Prop) (fS : dFS) : Prop := ∀ (d : dY) (i t : Int32) (q : Int64 × dY), ok i → okT t → fS d i t = q → zw_Ml l yX3_askScale cX3_askScale 5 D (zw_tys cI cL) rm [.ref (a 0), .int i, .int t] (dW cI cL a B S V O G F d) (dW cI cL a B S V O G F q.2) q.1
def CV (l : Launch) (D : va_G) (cI cL : ClassId) (a : Nat → Nat) (B : dB) (S : dS) (V : dV) (O : dO) (G : dG) (F : dF) (rm : Room) (ok okT : Int32 → Prop) (fV : dFV) : Prop := ∀ (d : dY) (i t : Int32) (q : Int32 × dY), ok i → okT t → fV d i t = q → zw_Mi l yX3_askSieve cX3_askSieve 5 .boolean D (zw_tys cI cL) rm [.ref (a 0), .int i, .int t] (dW cI cL a B S V O G F d) (dW cI cL a B S V O G F q.2) q.1
def CO (l : Launch) (D : va_G) (cI cL : ClassId) (a : Nat → Nat) (B : dB) (S : dS) (V : dV) (O : dO) (G : dG) (F : dF) (rm : Room) (ok okT : Int32 → Prop) (fO : dFO) : Prop := ∀ (d : dY) (i x y : Int32) (q : Int32 × dY), ok i → okT x → okT y → fO d i x y = q → zw_Mi l yX3_askOrder cX3_askOrder 6 .int D (zw_tys cI cL) rm [.ref (a 0), .int i, .int x, .int y] (dW cI cL a B S V O G F d) (dW cI cL a B S V O G F q.2) q.1
theorem dz_maxne {x : Int32} : ¬ (if x < 1 then (1 : Int32) else x).toInt64 = 0 := by
  intro h
  have h2 : (if x < 1 then (1 : Int32) else x) = 0 := by
    have e := lg_l2i_i2l (if x < 1 then (1 : Int32) else x)
    rw [h] at e; exact e.symm
  by_cases hx : x < 1
  · rw [if_pos hx] at h2; exact absurd h2 (by decide)
  · rw [if_neg hx] at h2; subst h2; exact hx (by decide)
/-- the room of the askings of rank below n -/
abbrev dz_rm (n : Nat) : Room := zw_rm (2 * n + 6) (60 * n + 200)
end
section
def bF (fV : dFV) (d : dY) (p1 : Int32) (p2 : Int32) : Int32 × dY := (zw_l (fV d p1 p2) (fun q1 => (zw_l (fX2_meetsFailure q1.2.2.2) (fun q3 => (if q3.1 = 0 then (if q1.1 = 0 then (0, q1.2.1, q1.2.2.1, q3.2) else (1, q1.2.1, q1.2.2.1, q3.2)) else (0, q1.2.1, q1.2.2.1, q3.2))))))
set_option maxHeartbeats 4000000 in
set_option maxRecDepth 100000 in
theorem kbF {l : Launch} {D : va_G} {cI cL : ClassId} {a : Nat → Nat} {B : dB} {S : dS} {V : dV} {O : dO} {G : dG} {F : dF} {n vn tn : Nat} {rv : Nat → Nat} {fV : dFV} (HV : CV l D cI cL a B S V O G F (dz_rm n) (dz_op vn rv n) (fun t => vp_in t tn) fV) (d : dY) (p1 : Int32) (p2 : Int32) (q : Int32 × dY) (hy1 : dz_op vn rv n p1) (hy2 : vp_in p2 tn) (hF : bF fV d p1 p2 = q) : zw_Mi l yX3_askSafely cX3_askSafely 4 .boolean D (zw_tys cI cL) (zw_rm (2 * n + 7) (60 * n + 230)) [.ref (a 0), .int p1, .int p2] (dW cI cL a B S V O G F d) (dW cI cL a B S V O G F q.2) q.1 := by
  unfold bF at hF
  refine zw_Mi_of (own := RX3) (by decide) rfl (Nat.le_of_ble_eq_true rfl) ?_
  intro p e s m args below meth c A C hr hlk
  refine zw_eq (ws2 := (wD cI cL a B (S.1, S.2.1, S.2.2.1, d.1, S.2.2.2.2) (V.1, V.2.1, V.2.2.1, d.2.1, V.2.2.2.2) O G F d.2.2)) (lv2 := [(0, .ref (a 0)), (1, .int p1), (2, .int p2)]) rfl rfl rfl ?_
  refine zw_aload_n C dX3_askSafely_0 0 rfl rfl ?_
  refine zw_iload_n C dX3_askSafely_1 1 rfl rfl ?_
  refine zw_iload_n C dX3_askSafely_2 2 rfl rfl ?_
  obtain ⟨q1, e2⟩ : ∃ z, fV d p1 p2 = z := ⟨_, rfl⟩
  rw [zw_l_eq e2] at hF
  refine zw_calli C kvX3_117 (HV d p1 p2 _ hy1 hy2 e2) ⟨rfl, rfl, ⟨by show 2 * n + 6 + 1 ≤ 2 * n + 7; omega, by show 8 + (5 + 11) + (60 * n + 200) ≤ 60 * n + 230; omega⟩, Nat.le_refl _, Nat.le_refl _⟩ FX3 0 (As := [.int p1, .int p2]) (rest := []) rfl rfl rfl (Nat.le_of_ble_eq_true rfl) dX3_askSafely_3 ?_
  refine zw_istore_n C dX3_askSafely_6 rfl (by decide) rfl ?_
  refine zw_aload_n C dX3_askSafely_7 1 rfl rfl ?_
  refine zw_get C FX3 0 11 (v := .ref (a 30)) rfl (by decide) lkX3_56 rfl dX3_askSafely_8 ?_
  obtain ⟨q3, e4⟩ : ∃ z, fX2_meetsFailure q1.2.2.2 = z := ⟨_, rfl⟩
  rw [zw_l_eq e4] at hF
  refine zw_calli C kvX3_221 (kX2_meetsFailure e4) ⟨rfl, rfl, ⟨by show 1 + 1 ≤ 2 * n + 7; omega, by show 8 + (1 + 11) + (20) ≤ 60 * n + 230; omega⟩, Nat.le_refl _, Nat.le_refl _⟩ FX2 30 (As := []) (rest := []) rfl rfl rfl (Nat.le_of_ble_eq_true rfl) dX3_askSafely_11 ?_
  refine zw_if_ne C 25 dX3_askSafely_14 (by decide) (fun h5 => ?_) (fun h5 => ?_)
  · rw [if_neg h5] at hF
    refine zw_iconst C (v := 0) dX3_askSafely_25 (by decide) ?_
    subst hF
    exact zw_zreturn C hr hlk rfl dX3_askSafely_26 rfl rfl
  · rw [if_pos h5] at hF
    refine zw_iload_n C dX3_askSafely_17 0 rfl rfl ?_
    refine zw_if_eq C 25 dX3_askSafely_18 (by decide) (fun h6 => ?_) (fun h6 => ?_)
    · rw [if_pos h6] at hF
      refine zw_iconst C (v := 0) dX3_askSafely_25 (by decide) ?_
      subst hF
      exact zw_zreturn C hr hlk rfl dX3_askSafely_26 rfl rfl
    · rw [if_neg h6] at hF
      refine zw_iconst C (v := 1) dX3_askSafely_21 (by decide) ?_
      refine zw_goto C 26 dX3_askSafely_22 (by decide) ?_
      subst hF
      exact zw_zreturn C hr hlk rfl dX3_askSafely_26 rfl rfl
def bR (fV : dFV) (d : dY) (p1 : Int32) (p2 : Int32) : Int32 × dY := (zw_l (fV d p1 p2) (fun q1 => (if q1.1 = 0 then (1, q1.2.1, q1.2.2.1, q1.2.2.2) else (0, q1.2.1, q1.2.2.1, q1.2.2.2))))
set_option maxHeartbeats 4000000 in
set_option maxRecDepth 100000 in
theorem kbR {l : Launch} {D : va_G} {cI cL : ClassId} {a : Nat → Nat} {B : dB} {S : dS} {V : dV} {O : dO} {G : dG} {F : dF} {n vn tn : Nat} {rv : Nat → Nat} {fV : dFV} (HV : CV l D cI cL a B S V O G F (dz_rm n) (dz_op vn rv n) (fun t => vp_in t tn) fV) (d : dY) (p1 : Int32) (p2 : Int32) (q : Int32 × dY) (hy1 : dz_op vn rv n p1) (hy2 : vp_in p2 tn) (hF : bR fV d p1 p2 = q) : zw_Mi l yX3_rankBySieve cX3_rankBySieve 3 .int D (zw_tys cI cL) (zw_rm (2 * n + 7) (60 * n + 230)) [.ref (a 0), .int p1, .int p2] (dW cI cL a B S V O G F d) (dW cI cL a B S V O G F q.2) q.1 := by
  unfold bR at hF
  refine zw_Mi_of (own := RX3) (by decide) rfl (Nat.le_of_ble_eq_true rfl) ?_
  intro p e s m args below meth c A C hr hlk
  refine zw_eq (ws2 := (wD cI cL a B (S.1, S.2.1, S.2.2.1, d.1, S.2.2.2.2) (V.1, V.2.1, V.2.2.1, d.2.1, V.2.2.2.2) O G F d.2.2)) (lv2 := [(0, .ref (a 0)), (1, .int p1), (2, .int p2)]) rfl rfl rfl ?_
  refine zw_aload_n C dX3_rankBySieve_0 0 rfl rfl ?_
  refine zw_iload_n C dX3_rankBySieve_1 1 rfl rfl ?_
  refine zw_iload_n C dX3_rankBySieve_2 2 rfl rfl ?_
  obtain ⟨q1, e2⟩ : ∃ z, fV d p1 p2 = z := ⟨_, rfl⟩
  rw [zw_l_eq e2] at hF
  refine zw_calli C kvX3_117 (HV d p1 p2 _ hy1 hy2 e2) ⟨rfl, rfl, ⟨by show 2 * n + 6 + 1 ≤ 2 * n + 7; omega, by show 8 + (5 + 11) + (60 * n + 200) ≤ 60 * n + 230; omega⟩, Nat.le_refl _, Nat.le_refl _⟩ FX3 0 (As := [.int p1, .int p2]) (rest := []) rfl rfl rfl (Nat.le_of_ble_eq_true rfl) dX3_rankBySieve_3 ?_
  refine zw_if_eq C 13 dX3_rankBySieve_6 (by decide) (fun h3 => ?_) (fun h3 => ?_)
  · rw [if_pos h3] at hF
    refine zw_iconst C (v := 1) dX3_rankBySieve_13 (by decide) ?_
    subst hF
    exact zw_ireturn C hr hlk dX3_rankBySieve_14 rfl rfl
  · rw [if_neg h3] at hF
    refine zw_iconst C (v := 0) dX3_rankBySieve_9 (by decide) ?_
    refine zw_goto C 14 dX3_rankBySieve_10 (by decide) ?_
    subst hF
    exact zw_ireturn C hr hlk dX3_rankBySieve_14 rfl rfl
def bH (fO : dFO) (d : dY) (p1 : Int32) (p2 : Int32) (p3 : Int32) (p4 : Int32) : Int32 × dY := (zw_l (fO d p1 p3 p4) (fun q1 => (if q1.1 = 0 then (zw_l (fO q1.2 p2 p3 p4) (fun q4 => (q4.1, q4.2.1, q4.2.2.1, q4.2.2.2))) else (q1.1, q1.2.1, q1.2.2.1, q1.2.2.2))))
set_option maxHeartbeats 4000000 in
set_option maxRecDepth 100000 in
theorem kbH {l : Launch} {D : va_G} {cI cL : ClassId} {a : Nat → Nat} {B : dB} {S : dS} {V : dV} {O : dO} {G : dG} {F : dF} {n on tn : Nat} {ro : Nat → Nat} {fO : dFO} (HO : CO l D cI cL a B S V O G F (dz_rm n) (dz_op on ro n) (fun t => vp_in t tn) fO) (d : dY) (p1 : Int32) (p2 : Int32) (p3 : Int32) (p4 : Int32) (q : Int32 × dY) (hy1 : dz_op on ro n p1) (hy2 : dz_op on ro n p2) (hy3 : vp_in p3 tn) (hy4 : vp_in p4 tn) (hF : bH fO d p1 p2 p3 p4 = q) : zw_Mi l yX3_askThen cX3_askThen 6 .int D (zw_tys cI cL) (zw_rm (2 * n + 7) (60 * n + 230)) [.ref (a 0), .int p1, .int p2, .int p3, .int p4] (dW cI cL a B S V O G F d) (dW cI cL a B S V O G F q.2) q.1 := by
  unfold bH at hF
  refine zw_Mi_of (own := RX3) (by decide) rfl (Nat.le_of_ble_eq_true rfl) ?_
  intro p e s m args below meth c A C hr hlk
  refine zw_eq (ws2 := (wD cI cL a B (S.1, S.2.1, S.2.2.1, d.1, S.2.2.2.2) (V.1, V.2.1, V.2.2.1, d.2.1, V.2.2.2.2) O G F d.2.2)) (lv2 := [(0, .ref (a 0)), (1, .int p1), (2, .int p2), (3, .int p3), (4, .int p4)]) rfl rfl rfl ?_
  refine zw_aload_n C dX3_askThen_0 0 rfl rfl ?_
  refine zw_iload_n C dX3_askThen_1 1 rfl rfl ?_
  refine zw_iload_n C dX3_askThen_2 3 rfl rfl ?_
  refine zw_iload C dX3_askThen_3 4 rfl ?_
  obtain ⟨q1, e2⟩ : ∃ z, fO d p1 p3 p4 = z := ⟨_, rfl⟩
  rw [zw_l_eq e2] at hF
  refine zw_calli C kvX3_165 (HO d p1 p3 p4 _ hy1 hy3 hy4 e2) ⟨rfl, rfl, ⟨by show 2 * n + 6 + 1 ≤ 2 * n + 7; omega, by show 8 + (6 + 11) + (60 * n + 200) ≤ 60 * n + 230; omega⟩, Nat.le_refl _, Nat.le_refl _⟩ FX3 0 (As := [.int p1, .int p3, .int p4]) (rest := []) rfl rfl rfl (Nat.le_of_ble_eq_true rfl) dX3_askThen_5 ?_
  refine zw_istore C dX3_askThen_8 (by decide) rfl ?_
  refine zw_iload C dX3_askThen_10 0 rfl ?_
  refine zw_if_eq C 20 dX3_askThen_12 (by decide) (fun h3 => ?_) (fun h3 => ?_)
  · rw [if_pos h3] at hF
    refine zw_aload_n C dX3_askThen_20 1 rfl rfl ?_
    refine zw_iload_n C dX3_askThen_21 3 rfl rfl ?_
    refine zw_iload_n C dX3_askThen_22 4 rfl rfl ?_
    refine zw_iload C dX3_askThen_23 5 rfl ?_
    obtain ⟨q4, e5⟩ : ∃ z, fO q1.2 p2 p3 p4 = z := ⟨_, rfl⟩
    rw [zw_l_eq e5] at hF
    refine zw_calli C kvX3_165 (HO q1.2 p2 p3 p4 _ hy2 hy3 hy4 e5) ⟨rfl, rfl, ⟨by show 2 * n + 6 + 1 ≤ 2 * n + 7; omega, by show 8 + (6 + 11) + (60 * n + 200) ≤ 60 * n + 230; omega⟩, Nat.le_refl _, Nat.le_refl _⟩ FX3 0 (As := [.int p2, .int p3, .int p4]) (rest := []) rfl rfl rfl (Nat.le_of_ble_eq_true rfl) dX3_askThen_25 ?_
    subst hF
    exact zw_ireturn C hr hlk dX3_askThen_28 rfl rfl
  · rw [if_neg h3] at hF
    refine zw_iload C dX3_askThen_15 0 rfl ?_
    refine zw_goto C 28 dX3_askThen_17 (by decide) ?_
    subst hF
    exact zw_ireturn C hr hlk dX3_askThen_28 rfl rfl
theorem bb_bF {fV : dFV} {d : dY} {x t : Int32} {q : Int32 × dY} (h : bF fV d x t = q) : q.1 = 0 ∨ q.1 = 1 := by
  subst h
  unfold bF zw_l
  dsimp only
  split
  · split <;> simp
  · simp
theorem dk_cell {S : dS} {V : dV} {O : dO} {sn vn on n tn : Nat} {rs rv ro : Nat → Nat} {p t : Int32} (htn : tn ≤ 40) (hT : dz_tab S V O sn vn on rs rv ro) (hi : dz_op sn rs (n + 1) p) (ht : vp_in t tn) (hk : S.1 p.toNatClampNeg = 0) : vp_in (fX3_cellOf t (S.2.1 p.toNatClampNeg)) 120 := by
  obtain ⟨c, hc, e⟩ := dk_S0 hT hi hk
  obtain ⟨j, hj, e2⟩ := vp_in_of ht (by omega)
  exact (dz_cell (by omega) hc e2 e).2
def bS (fS : dFS) (fV : dFV) (ce rw : Nat → Int64) (sk sa sb : Nat → Int32) (d : dY) (p1 : Int32) (p2 : Int32) : Int64 × dY := (zw_l (fX2_beginsAsking d.2.2) (fun q1 => (if q1.1 = 0 then (0, d.1, d.2.1, q1.2) else (if (sk p1.toNatClampNeg) = 0 then (ce (fX3_cellOf p2 (sa p1.toNatClampNeg)).toNatClampNeg, d.1, d.2.1, q1.2) else (if (sk p1.toNatClampNeg) = 1 then (((sa p1.toNatClampNeg).toInt64) + ((sb p1.toNatClampNeg).toInt64), d.1, d.2.1, q1.2) else (if (sk p1.toNatClampNeg) = 2 then (zw_l (fS (d.1, d.2.1, q1.2) (sa p1.toNatClampNeg) p2) (fun q7 => (zw_l (fS q7.2 (sb p1.toNatClampNeg) p2) (fun q9 => (q7.1 + q9.1, q9.2.1, q9.2.2.1, q9.2.2.2))))) else (if (sk p1.toNatClampNeg) = 3 then (zw_l (fS (d.1, d.2.1, q1.2) (sa p1.toNatClampNeg) p2) (fun q12 => (zw_l (fS q12.2 (sb p1.toNatClampNeg) p2) (fun q14 => (q12.1 * q14.1, q14.2.1, q14.2.2.1, q14.2.2.2))))) else (if (sk p1.toNatClampNeg) = 4 then (zw_l (fS (d.1, d.2.1, q1.2) (sa p1.toNatClampNeg) p2) (fun q17 => (zw_l (fS q17.2 (sb p1.toNatClampNeg) p2) (fun q19 => (zw_l (fX3_quotient q19.2.2.2 q17.1 q19.1) (fun q21 => (q21.1, q19.2.1, q19.2.2.1, q21.2))))))) else (if (sk p1.toNatClampNeg) = 5 then (zw_l (fS (d.1, d.2.1, q1.2) (sa p1.toNatClampNeg) p2) (fun q24 => (zw_l (fS q24.2 (sb p1.toNatClampNeg) p2) (fun q26 => (if q26.1 < q24.1 then q26.1 else q24.1, q26.2.1, q26.2.2.1, q26.2.2.2))))) else (if (sk p1.toNatClampNeg) = 6 then (zw_l (fV (d.1, d.2.1, q1.2) (sa p1.toNatClampNeg) p2) (fun q29 => (if q29.1 = 0 then (0, q29.2.1, q29.2.2.1, q29.2.2.2) else (zw_l (fS q29.2 (sb p1.toNatClampNeg) p2) (fun q32 => (q32.1, q32.2.1, q32.2.2.1, q32.2.2.2)))))) else (if (sk p1.toNatClampNeg) = 7 then (zw_l (fS (d.1, d.2.1, q1.2) (sa p1.toNatClampNeg) p2) (fun q35 => (zw_l (fX3_itemAt rw q35.2.2.2 q35.1) (fun q37 => (q37.1, q35.2.1, q35.2.2.1, q37.2))))) else (if (sk p1.toNatClampNeg) = 8 then (d.1 p1.toNatClampNeg, d.1, d.2.1, q1.2) else (if (sk p1.toNatClampNeg) = 9 then (d.1 p1.toNatClampNeg, d.1, d.2.1, q1.2) else (if (sk p1.toNatClampNeg) = 10 then (zw_l (fX1_countAsked d.1 p1) (fun q42 => (((q42.1 - 1) * ((sa p1.toNatClampNeg).toInt64)) + ((sb p1.toNatClampNeg).toInt64), q42.2, d.2.1, q1.2))) else (zw_l (fX2_fail q1.2 3) (fun q44 => (0, d.1, d.2.1, q44)))))))))))))))))
set_option maxHeartbeats 4000000 in
set_option maxRecDepth 100000 in
theorem kbS {l : Launch} {D : va_G} {cI cL : ClassId} {a : Nat → Nat} {B : dB} {S : dS} {V : dV} {O : dO} {G : dG} {F : dF} {n sn vn on tn : Nat} {rs rv ro : Nat → Nat} {fS : dFS} {fV : dFV} (hsn : sn ≤ 24) (hvn : vn ≤ 24) (hon : on ≤ 24) (htn : tn ≤ 40) (hT : dz_tab S V O sn vn on rs rv ro) (HS : CS l D cI cL a B S V O G F (dz_rm n) (dz_op sn rs n) (fun t => vp_in t tn) fS) (HV : CV l D cI cL a B S V O G F (dz_rm n) (dz_op vn rv n) (fun t => vp_in t tn) fV) (d : dY) (p1 : Int32) (p2 : Int32) (q : Int64 × dY) (hy1 : dz_op sn rs (n + 1) p1) (hy2 : vp_in p2 tn) (hF : bS fS fV B.2.2.2.1 B.2.2.2.2.1 S.1 S.2.1 S.2.2.1 d p1 p2 = q) : zw_Ml l yX3_askScale cX3_askScale 5 D (zw_tys cI cL) (dz_rm (n + 1)) [.ref (a 0), .int p1, .int p2] (dW cI cL a B S V O G F d) (dW cI cL a B S V O G F q.2) q.1 := by
  unfold bS at hF
  refine zw_Ml_of (own := RX3) (by decide) rfl (Nat.le_of_ble_eq_true rfl) ?_
  intro p e s m args below meth c A C hr hlk
  refine zw_eq (ws2 := (wD cI cL a B (S.1, S.2.1, S.2.2.1, d.1, S.2.2.2.2) (V.1, V.2.1, V.2.2.1, d.2.1, V.2.2.2.2) O G F d.2.2)) (lv2 := [(0, .ref (a 0)), (1, .int p1), (2, .int p2)]) rfl rfl rfl ?_
  refine zw_aload_n C dX3_askScale_0 0 rfl rfl ?_
  refine zw_get C FX3 0 11 (v := .ref (a 30)) rfl (by decide) lkX3_56 rfl dX3_askScale_1 ?_
  obtain ⟨q1, e2⟩ : ∃ z, fX2_beginsAsking d.2.2 = z := ⟨_, rfl⟩
  rw [zw_l_eq e2] at hF
  refine zw_calli C kvX3_169 (kX2_beginsAsking e2) ⟨rfl, rfl, ⟨by show 2 + 1 ≤ 2 * (n + 1) + 6; omega, by show 8 + (1 + 11) + (41) ≤ 60 * (n + 1) + 200; omega⟩, Nat.le_refl _, Nat.le_refl _⟩ FX2 30 (As := []) (rest := []) rfl rfl rfl (Nat.le_of_ble_eq_true rfl) dX3_askScale_4 ?_
  refine zw_if_ne C 12 dX3_askScale_7 (by decide) (fun h3 => ?_) (fun h3 => ?_)
  · rw [if_neg h3] at hF
    refine zw_aload_n C dX3_askScale_12 0 rfl rfl ?_
    refine zw_get C FX3 0 6 (v := .ref (a 5)) rfl (by decide) lkX3_33 rfl dX3_askScale_13 ?_
    refine zw_get C FX1 5 1 (v := .ref (a 7)) rfl (by decide) lkX3_172 rfl dX3_askScale_16 ?_
    refine zw_iload_n C dX3_askScale_19 1 rfl rfl ?_
    refine zw_iald C 7 0 (f := S.2.1) (i := p1) rfl rfl (dz_opIn hy1 hsn) dX3_askScale_20 ?_
    refine zw_istore_n C dX3_askScale_21 rfl (by decide) rfl ?_
    refine zw_aload_n C dX3_askScale_22 1 rfl rfl ?_
    refine zw_get C FX3 0 6 (v := .ref (a 5)) rfl (by decide) lkX3_33 rfl dX3_askScale_23 ?_
    refine zw_get C FX1 5 2 (v := .ref (a 8)) rfl (by decide) lkX3_175 rfl dX3_askScale_26 ?_
    refine zw_iload_n C dX3_askScale_29 2 rfl rfl ?_
    refine zw_iald C 8 0 (f := S.2.2.1) (i := p1) rfl rfl (dz_opIn hy1 hsn) dX3_askScale_30 ?_
    refine zw_istore C dX3_askScale_31 (by decide) rfl ?_
    refine zw_aload_n C dX3_askScale_33 2 rfl rfl ?_
    refine zw_get C FX3 0 6 (v := .ref (a 5)) rfl (by decide) lkX3_33 rfl dX3_askScale_34 ?_
    refine zw_get C FX1 5 0 (v := .ref (a 6)) rfl (by decide) lkX3_178 rfl dX3_askScale_37 ?_
    refine zw_iload_n C dX3_askScale_40 3 rfl rfl ?_
    refine zw_iald C 6 0 (f := S.1) (i := p1) rfl rfl (dz_opIn hy1 hsn) dX3_askScale_41 ?_
    by_cases h4 : (S.1 p1.toNatClampNeg) = 0
    · rw [if_pos h4] at hF
      refine zw_tableIn C 100 dX3_askScale_42 (by rw [h4]; decide) (by rw [h4]; decide) (by rw [h4]; rfl) (by decide) ?_
      refine zw_aload_n C dX3_askScale_100 2 rfl rfl ?_
      refine zw_get C FX3 0 0 (v := .ref (a 1)) rfl (by decide) lkX3_9 rfl dX3_askScale_101 ?_
      refine zw_iload_n C dX3_askScale_104 4 rfl rfl ?_
      refine zw_iload_n C dX3_askScale_105 1 rfl rfl ?_
      refine zw_scalli C kvX3_64 (kX3_cellOf rfl) ⟨rfl, rfl, ⟨by show 0 + 1 ≤ 2 * (n + 1) + 6; omega, by show 8 + (2 + 11) + (0) ≤ 60 * (n + 1) + 200; omega⟩, Nat.le_refl _, Nat.le_refl _⟩ (As := [.int p2, .int (S.2.1 p1.toNatClampNeg)]) (rest := [.ref (a 1)]) rfl rfl (Nat.le_of_ble_eq_true rfl) dX3_askScale_106 ?_
      refine zw_lald C 1 1 (f := B.2.2.2.1) (i := (fX3_cellOf p2 (S.2.1 p1.toNatClampNeg))) rfl rfl (dk_cell htn hT hy1 hy2 (by assumption)) dX3_askScale_109 ?_
      subst hF
      exact zw_lreturn C hr hlk dX3_askScale_110 rfl rfl
    rw [if_neg h4] at hF
    by_cases h5 : (S.1 p1.toNatClampNeg) = 1
    · rw [if_pos h5] at hF
      refine zw_tableIn C 111 dX3_askScale_42 (by rw [h5]; decide) (by rw [h5]; decide) (by rw [h5]; rfl) (by decide) ?_
      refine zw_iload_n C dX3_askScale_111 1 rfl rfl ?_
      refine zw_i2l C dX3_askScale_112 ?_
      refine zw_iload C dX3_askScale_113 0 rfl ?_
      refine zw_i2l C dX3_askScale_115 ?_
      refine zw_ladd C dX3_askScale_116 ?_
      subst hF
      exact zw_lreturn C hr hlk dX3_askScale_117 rfl rfl
    rw [if_neg h5] at hF
    by_cases h6 : (S.1 p1.toNatClampNeg) = 2
    · rw [if_pos h6] at hF
      refine zw_tableIn C 118 dX3_askScale_42 (by rw [h6]; decide) (by rw [h6]; decide) (by rw [h6]; rfl) (by decide) ?_
      refine zw_aload_n C dX3_askScale_118 2 rfl rfl ?_
      refine zw_iload_n C dX3_askScale_119 1 rfl rfl ?_
      refine zw_iload_n C dX3_askScale_120 4 rfl rfl ?_
      obtain ⟨q7, e8⟩ : ∃ z, fS (d.1, d.2.1, q1.2) (S.2.1 p1.toNatClampNeg) p2 = z := ⟨_, rfl⟩
      rw [zw_l_eq e8] at hF
      refine zw_calll C kvX3_106 (HS (d.1, d.2.1, q1.2) (S.2.1 p1.toNatClampNeg) p2 _ (dk_S2 hT hy1 (Or.inl (by assumption))).1 hy2 e8) ⟨rfl, rfl, ⟨by show 2 * n + 6 + 1 ≤ 2 * (n + 1) + 6; omega, by show 8 + (5 + 11) + (60 * n + 200) ≤ 60 * (n + 1) + 200; omega⟩, Nat.le_refl _, Nat.le_refl _⟩ FX3 0 (As := [.int (S.2.1 p1.toNatClampNeg), .int p2]) (rest := []) rfl rfl rfl (Nat.le_of_ble_eq_true rfl) dX3_askScale_121 ?_
      refine zw_aload_n C dX3_askScale_124 2 rfl rfl ?_
      refine zw_iload C dX3_askScale_125 0 rfl ?_
      refine zw_iload_n C dX3_askScale_127 4 rfl rfl ?_
      obtain ⟨q9, e10⟩ : ∃ z, fS q7.2 (S.2.2.1 p1.toNatClampNeg) p2 = z := ⟨_, rfl⟩
      rw [zw_l_eq e10] at hF
      refine zw_calll C kvX3_106 (HS q7.2 (S.2.2.1 p1.toNatClampNeg) p2 _ (dk_S2 hT hy1 (Or.inl (by assumption))).2 hy2 e10) ⟨rfl, rfl, ⟨by show 2 * n + 6 + 1 ≤ 2 * (n + 1) + 6; omega, by show 8 + (5 + 11) + (60 * n + 200) ≤ 60 * (n + 1) + 200; omega⟩, Nat.le_refl _, Nat.le_refl _⟩ FX3 0 (As := [.int (S.2.2.1 p1.toNatClampNeg), .int p2]) (rest := [.long q7.1]) rfl rfl rfl (Nat.le_of_ble_eq_true rfl) dX3_askScale_128 ?_
      refine zw_ladd C dX3_askScale_131 ?_
      subst hF
      exact zw_lreturn C hr hlk dX3_askScale_132 rfl rfl
    rw [if_neg h6] at hF
    by_cases h11 : (S.1 p1.toNatClampNeg) = 3
    · rw [if_pos h11] at hF
      refine zw_tableIn C 133 dX3_askScale_42 (by rw [h11]; decide) (by rw [h11]; decide) (by rw [h11]; rfl) (by decide) ?_
      refine zw_aload_n C dX3_askScale_133 2 rfl rfl ?_
      refine zw_iload_n C dX3_askScale_134 1 rfl rfl ?_
      refine zw_iload_n C dX3_askScale_135 4 rfl rfl ?_
      obtain ⟨q12, e13⟩ : ∃ z, fS (d.1, d.2.1, q1.2) (S.2.1 p1.toNatClampNeg) p2 = z := ⟨_, rfl⟩
      rw [zw_l_eq e13] at hF
      refine zw_calll C kvX3_106 (HS (d.1, d.2.1, q1.2) (S.2.1 p1.toNatClampNeg) p2 _ (dk_S2 hT hy1 (Or.inr (Or.inl (by assumption)))).1 hy2 e13) ⟨rfl, rfl, ⟨by show 2 * n + 6 + 1 ≤ 2 * (n + 1) + 6; omega, by show 8 + (5 + 11) + (60 * n + 200) ≤ 60 * (n + 1) + 200; omega⟩, Nat.le_refl _, Nat.le_refl _⟩ FX3 0 (As := [.int (S.2.1 p1.toNatClampNeg), .int p2]) (rest := []) rfl rfl rfl (Nat.le_of_ble_eq_true rfl) dX3_askScale_136 ?_
      refine zw_aload_n C dX3_askScale_139 2 rfl rfl ?_
      refine zw_iload C dX3_askScale_140 0 rfl ?_
      refine zw_iload_n C dX3_askScale_142 4 rfl rfl ?_
      obtain ⟨q14, e15⟩ : ∃ z, fS q12.2 (S.2.2.1 p1.toNatClampNeg) p2 = z := ⟨_, rfl⟩
      rw [zw_l_eq e15] at hF
      refine zw_calll C kvX3_106 (HS q12.2 (S.2.2.1 p1.toNatClampNeg) p2 _ (dk_S2 hT hy1 (Or.inr (Or.inl (by assumption)))).2 hy2 e15) ⟨rfl, rfl, ⟨by show 2 * n + 6 + 1 ≤ 2 * (n + 1) + 6; omega, by show 8 + (5 + 11) + (60 * n + 200) ≤ 60 * (n + 1) + 200; omega⟩, Nat.le_refl _, Nat.le_refl _⟩ FX3 0 (As := [.int (S.2.2.1 p1.toNatClampNeg), .int p2]) (rest := [.long q12.1]) rfl rfl rfl (Nat.le_of_ble_eq_true rfl) dX3_askScale_143 ?_
      refine zw_lmul C dX3_askScale_146 ?_
      subst hF
      exact zw_lreturn C hr hlk dX3_askScale_147 rfl rfl
    rw [if_neg h11] at hF
    by_cases h16 : (S.1 p1.toNatClampNeg) = 4
    · rw [if_pos h16] at hF
      refine zw_tableIn C 148 dX3_askScale_42 (by rw [h16]; decide) (by rw [h16]; decide) (by rw [h16]; rfl) (by decide) ?_
      refine zw_aload_n C dX3_askScale_148 2 rfl rfl ?_
      refine zw_aload_n C dX3_askScale_149 2 rfl rfl ?_
      refine zw_iload_n C dX3_askScale_150 1 rfl rfl ?_
      refine zw_iload_n C dX3_askScale_151 4 rfl rfl ?_
      obtain ⟨q17, e18⟩ : ∃ z, fS (d.1, d.2.1, q1.2) (S.2.1 p1.toNatClampNeg) p2 = z := ⟨_, rfl⟩
      rw [zw_l_eq e18] at hF
      refine zw_calll C kvX3_106 (HS (d.1, d.2.1, q1.2) (S.2.1 p1.toNatClampNeg) p2 _ (dk_S2 hT hy1 (Or.inr (Or.inr (Or.inl (by assumption))))).1 hy2 e18) ⟨rfl, rfl, ⟨by show 2 * n + 6 + 1 ≤ 2 * (n + 1) + 6; omega, by show 8 + (5 + 11) + (60 * n + 200) ≤ 60 * (n + 1) + 200; omega⟩, Nat.le_refl _, Nat.le_refl _⟩ FX3 0 (As := [.int (S.2.1 p1.toNatClampNeg), .int p2]) (rest := [.ref (a 0)]) rfl rfl rfl (Nat.le_of_ble_eq_true rfl) dX3_askScale_152 ?_
      refine zw_aload_n C dX3_askScale_155 2 rfl rfl ?_
      refine zw_iload C dX3_askScale_156 0 rfl ?_
      refine zw_iload_n C dX3_askScale_158 4 rfl rfl ?_
      obtain ⟨q19, e20⟩ : ∃ z, fS q17.2 (S.2.2.1 p1.toNatClampNeg) p2 = z := ⟨_, rfl⟩
      rw [zw_l_eq e20] at hF
      refine zw_calll C kvX3_106 (HS q17.2 (S.2.2.1 p1.toNatClampNeg) p2 _ (dk_S2 hT hy1 (Or.inr (Or.inr (Or.inl (by assumption))))).2 hy2 e20) ⟨rfl, rfl, ⟨by show 2 * n + 6 + 1 ≤ 2 * (n + 1) + 6; omega, by show 8 + (5 + 11) + (60 * n + 200) ≤ 60 * (n + 1) + 200; omega⟩, Nat.le_refl _, Nat.le_refl _⟩ FX3 0 (As := [.int (S.2.2.1 p1.toNatClampNeg), .int p2]) (rest := [.long q17.1, .ref (a 0)]) rfl rfl rfl (Nat.le_of_ble_eq_true rfl) dX3_askScale_159 ?_
      obtain ⟨q21, e22⟩ : ∃ z, fX3_quotient q19.2.2.2 q17.1 q19.1 = z := ⟨_, rfl⟩
      rw [zw_l_eq e22] at hF
      refine zw_calll C kvX3_181 (kX3_quotient e22) ⟨rfl, rfl, ⟨by show 2 + 1 ≤ 2 * (n + 1) + 6; omega, by show 8 + (5 + 11) + (41) ≤ 60 * (n + 1) + 200; omega⟩, Nat.le_refl _, Nat.le_refl _⟩ FX3 0 (As := [.long q17.1, .long q19.1]) (rest := []) rfl rfl rfl (Nat.le_of_ble_eq_true rfl) dX3_askScale_162 ?_
      subst hF
      exact zw_lreturn C hr hlk dX3_askScale_165 rfl rfl
    rw [if_neg h16] at hF
    by_cases h23 : (S.1 p1.toNatClampNeg) = 5
    · rw [if_pos h23] at hF
      refine zw_tableIn C 166 dX3_askScale_42 (by rw [h23]; decide) (by rw [h23]; decide) (by rw [h23]; rfl) (by decide) ?_
      refine zw_aload_n C dX3_askScale_166 2 rfl rfl ?_
      refine zw_iload_n C dX3_askScale_167 1 rfl rfl ?_
      refine zw_iload_n C dX3_askScale_168 4 rfl rfl ?_
      obtain ⟨q24, e25⟩ : ∃ z, fS (d.1, d.2.1, q1.2) (S.2.1 p1.toNatClampNeg) p2 = z := ⟨_, rfl⟩
      rw [zw_l_eq e25] at hF
      refine zw_calll C kvX3_106 (HS (d.1, d.2.1, q1.2) (S.2.1 p1.toNatClampNeg) p2 _ (dk_S2 hT hy1 (Or.inr (Or.inr (Or.inr (by assumption))))).1 hy2 e25) ⟨rfl, rfl, ⟨by show 2 * n + 6 + 1 ≤ 2 * (n + 1) + 6; omega, by show 8 + (5 + 11) + (60 * n + 200) ≤ 60 * (n + 1) + 200; omega⟩, Nat.le_refl _, Nat.le_refl _⟩ FX3 0 (As := [.int (S.2.1 p1.toNatClampNeg), .int p2]) (rest := []) rfl rfl rfl (Nat.le_of_ble_eq_true rfl) dX3_askScale_169 ?_
      refine zw_aload_n C dX3_askScale_172 2 rfl rfl ?_
      refine zw_iload C dX3_askScale_173 0 rfl ?_
      refine zw_iload_n C dX3_askScale_175 4 rfl rfl ?_
      obtain ⟨q26, e27⟩ : ∃ z, fS q24.2 (S.2.2.1 p1.toNatClampNeg) p2 = z := ⟨_, rfl⟩
      rw [zw_l_eq e27] at hF
      refine zw_calll C kvX3_106 (HS q24.2 (S.2.2.1 p1.toNatClampNeg) p2 _ (dk_S2 hT hy1 (Or.inr (Or.inr (Or.inr (by assumption))))).2 hy2 e27) ⟨rfl, rfl, ⟨by show 2 * n + 6 + 1 ≤ 2 * (n + 1) + 6; omega, by show 8 + (5 + 11) + (60 * n + 200) ≤ 60 * (n + 1) + 200; omega⟩, Nat.le_refl _, Nat.le_refl _⟩ FX3 0 (As := [.int (S.2.2.1 p1.toNatClampNeg), .int p2]) (rest := [.long q24.1]) rfl rfl rfl (Nat.le_of_ble_eq_true rfl) dX3_askScale_176 ?_
      refine zw_mminL C lkmX3_185 (by show 1 ≤ 2 * (n + 1) + 6; omega) (by show 40 ≤ 60 * (n + 1) + 200; omega) (Nat.le_of_ble_eq_true rfl) (Nat.zero_le _) (Nat.zero_le _) dX3_askScale_179 ?_
      subst hF
      exact zw_lreturn C hr hlk dX3_askScale_182 rfl rfl
    rw [if_neg h23] at hF
    by_cases h28 : (S.1 p1.toNatClampNeg) = 6
    · rw [if_pos h28] at hF
      refine zw_tableIn C 183 dX3_askScale_42 (by rw [h28]; decide) (by rw [h28]; decide) (by rw [h28]; rfl) (by decide) ?_
      refine zw_aload_n C dX3_askScale_183 2 rfl rfl ?_
      refine zw_iload_n C dX3_askScale_184 1 rfl rfl ?_
      refine zw_iload_n C dX3_askScale_185 4 rfl rfl ?_
      obtain ⟨q29, e30⟩ : ∃ z, fV (d.1, d.2.1, q1.2) (S.2.1 p1.toNatClampNeg) p2 = z := ⟨_, rfl⟩
      rw [zw_l_eq e30] at hF
      refine zw_calli C kvX3_117 (HV (d.1, d.2.1, q1.2) (S.2.1 p1.toNatClampNeg) p2 _ (dk_S6 hT hy1 (by assumption)).1 hy2 e30) ⟨rfl, rfl, ⟨by show 2 * n + 6 + 1 ≤ 2 * (n + 1) + 6; omega, by show 8 + (5 + 11) + (60 * n + 200) ≤ 60 * (n + 1) + 200; omega⟩, Nat.le_refl _, Nat.le_refl _⟩ FX3 0 (As := [.int (S.2.1 p1.toNatClampNeg), .int p2]) (rest := []) rfl rfl rfl (Nat.le_of_ble_eq_true rfl) dX3_askScale_186 ?_
      refine zw_if_eq C 202 dX3_askScale_189 (by decide) (fun h31 => ?_) (fun h31 => ?_)
      · rw [if_pos h31] at hF
        refine zw_lconst C (v := 0) dX3_askScale_202 (by decide) ?_
        subst hF
        exact zw_lreturn C hr hlk dX3_askScale_203 rfl rfl
      · rw [if_neg h31] at hF
        refine zw_aload_n C dX3_askScale_192 2 rfl rfl ?_
        refine zw_iload C dX3_askScale_193 0 rfl ?_
        refine zw_iload_n C dX3_askScale_195 4 rfl rfl ?_
        obtain ⟨q32, e33⟩ : ∃ z, fS q29.2 (S.2.2.1 p1.toNatClampNeg) p2 = z := ⟨_, rfl⟩
        rw [zw_l_eq e33] at hF
        refine zw_calll C kvX3_106 (HS q29.2 (S.2.2.1 p1.toNatClampNeg) p2 _ (dk_S6 hT hy1 (by assumption)).2 hy2 e33) ⟨rfl, rfl, ⟨by show 2 * n + 6 + 1 ≤ 2 * (n + 1) + 6; omega, by show 8 + (5 + 11) + (60 * n + 200) ≤ 60 * (n + 1) + 200; omega⟩, Nat.le_refl _, Nat.le_refl _⟩ FX3 0 (As := [.int (S.2.2.1 p1.toNatClampNeg), .int p2]) (rest := []) rfl rfl rfl (Nat.le_of_ble_eq_true rfl) dX3_askScale_196 ?_
        refine zw_goto C 203 dX3_askScale_199 (by decide) ?_
        subst hF
        exact zw_lreturn C hr hlk dX3_askScale_203 rfl rfl
    rw [if_neg h28] at hF
    by_cases h34 : (S.1 p1.toNatClampNeg) = 7
    · rw [if_pos h34] at hF
      refine zw_tableIn C 204 dX3_askScale_42 (by rw [h34]; decide) (by rw [h34]; decide) (by rw [h34]; rfl) (by decide) ?_
      refine zw_aload_n C dX3_askScale_204 2 rfl rfl ?_
      refine zw_aload_n C dX3_askScale_205 2 rfl rfl ?_
      refine zw_iload_n C dX3_askScale_206 1 rfl rfl ?_
      refine zw_iload_n C dX3_askScale_207 4 rfl rfl ?_
      obtain ⟨q35, e36⟩ : ∃ z, fS (d.1, d.2.1, q1.2) (S.2.1 p1.toNatClampNeg) p2 = z := ⟨_, rfl⟩
      rw [zw_l_eq e36] at hF
      refine zw_calll C kvX3_106 (HS (d.1, d.2.1, q1.2) (S.2.1 p1.toNatClampNeg) p2 _ (dk_S7 hT hy1 (by assumption)) hy2 e36) ⟨rfl, rfl, ⟨by show 2 * n + 6 + 1 ≤ 2 * (n + 1) + 6; omega, by show 8 + (5 + 11) + (60 * n + 200) ≤ 60 * (n + 1) + 200; omega⟩, Nat.le_refl _, Nat.le_refl _⟩ FX3 0 (As := [.int (S.2.1 p1.toNatClampNeg), .int p2]) (rest := [.ref (a 0)]) rfl rfl rfl (Nat.le_of_ble_eq_true rfl) dX3_askScale_208 ?_
      obtain ⟨q37, e38⟩ : ∃ z, fX3_itemAt B.2.2.2.2.1 q35.2.2.2 q35.1 = z := ⟨_, rfl⟩
      rw [zw_l_eq e38] at hF
      refine zw_calll C kvX3_190 (kX3_itemAt e38) ⟨rfl, rfl, ⟨by show 2 + 1 ≤ 2 * (n + 1) + 6; omega, by show 8 + (3 + 11) + (41) ≤ 60 * (n + 1) + 200; omega⟩, Nat.le_refl _, Nat.le_refl _⟩ FX3 0 (As := [.long q35.1]) (rest := []) rfl rfl rfl (Nat.le_of_ble_eq_true rfl) dX3_askScale_211 ?_
      subst hF
      exact zw_lreturn C hr hlk dX3_askScale_214 rfl rfl
    rw [if_neg h34] at hF
    by_cases h39 : (S.1 p1.toNatClampNeg) = 8
    · rw [if_pos h39] at hF
      refine zw_tableIn C 215 dX3_askScale_42 (by rw [h39]; decide) (by rw [h39]; decide) (by rw [h39]; rfl) (by decide) ?_
      refine zw_aload_n C dX3_askScale_215 2 rfl rfl ?_
      refine zw_get C FX3 0 6 (v := .ref (a 5)) rfl (by decide) lkX3_33 rfl dX3_askScale_216 ?_
      refine zw_get C FX1 5 3 (v := .ref (a 9)) rfl (by decide) lkX3_194 rfl dX3_askScale_219 ?_
      refine zw_iload_n C dX3_askScale_222 3 rfl rfl ?_
      refine zw_lald C 9 1 (f := d.1) (i := p1) rfl rfl (dz_opIn hy1 hsn) dX3_askScale_223 ?_
      subst hF
      exact zw_lreturn C hr hlk dX3_askScale_224 rfl rfl
    rw [if_neg h39] at hF
    by_cases h40 : (S.1 p1.toNatClampNeg) = 9
    · rw [if_pos h40] at hF
      refine zw_tableIn C 215 dX3_askScale_42 (by rw [h40]; decide) (by rw [h40]; decide) (by rw [h40]; rfl) (by decide) ?_
      refine zw_aload_n C dX3_askScale_215 2 rfl rfl ?_
      refine zw_get C FX3 0 6 (v := .ref (a 5)) rfl (by decide) lkX3_33 rfl dX3_askScale_216 ?_
      refine zw_get C FX1 5 3 (v := .ref (a 9)) rfl (by decide) lkX3_194 rfl dX3_askScale_219 ?_
      refine zw_iload_n C dX3_askScale_222 3 rfl rfl ?_
      refine zw_lald C 9 1 (f := d.1) (i := p1) rfl rfl (dz_opIn hy1 hsn) dX3_askScale_223 ?_
      subst hF
      exact zw_lreturn C hr hlk dX3_askScale_224 rfl rfl
    rw [if_neg h40] at hF
    by_cases h41 : (S.1 p1.toNatClampNeg) = 10
    · rw [if_pos h41] at hF
      refine zw_tableIn C 225 dX3_askScale_42 (by rw [h41]; decide) (by rw [h41]; decide) (by rw [h41]; rfl) (by decide) ?_
      refine zw_aload_n C dX3_askScale_225 2 rfl rfl ?_
      refine zw_get C FX3 0 6 (v := .ref (a 5)) rfl (by decide) lkX3_33 rfl dX3_askScale_226 ?_
      refine zw_iload_n C dX3_askScale_229 3 rfl rfl ?_
      obtain ⟨q42, e43⟩ : ∃ z, fX1_countAsked d.1 p1 = z := ⟨_, rfl⟩
      rw [zw_l_eq e43] at hF
      refine zw_calll C kvX3_197 (kX1_countAsked_S (dz_opIn hy1 hsn) e43) ⟨rfl, rfl, ⟨by show 0 + 1 ≤ 2 * (n + 1) + 6; omega, by show 8 + (2 + 11) + (0) ≤ 60 * (n + 1) + 200; omega⟩, Nat.le_refl _, Nat.le_refl _⟩ FX1 5 (As := [.int p1]) (rest := []) rfl rfl rfl (Nat.le_of_ble_eq_true rfl) dX3_askScale_230 ?_
      refine zw_lconst C (v := 1) dX3_askScale_233 (by decide) ?_
      refine zw_lsub C dX3_askScale_234 ?_
      refine zw_iload_n C dX3_askScale_235 1 rfl rfl ?_
      refine zw_i2l C dX3_askScale_236 ?_
      refine zw_lmul C dX3_askScale_237 ?_
      refine zw_iload C dX3_askScale_238 0 rfl ?_
      refine zw_i2l C dX3_askScale_240 ?_
      refine zw_ladd C dX3_askScale_241 ?_
      subst hF
      exact zw_lreturn C hr hlk dX3_askScale_242 rfl rfl
    rw [if_neg h41] at hF
    refine zw_tableOut C 243 dX3_askScale_42 (zw_tout (n := 10) (by decide) (fun k hk => by match k, hk with | 0, _ => exact h4 | 1, _ => exact h5 | 2, _ => exact h6 | 3, _ => exact h11 | 4, _ => exact h16 | 5, _ => exact h23 | 6, _ => exact h28 | 7, _ => exact h34 | 8, _ => exact h39 | 9, _ => exact h40 | 10, _ => exact h41 | k + 11, hk => exact absurd hk (by omega))) (by decide) ?_
    refine zw_aload_n C dX3_askScale_243 2 rfl rfl ?_
    refine zw_get C FX3 0 11 (v := .ref (a 30)) rfl (by decide) lkX3_56 rfl dX3_askScale_244 ?_
    refine zw_iconst C (v := 3) dX3_askScale_247 (by decide) ?_
    obtain ⟨q44, e45⟩ : ∃ z, fX2_fail q1.2 3 = z := ⟨_, rfl⟩
    rw [zw_l_eq e45] at hF
    refine zw_callv C kvX3_201 (kX2_fail e45) ⟨rfl, rfl, ⟨by show 1 + 1 ≤ 2 * (n + 1) + 6; omega, by show 8 + (2 + 11) + (20) ≤ 60 * (n + 1) + 200; omega⟩, Nat.le_refl _, Nat.le_refl _⟩ FX2 30 (As := [.int 3]) (rest := []) rfl rfl rfl (Nat.le_of_ble_eq_true rfl) dX3_askScale_248 ?_
    refine zw_lconst C (v := 0) dX3_askScale_251 (by decide) ?_
    subst hF
    exact zw_lreturn C hr hlk dX3_askScale_252 rfl rfl
  · rw [if_pos h3] at hF
    refine zw_lconst C (v := 0) dX3_askScale_10 (by decide) ?_
    subst hF
    exact zw_lreturn C hr hlk dX3_askScale_11 rfl rfl
def bV (fS : dFS) (fV : dFV) (vk va vb : Nat → Int32) (d : dY) (p1 : Int32) (p2 : Int32) : Int32 × dY := (zw_l (fX2_beginsAsking d.2.2) (fun q1 => (if q1.1 = 0 then (0, d.1, d.2.1, q1.2) else (if (vk p1.toNatClampNeg) = 0 then (1, d.1, d.2.1, q1.2) else (if (vk p1.toNatClampNeg) = 1 then (zw_l (fS (d.1, d.2.1, q1.2) (va p1.toNatClampNeg) p2) (fun q6 => (zw_l (fS q6.2 (vb p1.toNatClampNeg) p2) (fun q8 => (if (lg_cmp q6.1 q8.1) ≤ 0 then (0, q8.2.1, q8.2.2.1, q8.2.2.2) else (1, q8.2.1, q8.2.2.1, q8.2.2.2)))))) else (if (vk p1.toNatClampNeg) = 2 then (zw_l (fS (d.1, d.2.1, q1.2) (va p1.toNatClampNeg) p2) (fun q12 => (zw_l (fS q12.2 (vb p1.toNatClampNeg) p2) (fun q14 => (if (lg_cmp q12.1 q14.1) = 0 then (1, q14.2.1, q14.2.2.1, q14.2.2.2) else (0, q14.2.1, q14.2.2.1, q14.2.2.2)))))) else (if (vk p1.toNatClampNeg) = 3 then (zw_l (fV (d.1, d.2.1, q1.2) (va p1.toNatClampNeg) p2) (fun q18 => (if q18.1 = 0 then (1, q18.2.1, q18.2.2.1, q18.2.2.2) else (0, q18.2.1, q18.2.2.1, q18.2.2.2)))) else (if (vk p1.toNatClampNeg) = 4 then (zw_l (fV (d.1, d.2.1, q1.2) (va p1.toNatClampNeg) p2) (fun q22 => (if q22.1 = 0 then (0, q22.2.1, q22.2.2.1, q22.2.2.2) else (zw_l (fV q22.2 (vb p1.toNatClampNeg) p2) (fun q25 => (if q25.1 = 0 then (0, q25.2.1, q25.2.2.1, q25.2.2.2) else (1, q25.2.1, q25.2.2.1, q25.2.2.2))))))) else (if (vk p1.toNatClampNeg) = 5 then (zw_l (fV (d.1, d.2.1, q1.2) (va p1.toNatClampNeg) p2) (fun q29 => (if q29.1 = 0 then (zw_l (fV q29.2 (vb p1.toNatClampNeg) p2) (fun q32 => (if q32.1 = 0 then (0, q32.2.1, q32.2.2.1, q32.2.2.2) else (1, q32.2.1, q32.2.2.1, q32.2.2.2)))) else (1, q29.2.1, q29.2.2.1, q29.2.2.2)))) else (if (vk p1.toNatClampNeg) = 6 then (zw_l (fX1_countAsked d.2.1 p1) (fun q36 => (if (lg_cmp (q36.1 - q36.1 / ((if (va p1.toNatClampNeg) < 1 then 1 else va p1.toNatClampNeg).toInt64) * ((if (va p1.toNatClampNeg) < 1 then 1 else va p1.toNatClampNeg).toInt64)) 0) = 0 then (1, d.1, q36.2, q1.2) else (0, d.1, q36.2, q1.2)))) else (if (vk p1.toNatClampNeg) = 7 then (if (va p1.toNatClampNeg) ≤ p2 then (0, d.1, d.2.1, q1.2) else (1, d.1, d.2.1, q1.2)) else (if (vk p1.toNatClampNeg) = 8 then (zw_l (bF fV (d.1, d.2.1, q1.2) (va p1.toNatClampNeg) p2) (fun q42 => (q42.1, q42.2.1, q42.2.2.1, q42.2.2.2))) else (zw_l (fX2_fail q1.2 3) (fun q44 => (0, d.1, d.2.1, q44)))))))))))))))
set_option maxHeartbeats 4000000 in
set_option maxRecDepth 100000 in
theorem kbV {l : Launch} {D : va_G} {cI cL : ClassId} {a : Nat → Nat} {B : dB} {S : dS} {V : dV} {O : dO} {G : dG} {F : dF} {n sn vn on tn : Nat} {rs rv ro : Nat → Nat} {fS : dFS} {fV : dFV} (hsn : sn ≤ 24) (hvn : vn ≤ 24) (hon : on ≤ 24) (htn : tn ≤ 40) (hT : dz_tab S V O sn vn on rs rv ro) (HS : CS l D cI cL a B S V O G F (dz_rm n) (dz_op sn rs n) (fun t => vp_in t tn) fS) (HV : CV l D cI cL a B S V O G F (dz_rm n) (dz_op vn rv n) (fun t => vp_in t tn) fV) (d : dY) (p1 : Int32) (p2 : Int32) (q : Int32 × dY) (hy1 : dz_op vn rv (n + 1) p1) (hy2 : vp_in p2 tn) (hF : bV fS fV V.1 V.2.1 V.2.2.1 d p1 p2 = q) : zw_Mi l yX3_askSieve cX3_askSieve 5 .boolean D (zw_tys cI cL) (dz_rm (n + 1)) [.ref (a 0), .int p1, .int p2] (dW cI cL a B S V O G F d) (dW cI cL a B S V O G F q.2) q.1 := by
  unfold bV at hF
  refine zw_Mi_of (own := RX3) (by decide) rfl (Nat.le_of_ble_eq_true rfl) ?_
  intro p e s m args below meth c A C hr hlk
  refine zw_eq (ws2 := (wD cI cL a B (S.1, S.2.1, S.2.2.1, d.1, S.2.2.2.2) (V.1, V.2.1, V.2.2.1, d.2.1, V.2.2.2.2) O G F d.2.2)) (lv2 := [(0, .ref (a 0)), (1, .int p1), (2, .int p2)]) rfl rfl rfl ?_
  refine zw_aload_n C dX3_askSieve_0 0 rfl rfl ?_
  refine zw_get C FX3 0 11 (v := .ref (a 30)) rfl (by decide) lkX3_56 rfl dX3_askSieve_1 ?_
  obtain ⟨q1, e2⟩ : ∃ z, fX2_beginsAsking d.2.2 = z := ⟨_, rfl⟩
  rw [zw_l_eq e2] at hF
  refine zw_calli C kvX3_169 (kX2_beginsAsking e2) ⟨rfl, rfl, ⟨by show 2 + 1 ≤ 2 * (n + 1) + 6; omega, by show 8 + (1 + 11) + (41) ≤ 60 * (n + 1) + 200; omega⟩, Nat.le_refl _, Nat.le_refl _⟩ FX2 30 (As := []) (rest := []) rfl rfl rfl (Nat.le_of_ble_eq_true rfl) dX3_askSieve_4 ?_
  refine zw_if_ne C 12 dX3_askSieve_7 (by decide) (fun h3 => ?_) (fun h3 => ?_)
  · rw [if_neg h3] at hF
    refine zw_aload_n C dX3_askSieve_12 0 rfl rfl ?_
    refine zw_get C FX3 0 7 (v := .ref (a 10)) rfl (by decide) lkX3_37 rfl dX3_askSieve_13 ?_
    refine zw_get C FX1 10 1 (v := .ref (a 12)) rfl (by decide) lkX3_172 rfl dX3_askSieve_16 ?_
    refine zw_iload_n C dX3_askSieve_19 1 rfl rfl ?_
    refine zw_iald C 12 0 (f := V.2.1) (i := p1) rfl rfl (dz_opIn hy1 hvn) dX3_askSieve_20 ?_
    refine zw_istore_n C dX3_askSieve_21 rfl (by decide) rfl ?_
    refine zw_aload_n C dX3_askSieve_22 1 rfl rfl ?_
    refine zw_get C FX3 0 7 (v := .ref (a 10)) rfl (by decide) lkX3_37 rfl dX3_askSieve_23 ?_
    refine zw_get C FX1 10 2 (v := .ref (a 13)) rfl (by decide) lkX3_175 rfl dX3_askSieve_26 ?_
    refine zw_iload_n C dX3_askSieve_29 2 rfl rfl ?_
    refine zw_iald C 13 0 (f := V.2.2.1) (i := p1) rfl rfl (dz_opIn hy1 hvn) dX3_askSieve_30 ?_
    refine zw_istore C dX3_askSieve_31 (by decide) rfl ?_
    refine zw_aload_n C dX3_askSieve_33 2 rfl rfl ?_
    refine zw_get C FX3 0 7 (v := .ref (a 10)) rfl (by decide) lkX3_37 rfl dX3_askSieve_34 ?_
    refine zw_get C FX1 10 0 (v := .ref (a 11)) rfl (by decide) lkX3_178 rfl dX3_askSieve_37 ?_
    refine zw_iload_n C dX3_askSieve_40 3 rfl rfl ?_
    refine zw_iald C 11 0 (f := V.1) (i := p1) rfl rfl (dz_opIn hy1 hvn) dX3_askSieve_41 ?_
    by_cases h4 : (V.1 p1.toNatClampNeg) = 0
    · rw [if_pos h4] at hF
      refine zw_tableIn C 92 dX3_askSieve_42 (by rw [h4]; decide) (by rw [h4]; decide) (by rw [h4]; rfl) (by decide) ?_
      refine zw_iconst C (v := 1) dX3_askSieve_92 (by decide) ?_
      subst hF
      exact zw_zreturn C hr hlk rfl dX3_askSieve_93 rfl rfl
    rw [if_neg h4] at hF
    by_cases h5 : (V.1 p1.toNatClampNeg) = 1
    · rw [if_pos h5] at hF
      refine zw_tableIn C 94 dX3_askSieve_42 (by rw [h5]; decide) (by rw [h5]; decide) (by rw [h5]; rfl) (by decide) ?_
      refine zw_aload_n C dX3_askSieve_94 2 rfl rfl ?_
      refine zw_iload_n C dX3_askSieve_95 1 rfl rfl ?_
      refine zw_iload_n C dX3_askSieve_96 4 rfl rfl ?_
      obtain ⟨q6, e7⟩ : ∃ z, fS (d.1, d.2.1, q1.2) (V.2.1 p1.toNatClampNeg) p2 = z := ⟨_, rfl⟩
      rw [zw_l_eq e7] at hF
      refine zw_calll C kvX3_106 (HS (d.1, d.2.1, q1.2) (V.2.1 p1.toNatClampNeg) p2 _ (dk_V1 hT hy1 (Or.inl (by assumption))).1 hy2 e7) ⟨rfl, rfl, ⟨by show 2 * n + 6 + 1 ≤ 2 * (n + 1) + 6; omega, by show 8 + (5 + 11) + (60 * n + 200) ≤ 60 * (n + 1) + 200; omega⟩, Nat.le_refl _, Nat.le_refl _⟩ FX3 0 (As := [.int (V.2.1 p1.toNatClampNeg), .int p2]) (rest := []) rfl rfl rfl (Nat.le_of_ble_eq_true rfl) dX3_askSieve_97 ?_
      refine zw_aload_n C dX3_askSieve_100 2 rfl rfl ?_
      refine zw_iload C dX3_askSieve_101 0 rfl ?_
      refine zw_iload_n C dX3_askSieve_103 4 rfl rfl ?_
      obtain ⟨q8, e9⟩ : ∃ z, fS q6.2 (V.2.2.1 p1.toNatClampNeg) p2 = z := ⟨_, rfl⟩
      rw [zw_l_eq e9] at hF
      refine zw_calll C kvX3_106 (HS q6.2 (V.2.2.1 p1.toNatClampNeg) p2 _ (dk_V1 hT hy1 (Or.inl (by assumption))).2 hy2 e9) ⟨rfl, rfl, ⟨by show 2 * n + 6 + 1 ≤ 2 * (n + 1) + 6; omega, by show 8 + (5 + 11) + (60 * n + 200) ≤ 60 * (n + 1) + 200; omega⟩, Nat.le_refl _, Nat.le_refl _⟩ FX3 0 (As := [.int (V.2.2.1 p1.toNatClampNeg), .int p2]) (rest := [.long q6.1]) rfl rfl rfl (Nat.le_of_ble_eq_true rfl) dX3_askSieve_104 ?_
      refine zw_lcmp C dX3_askSieve_107 ?_
      refine zw_if_le C 115 dX3_askSieve_108 (by decide) (fun h10 => ?_) (fun h10 => ?_)
      · rw [if_pos h10] at hF
        refine zw_iconst C (v := 0) dX3_askSieve_115 (by decide) ?_
        subst hF
        exact zw_zreturn C hr hlk rfl dX3_askSieve_116 rfl rfl
      · rw [if_neg h10] at hF
        refine zw_iconst C (v := 1) dX3_askSieve_111 (by decide) ?_
        refine zw_goto C 116 dX3_askSieve_112 (by decide) ?_
        subst hF
        exact zw_zreturn C hr hlk rfl dX3_askSieve_116 rfl rfl
    rw [if_neg h5] at hF
    by_cases h11 : (V.1 p1.toNatClampNeg) = 2
    · rw [if_pos h11] at hF
      refine zw_tableIn C 117 dX3_askSieve_42 (by rw [h11]; decide) (by rw [h11]; decide) (by rw [h11]; rfl) (by decide) ?_
      refine zw_aload_n C dX3_askSieve_117 2 rfl rfl ?_
      refine zw_iload_n C dX3_askSieve_118 1 rfl rfl ?_
      refine zw_iload_n C dX3_askSieve_119 4 rfl rfl ?_
      obtain ⟨q12, e13⟩ : ∃ z, fS (d.1, d.2.1, q1.2) (V.2.1 p1.toNatClampNeg) p2 = z := ⟨_, rfl⟩
      rw [zw_l_eq e13] at hF
      refine zw_calll C kvX3_106 (HS (d.1, d.2.1, q1.2) (V.2.1 p1.toNatClampNeg) p2 _ (dk_V1 hT hy1 (Or.inr (by assumption))).1 hy2 e13) ⟨rfl, rfl, ⟨by show 2 * n + 6 + 1 ≤ 2 * (n + 1) + 6; omega, by show 8 + (5 + 11) + (60 * n + 200) ≤ 60 * (n + 1) + 200; omega⟩, Nat.le_refl _, Nat.le_refl _⟩ FX3 0 (As := [.int (V.2.1 p1.toNatClampNeg), .int p2]) (rest := []) rfl rfl rfl (Nat.le_of_ble_eq_true rfl) dX3_askSieve_120 ?_
      refine zw_aload_n C dX3_askSieve_123 2 rfl rfl ?_
      refine zw_iload C dX3_askSieve_124 0 rfl ?_
      refine zw_iload_n C dX3_askSieve_126 4 rfl rfl ?_
      obtain ⟨q14, e15⟩ : ∃ z, fS q12.2 (V.2.2.1 p1.toNatClampNeg) p2 = z := ⟨_, rfl⟩
      rw [zw_l_eq e15] at hF
      refine zw_calll C kvX3_106 (HS q12.2 (V.2.2.1 p1.toNatClampNeg) p2 _ (dk_V1 hT hy1 (Or.inr (by assumption))).2 hy2 e15) ⟨rfl, rfl, ⟨by show 2 * n + 6 + 1 ≤ 2 * (n + 1) + 6; omega, by show 8 + (5 + 11) + (60 * n + 200) ≤ 60 * (n + 1) + 200; omega⟩, Nat.le_refl _, Nat.le_refl _⟩ FX3 0 (As := [.int (V.2.2.1 p1.toNatClampNeg), .int p2]) (rest := [.long q12.1]) rfl rfl rfl (Nat.le_of_ble_eq_true rfl) dX3_askSieve_127 ?_
      refine zw_lcmp C dX3_askSieve_130 ?_
      refine zw_if_ne C 138 dX3_askSieve_131 (by decide) (fun h16 => ?_) (fun h16 => ?_)
      · rw [if_neg h16] at hF
        refine zw_iconst C (v := 0) dX3_askSieve_138 (by decide) ?_
        subst hF
        exact zw_zreturn C hr hlk rfl dX3_askSieve_139 rfl rfl
      · rw [if_pos h16] at hF
        refine zw_iconst C (v := 1) dX3_askSieve_134 (by decide) ?_
        refine zw_goto C 139 dX3_askSieve_135 (by decide) ?_
        subst hF
        exact zw_zreturn C hr hlk rfl dX3_askSieve_139 rfl rfl
    rw [if_neg h11] at hF
    by_cases h17 : (V.1 p1.toNatClampNeg) = 3
    · rw [if_pos h17] at hF
      refine zw_tableIn C 140 dX3_askSieve_42 (by rw [h17]; decide) (by rw [h17]; decide) (by rw [h17]; rfl) (by decide) ?_
      refine zw_aload_n C dX3_askSieve_140 2 rfl rfl ?_
      refine zw_iload_n C dX3_askSieve_141 1 rfl rfl ?_
      refine zw_iload_n C dX3_askSieve_142 4 rfl rfl ?_
      obtain ⟨q18, e19⟩ : ∃ z, fV (d.1, d.2.1, q1.2) (V.2.1 p1.toNatClampNeg) p2 = z := ⟨_, rfl⟩
      rw [zw_l_eq e19] at hF
      refine zw_calli C kvX3_117 (HV (d.1, d.2.1, q1.2) (V.2.1 p1.toNatClampNeg) p2 _ (dk_V3 hT hy1 (Or.inl (by assumption))) hy2 e19) ⟨rfl, rfl, ⟨by show 2 * n + 6 + 1 ≤ 2 * (n + 1) + 6; omega, by show 8 + (5 + 11) + (60 * n + 200) ≤ 60 * (n + 1) + 200; omega⟩, Nat.le_refl _, Nat.le_refl _⟩ FX3 0 (As := [.int (V.2.1 p1.toNatClampNeg), .int p2]) (rest := []) rfl rfl rfl (Nat.le_of_ble_eq_true rfl) dX3_askSieve_143 ?_
      refine zw_if_ne C 153 dX3_askSieve_146 (by decide) (fun h20 => ?_) (fun h20 => ?_)
      · rw [if_neg h20] at hF
        refine zw_iconst C (v := 0) dX3_askSieve_153 (by decide) ?_
        subst hF
        exact zw_zreturn C hr hlk rfl dX3_askSieve_154 rfl rfl
      · rw [if_pos h20] at hF
        refine zw_iconst C (v := 1) dX3_askSieve_149 (by decide) ?_
        refine zw_goto C 154 dX3_askSieve_150 (by decide) ?_
        subst hF
        exact zw_zreturn C hr hlk rfl dX3_askSieve_154 rfl rfl
    rw [if_neg h17] at hF
    by_cases h21 : (V.1 p1.toNatClampNeg) = 4
    · rw [if_pos h21] at hF
      refine zw_tableIn C 155 dX3_askSieve_42 (by rw [h21]; decide) (by rw [h21]; decide) (by rw [h21]; rfl) (by decide) ?_
      refine zw_aload_n C dX3_askSieve_155 2 rfl rfl ?_
      refine zw_iload_n C dX3_askSieve_156 1 rfl rfl ?_
      refine zw_iload_n C dX3_askSieve_157 4 rfl rfl ?_
      obtain ⟨q22, e23⟩ : ∃ z, fV (d.1, d.2.1, q1.2) (V.2.1 p1.toNatClampNeg) p2 = z := ⟨_, rfl⟩
      rw [zw_l_eq e23] at hF
      refine zw_calli C kvX3_117 (HV (d.1, d.2.1, q1.2) (V.2.1 p1.toNatClampNeg) p2 _ (dk_V4 hT hy1 (Or.inl (by assumption))).1 hy2 e23) ⟨rfl, rfl, ⟨by show 2 * n + 6 + 1 ≤ 2 * (n + 1) + 6; omega, by show 8 + (5 + 11) + (60 * n + 200) ≤ 60 * (n + 1) + 200; omega⟩, Nat.le_refl _, Nat.le_refl _⟩ FX3 0 (As := [.int (V.2.1 p1.toNatClampNeg), .int p2]) (rest := []) rfl rfl rfl (Nat.le_of_ble_eq_true rfl) dX3_askSieve_158 ?_
      refine zw_if_eq C 178 dX3_askSieve_161 (by decide) (fun h24 => ?_) (fun h24 => ?_)
      · rw [if_pos h24] at hF
        refine zw_iconst C (v := 0) dX3_askSieve_178 (by decide) ?_
        subst hF
        exact zw_zreturn C hr hlk rfl dX3_askSieve_179 rfl rfl
      · rw [if_neg h24] at hF
        refine zw_aload_n C dX3_askSieve_164 2 rfl rfl ?_
        refine zw_iload C dX3_askSieve_165 0 rfl ?_
        refine zw_iload_n C dX3_askSieve_167 4 rfl rfl ?_
        obtain ⟨q25, e26⟩ : ∃ z, fV q22.2 (V.2.2.1 p1.toNatClampNeg) p2 = z := ⟨_, rfl⟩
        rw [zw_l_eq e26] at hF
        refine zw_calli C kvX3_117 (HV q22.2 (V.2.2.1 p1.toNatClampNeg) p2 _ (dk_V4 hT hy1 (Or.inl (by assumption))).2 hy2 e26) ⟨rfl, rfl, ⟨by show 2 * n + 6 + 1 ≤ 2 * (n + 1) + 6; omega, by show 8 + (5 + 11) + (60 * n + 200) ≤ 60 * (n + 1) + 200; omega⟩, Nat.le_refl _, Nat.le_refl _⟩ FX3 0 (As := [.int (V.2.2.1 p1.toNatClampNeg), .int p2]) (rest := []) rfl rfl rfl (Nat.le_of_ble_eq_true rfl) dX3_askSieve_168 ?_
        refine zw_if_eq C 178 dX3_askSieve_171 (by decide) (fun h27 => ?_) (fun h27 => ?_)
        · rw [if_pos h27] at hF
          refine zw_iconst C (v := 0) dX3_askSieve_178 (by decide) ?_
          subst hF
          exact zw_zreturn C hr hlk rfl dX3_askSieve_179 rfl rfl
        · rw [if_neg h27] at hF
          refine zw_iconst C (v := 1) dX3_askSieve_174 (by decide) ?_
          refine zw_goto C 179 dX3_askSieve_175 (by decide) ?_
          subst hF
          exact zw_zreturn C hr hlk rfl dX3_askSieve_179 rfl rfl
    rw [if_neg h21] at hF
    by_cases h28 : (V.1 p1.toNatClampNeg) = 5
    · rw [if_pos h28] at hF
      refine zw_tableIn C 180 dX3_askSieve_42 (by rw [h28]; decide) (by rw [h28]; decide) (by rw [h28]; rfl) (by decide) ?_
      refine zw_aload_n C dX3_askSieve_180 2 rfl rfl ?_
      refine zw_iload_n C dX3_askSieve_181 1 rfl rfl ?_
      refine zw_iload_n C dX3_askSieve_182 4 rfl rfl ?_
      obtain ⟨q29, e30⟩ : ∃ z, fV (d.1, d.2.1, q1.2) (V.2.1 p1.toNatClampNeg) p2 = z := ⟨_, rfl⟩
      rw [zw_l_eq e30] at hF
      refine zw_calli C kvX3_117 (HV (d.1, d.2.1, q1.2) (V.2.1 p1.toNatClampNeg) p2 _ (dk_V4 hT hy1 (Or.inr (by assumption))).1 hy2 e30) ⟨rfl, rfl, ⟨by show 2 * n + 6 + 1 ≤ 2 * (n + 1) + 6; omega, by show 8 + (5 + 11) + (60 * n + 200) ≤ 60 * (n + 1) + 200; omega⟩, Nat.le_refl _, Nat.le_refl _⟩ FX3 0 (As := [.int (V.2.1 p1.toNatClampNeg), .int p2]) (rest := []) rfl rfl rfl (Nat.le_of_ble_eq_true rfl) dX3_askSieve_183 ?_
      refine zw_if_ne C 199 dX3_askSieve_186 (by decide) (fun h31 => ?_) (fun h31 => ?_)
      · rw [if_neg h31] at hF
        refine zw_iconst C (v := 1) dX3_askSieve_199 (by decide) ?_
        refine zw_goto C 204 dX3_askSieve_200 (by decide) ?_
        subst hF
        exact zw_zreturn C hr hlk rfl dX3_askSieve_204 rfl rfl
      · rw [if_pos h31] at hF
        refine zw_aload_n C dX3_askSieve_189 2 rfl rfl ?_
        refine zw_iload C dX3_askSieve_190 0 rfl ?_
        refine zw_iload_n C dX3_askSieve_192 4 rfl rfl ?_
        obtain ⟨q32, e33⟩ : ∃ z, fV q29.2 (V.2.2.1 p1.toNatClampNeg) p2 = z := ⟨_, rfl⟩
        rw [zw_l_eq e33] at hF
        refine zw_calli C kvX3_117 (HV q29.2 (V.2.2.1 p1.toNatClampNeg) p2 _ (dk_V4 hT hy1 (Or.inr (by assumption))).2 hy2 e33) ⟨rfl, rfl, ⟨by show 2 * n + 6 + 1 ≤ 2 * (n + 1) + 6; omega, by show 8 + (5 + 11) + (60 * n + 200) ≤ 60 * (n + 1) + 200; omega⟩, Nat.le_refl _, Nat.le_refl _⟩ FX3 0 (As := [.int (V.2.2.1 p1.toNatClampNeg), .int p2]) (rest := []) rfl rfl rfl (Nat.le_of_ble_eq_true rfl) dX3_askSieve_193 ?_
        refine zw_if_eq C 203 dX3_askSieve_196 (by decide) (fun h34 => ?_) (fun h34 => ?_)
        · rw [if_pos h34] at hF
          refine zw_iconst C (v := 0) dX3_askSieve_203 (by decide) ?_
          subst hF
          exact zw_zreturn C hr hlk rfl dX3_askSieve_204 rfl rfl
        · rw [if_neg h34] at hF
          refine zw_iconst C (v := 1) dX3_askSieve_199 (by decide) ?_
          refine zw_goto C 204 dX3_askSieve_200 (by decide) ?_
          subst hF
          exact zw_zreturn C hr hlk rfl dX3_askSieve_204 rfl rfl
    rw [if_neg h28] at hF
    by_cases h35 : (V.1 p1.toNatClampNeg) = 6
    · rw [if_pos h35] at hF
      refine zw_tableIn C 205 dX3_askSieve_42 (by rw [h35]; decide) (by rw [h35]; decide) (by rw [h35]; rfl) (by decide) ?_
      refine zw_aload_n C dX3_askSieve_205 2 rfl rfl ?_
      refine zw_get C FX3 0 7 (v := .ref (a 10)) rfl (by decide) lkX3_37 rfl dX3_askSieve_206 ?_
      refine zw_iload_n C dX3_askSieve_209 3 rfl rfl ?_
      obtain ⟨q36, e37⟩ : ∃ z, fX1_countAsked d.2.1 p1 = z := ⟨_, rfl⟩
      rw [zw_l_eq e37] at hF
      refine zw_calll C kvX3_197 (kX1_countAsked_V (dz_opIn hy1 hvn) e37) ⟨rfl, rfl, ⟨by show 0 + 1 ≤ 2 * (n + 1) + 6; omega, by show 8 + (2 + 11) + (0) ≤ 60 * (n + 1) + 200; omega⟩, Nat.le_refl _, Nat.le_refl _⟩ FX1 10 (As := [.int p1]) (rest := []) rfl rfl rfl (Nat.le_of_ble_eq_true rfl) dX3_askSieve_210 ?_
      refine zw_iload_n C dX3_askSieve_213 1 rfl rfl ?_
      refine zw_iconst C (v := 1) dX3_askSieve_214 (by decide) ?_
      refine zw_mmax C lkmX3_204 (by show 1 ≤ 2 * (n + 1) + 6; omega) (by show 40 ≤ 60 * (n + 1) + 200; omega) (Nat.le_of_ble_eq_true rfl) (Nat.zero_le _) (Nat.zero_le _) dX3_askSieve_215 ?_
      refine zw_i2l C dX3_askSieve_218 ?_
      refine zw_lrem C dX3_askSieve_219 dz_maxne ?_
      refine zw_lconst C (v := 0) dX3_askSieve_220 (by decide) ?_
      refine zw_lcmp C dX3_askSieve_221 ?_
      refine zw_if_ne C 229 dX3_askSieve_222 (by decide) (fun h38 => ?_) (fun h38 => ?_)
      · rw [if_neg h38] at hF
        refine zw_iconst C (v := 0) dX3_askSieve_229 (by decide) ?_
        subst hF
        exact zw_zreturn C hr hlk rfl dX3_askSieve_230 rfl rfl
      · rw [if_pos h38] at hF
        refine zw_iconst C (v := 1) dX3_askSieve_225 (by decide) ?_
        refine zw_goto C 230 dX3_askSieve_226 (by decide) ?_
        subst hF
        exact zw_zreturn C hr hlk rfl dX3_askSieve_230 rfl rfl
    rw [if_neg h35] at hF
    by_cases h39 : (V.1 p1.toNatClampNeg) = 7
    · rw [if_pos h39] at hF
      refine zw_tableIn C 231 dX3_askSieve_42 (by rw [h39]; decide) (by rw [h39]; decide) (by rw [h39]; rfl) (by decide) ?_
      refine zw_iload_n C dX3_askSieve_231 4 rfl rfl ?_
      refine zw_iload_n C dX3_askSieve_232 1 rfl rfl ?_
      refine zw_icmp_ge C 240 dX3_askSieve_233 (by decide) (fun h40 => ?_) (fun h40 => ?_)
      · rw [if_pos h40] at hF
        refine zw_iconst C (v := 0) dX3_askSieve_240 (by decide) ?_
        subst hF
        exact zw_zreturn C hr hlk rfl dX3_askSieve_241 rfl rfl
      · rw [if_neg h40] at hF
        refine zw_iconst C (v := 1) dX3_askSieve_236 (by decide) ?_
        refine zw_goto C 241 dX3_askSieve_237 (by decide) ?_
        subst hF
        exact zw_zreturn C hr hlk rfl dX3_askSieve_241 rfl rfl
    rw [if_neg h39] at hF
    by_cases h41 : (V.1 p1.toNatClampNeg) = 8
    · rw [if_pos h41] at hF
      refine zw_tableIn C 242 dX3_askSieve_42 (by rw [h41]; decide) (by rw [h41]; decide) (by rw [h41]; rfl) (by decide) ?_
      refine zw_aload_n C dX3_askSieve_242 2 rfl rfl ?_
      refine zw_iload_n C dX3_askSieve_243 1 rfl rfl ?_
      refine zw_iload_n C dX3_askSieve_244 4 rfl rfl ?_
      obtain ⟨q42, e43⟩ : ∃ z, bF fV (d.1, d.2.1, q1.2) (V.2.1 p1.toNatClampNeg) p2 = z := ⟨_, rfl⟩
      rw [zw_l_eq e43] at hF
      refine zw_calli C kvX3_207 (kbF HV (d.1, d.2.1, q1.2) (V.2.1 p1.toNatClampNeg) p2 _ (dk_V3 hT hy1 (Or.inr (by assumption))) hy2 e43) ⟨rfl, rfl, ⟨by show 2 * n + 7 + 1 ≤ 2 * (n + 1) + 6; omega, by show 8 + (4 + 11) + (60 * n + 230) ≤ 60 * (n + 1) + 200; omega⟩, Nat.le_refl _, Nat.le_refl _⟩ FX3 0 (As := [.int (V.2.1 p1.toNatClampNeg), .int p2]) (rest := []) rfl rfl rfl (Nat.le_of_ble_eq_true rfl) dX3_askSieve_245 ?_
      subst hF
      exact zw_zreturn C hr hlk (zw_nb (bb_bF (by assumption))) dX3_askSieve_248 rfl rfl
    rw [if_neg h41] at hF
    refine zw_tableOut C 249 dX3_askSieve_42 (zw_tout (n := 8) (by decide) (fun k hk => by match k, hk with | 0, _ => exact h4 | 1, _ => exact h5 | 2, _ => exact h11 | 3, _ => exact h17 | 4, _ => exact h21 | 5, _ => exact h28 | 6, _ => exact h35 | 7, _ => exact h39 | 8, _ => exact h41 | k + 9, hk => exact absurd hk (by omega))) (by decide) ?_
    refine zw_aload_n C dX3_askSieve_249 2 rfl rfl ?_
    refine zw_get C FX3 0 11 (v := .ref (a 30)) rfl (by decide) lkX3_56 rfl dX3_askSieve_250 ?_
    refine zw_iconst C (v := 3) dX3_askSieve_253 (by decide) ?_
    obtain ⟨q44, e45⟩ : ∃ z, fX2_fail q1.2 3 = z := ⟨_, rfl⟩
    rw [zw_l_eq e45] at hF
    refine zw_callv C kvX3_201 (kX2_fail e45) ⟨rfl, rfl, ⟨by show 1 + 1 ≤ 2 * (n + 1) + 6; omega, by show 8 + (2 + 11) + (20) ≤ 60 * (n + 1) + 200; omega⟩, Nat.le_refl _, Nat.le_refl _⟩ FX2 30 (As := [.int 3]) (rest := []) rfl rfl rfl (Nat.le_of_ble_eq_true rfl) dX3_askSieve_254 ?_
    refine zw_iconst C (v := 0) dX3_askSieve_257 (by decide) ?_
    subst hF
    exact zw_zreturn C hr hlk rfl dX3_askSieve_258 rfl rfl
  · rw [if_pos h3] at hF
    refine zw_iconst C (v := 0) dX3_askSieve_10 (by decide) ?_
    subst hF
    exact zw_zreturn C hr hlk rfl dX3_askSieve_11 rfl rfl
def bO (fS : dFS) (fV : dFV) (fO : dFO) (ok oa ob : Nat → Int32) (d : dY) (p1 : Int32) (p2 : Int32) (p3 : Int32) : Int32 × dY := (zw_l (fX2_beginsAsking d.2.2) (fun q1 => (if q1.1 = 0 then (0, d.1, d.2.1, q1.2) else (if (ok p1.toNatClampNeg) = 0 then (zw_l (fS (d.1, d.2.1, q1.2) (oa p1.toNatClampNeg) p2) (fun q5 => (zw_l (fS q5.2 (oa p1.toNatClampNeg) p3) (fun q7 => (fX3_lesserFirst q5.1 q7.1, q7.2.1, q7.2.2.1, q7.2.2.2))))) else (if (ok p1.toNatClampNeg) = 1 then (zw_l (fO (d.1, d.2.1, q1.2) (oa p1.toNatClampNeg) p2 p3) (fun q10 => (-q10.1, q10.2.1, q10.2.2.1, q10.2.2.2))) else (if (ok p1.toNatClampNeg) = 2 then (zw_l (bH fO (d.1, d.2.1, q1.2) (oa p1.toNatClampNeg) (ob p1.toNatClampNeg) p2 p3) (fun q13 => (q13.1, q13.2.1, q13.2.2.1, q13.2.2.2))) else (if (ok p1.toNatClampNeg) = 3 then (zw_l (bR fV (d.1, d.2.1, q1.2) (oa p1.toNatClampNeg) p2) (fun q16 => (zw_l (bR fV q16.2 (oa p1.toNatClampNeg) p3) (fun q18 => (fX3_lesserFirst q16.1.toInt64 q18.1.toInt64, q18.2.1, q18.2.2.1, q18.2.2.2))))) else (if (ok p1.toNatClampNeg) = 4 then (fX3_lesserFirst p2.toInt64 p3.toInt64, d.1, d.2.1, q1.2) else (zw_l (fX2_fail q1.2 3) (fun q21 => (0, d.1, d.2.1, q21)))))))))))
set_option maxHeartbeats 4000000 in
set_option maxRecDepth 100000 in
theorem kbO {l : Launch} {D : va_G} {cI cL : ClassId} {a : Nat → Nat} {B : dB} {S : dS} {V : dV} {O : dO} {G : dG} {F : dF} {n sn vn on tn : Nat} {rs rv ro : Nat → Nat} {fS : dFS} {fV : dFV} (hsn : sn ≤ 24) (hvn : vn ≤ 24) (hon : on ≤ 24) (htn : tn ≤ 40) (hT : dz_tab S V O sn vn on rs rv ro) (HS : CS l D cI cL a B S V O G F (dz_rm n) (dz_op sn rs n) (fun t => vp_in t tn) fS) (HV : CV l D cI cL a B S V O G F (dz_rm n) (dz_op vn rv n) (fun t => vp_in t tn) fV) {fO : dFO} (HO : CO l D cI cL a B S V O G F (dz_rm n) (dz_op on ro n) (fun t => vp_in t tn) fO) (d : dY) (p1 : Int32) (p2 : Int32) (p3 : Int32) (q : Int32 × dY) (hy1 : dz_op on ro (n + 1) p1) (hy2 : vp_in p2 tn) (hy3 : vp_in p3 tn) (hF : bO fS fV fO O.1 O.2.1 O.2.2.1 d p1 p2 p3 = q) : zw_Mi l yX3_askOrder cX3_askOrder 6 .int D (zw_tys cI cL) (dz_rm (n + 1)) [.ref (a 0), .int p1, .int p2, .int p3] (dW cI cL a B S V O G F d) (dW cI cL a B S V O G F q.2) q.1 := by
  unfold bO at hF
  refine zw_Mi_of (own := RX3) (by decide) rfl (Nat.le_of_ble_eq_true rfl) ?_
  intro p e s m args below meth c A C hr hlk
  refine zw_eq (ws2 := (wD cI cL a B (S.1, S.2.1, S.2.2.1, d.1, S.2.2.2.2) (V.1, V.2.1, V.2.2.1, d.2.1, V.2.2.2.2) O G F d.2.2)) (lv2 := [(0, .ref (a 0)), (1, .int p1), (2, .int p2), (3, .int p3)]) rfl rfl rfl ?_
  refine zw_aload_n C dX3_askOrder_0 0 rfl rfl ?_
  refine zw_get C FX3 0 11 (v := .ref (a 30)) rfl (by decide) lkX3_56 rfl dX3_askOrder_1 ?_
  obtain ⟨q1, e2⟩ : ∃ z, fX2_beginsAsking d.2.2 = z := ⟨_, rfl⟩
  rw [zw_l_eq e2] at hF
  refine zw_calli C kvX3_169 (kX2_beginsAsking e2) ⟨rfl, rfl, ⟨by show 2 + 1 ≤ 2 * (n + 1) + 6; omega, by show 8 + (1 + 11) + (41) ≤ 60 * (n + 1) + 200; omega⟩, Nat.le_refl _, Nat.le_refl _⟩ FX2 30 (As := []) (rest := []) rfl rfl rfl (Nat.le_of_ble_eq_true rfl) dX3_askOrder_4 ?_
  refine zw_if_ne C 12 dX3_askOrder_7 (by decide) (fun h3 => ?_) (fun h3 => ?_)
  · rw [if_neg h3] at hF
    refine zw_aload_n C dX3_askOrder_12 0 rfl rfl ?_
    refine zw_get C FX3 0 8 (v := .ref (a 15)) rfl (by decide) lkX3_40 rfl dX3_askOrder_13 ?_
    refine zw_get C FX1 15 1 (v := .ref (a 17)) rfl (by decide) lkX3_172 rfl dX3_askOrder_16 ?_
    refine zw_iload_n C dX3_askOrder_19 1 rfl rfl ?_
    refine zw_iald C 17 0 (f := O.2.1) (i := p1) rfl rfl (dz_opIn hy1 hon) dX3_askOrder_20 ?_
    refine zw_istore C dX3_askOrder_21 (by decide) rfl ?_
    refine zw_aload_n C dX3_askOrder_23 1 rfl rfl ?_
    refine zw_get C FX3 0 8 (v := .ref (a 15)) rfl (by decide) lkX3_40 rfl dX3_askOrder_24 ?_
    refine zw_get C FX1 15 2 (v := .ref (a 18)) rfl (by decide) lkX3_175 rfl dX3_askOrder_27 ?_
    refine zw_iload_n C dX3_askOrder_30 2 rfl rfl ?_
    refine zw_iald C 18 0 (f := O.2.2.1) (i := p1) rfl rfl (dz_opIn hy1 hon) dX3_askOrder_31 ?_
    refine zw_istore C dX3_askOrder_32 (by decide) rfl ?_
    refine zw_aload_n C dX3_askOrder_34 2 rfl rfl ?_
    refine zw_get C FX3 0 8 (v := .ref (a 15)) rfl (by decide) lkX3_40 rfl dX3_askOrder_35 ?_
    refine zw_get C FX1 15 0 (v := .ref (a 16)) rfl (by decide) lkX3_178 rfl dX3_askOrder_38 ?_
    refine zw_iload_n C dX3_askOrder_41 3 rfl rfl ?_
    refine zw_iald C 16 0 (f := O.1) (i := p1) rfl rfl (dz_opIn hy1 hon) dX3_askOrder_42 ?_
    by_cases h4 : (O.1 p1.toNatClampNeg) = 0
    · rw [if_pos h4] at hF
      refine zw_tableIn C 76 dX3_askOrder_43 (by rw [h4]; decide) (by rw [h4]; decide) (by rw [h4]; rfl) (by decide) ?_
      refine zw_aload_n C dX3_askOrder_76 2 rfl rfl ?_
      refine zw_iload C dX3_askOrder_77 1 rfl ?_
      refine zw_iload_n C dX3_askOrder_79 4 rfl rfl ?_
      obtain ⟨q5, e6⟩ : ∃ z, fS (d.1, d.2.1, q1.2) (O.2.1 p1.toNatClampNeg) p2 = z := ⟨_, rfl⟩
      rw [zw_l_eq e6] at hF
      refine zw_calll C kvX3_106 (HS (d.1, d.2.1, q1.2) (O.2.1 p1.toNatClampNeg) p2 _ (dk_O0 hT hy1 (by assumption)) hy2 e6) ⟨rfl, rfl, ⟨by show 2 * n + 6 + 1 ≤ 2 * (n + 1) + 6; omega, by show 8 + (5 + 11) + (60 * n + 200) ≤ 60 * (n + 1) + 200; omega⟩, Nat.le_refl _, Nat.le_refl _⟩ FX3 0 (As := [.int (O.2.1 p1.toNatClampNeg), .int p2]) (rest := []) rfl rfl rfl (Nat.le_of_ble_eq_true rfl) dX3_askOrder_80 ?_
      refine zw_aload_n C dX3_askOrder_83 2 rfl rfl ?_
      refine zw_iload C dX3_askOrder_84 1 rfl ?_
      refine zw_iload_n C dX3_askOrder_86 5 rfl rfl ?_
      obtain ⟨q7, e8⟩ : ∃ z, fS q5.2 (O.2.1 p1.toNatClampNeg) p3 = z := ⟨_, rfl⟩
      rw [zw_l_eq e8] at hF
      refine zw_calll C kvX3_106 (HS q5.2 (O.2.1 p1.toNatClampNeg) p3 _ (dk_O0 hT hy1 (by assumption)) hy3 e8) ⟨rfl, rfl, ⟨by show 2 * n + 6 + 1 ≤ 2 * (n + 1) + 6; omega, by show 8 + (5 + 11) + (60 * n + 200) ≤ 60 * (n + 1) + 200; omega⟩, Nat.le_refl _, Nat.le_refl _⟩ FX3 0 (As := [.int (O.2.1 p1.toNatClampNeg), .int p3]) (rest := [.long q5.1]) rfl rfl rfl (Nat.le_of_ble_eq_true rfl) dX3_askOrder_87 ?_
      refine zw_scalli C kvX3_210 (kX3_lesserFirst rfl) ⟨rfl, rfl, ⟨by show 0 + 1 ≤ 2 * (n + 1) + 6; omega, by show 8 + (4 + 11) + (0) ≤ 60 * (n + 1) + 200; omega⟩, Nat.le_refl _, Nat.le_refl _⟩ (As := [.long q5.1, .long q7.1]) (rest := []) rfl rfl (Nat.le_of_ble_eq_true rfl) dX3_askOrder_90 ?_
      subst hF
      exact zw_ireturn C hr hlk dX3_askOrder_93 rfl rfl
    rw [if_neg h4] at hF
    by_cases h9 : (O.1 p1.toNatClampNeg) = 1
    · rw [if_pos h9] at hF
      refine zw_tableIn C 94 dX3_askOrder_43 (by rw [h9]; decide) (by rw [h9]; decide) (by rw [h9]; rfl) (by decide) ?_
      refine zw_aload_n C dX3_askOrder_94 2 rfl rfl ?_
      refine zw_iload C dX3_askOrder_95 1 rfl ?_
      refine zw_iload_n C dX3_askOrder_97 4 rfl rfl ?_
      refine zw_iload_n C dX3_askOrder_98 5 rfl rfl ?_
      obtain ⟨q10, e11⟩ : ∃ z, fO (d.1, d.2.1, q1.2) (O.2.1 p1.toNatClampNeg) p2 p3 = z := ⟨_, rfl⟩
      rw [zw_l_eq e11] at hF
      refine zw_calli C kvX3_165 (HO (d.1, d.2.1, q1.2) (O.2.1 p1.toNatClampNeg) p2 p3 _ (dk_O1 hT hy1 (by assumption)) hy2 hy3 e11) ⟨rfl, rfl, ⟨by show 2 * n + 6 + 1 ≤ 2 * (n + 1) + 6; omega, by show 8 + (6 + 11) + (60 * n + 200) ≤ 60 * (n + 1) + 200; omega⟩, Nat.le_refl _, Nat.le_refl _⟩ FX3 0 (As := [.int (O.2.1 p1.toNatClampNeg), .int p2, .int p3]) (rest := []) rfl rfl rfl (Nat.le_of_ble_eq_true rfl) dX3_askOrder_99 ?_
      refine zw_ineg C dX3_askOrder_102 ?_
      subst hF
      exact zw_ireturn C hr hlk dX3_askOrder_103 rfl rfl
    rw [if_neg h9] at hF
    by_cases h12 : (O.1 p1.toNatClampNeg) = 2
    · rw [if_pos h12] at hF
      refine zw_tableIn C 104 dX3_askOrder_43 (by rw [h12]; decide) (by rw [h12]; decide) (by rw [h12]; rfl) (by decide) ?_
      refine zw_aload_n C dX3_askOrder_104 2 rfl rfl ?_
      refine zw_iload C dX3_askOrder_105 1 rfl ?_
      refine zw_iload C dX3_askOrder_107 0 rfl ?_
      refine zw_iload_n C dX3_askOrder_109 4 rfl rfl ?_
      refine zw_iload_n C dX3_askOrder_110 5 rfl rfl ?_
      obtain ⟨q13, e14⟩ : ∃ z, bH fO (d.1, d.2.1, q1.2) (O.2.1 p1.toNatClampNeg) (O.2.2.1 p1.toNatClampNeg) p2 p3 = z := ⟨_, rfl⟩
      rw [zw_l_eq e14] at hF
      refine zw_calli C kvX3_214 (kbH HO (d.1, d.2.1, q1.2) (O.2.1 p1.toNatClampNeg) (O.2.2.1 p1.toNatClampNeg) p2 p3 _ (dk_O2 hT hy1 (by assumption)).1 (dk_O2 hT hy1 (by assumption)).2 hy2 hy3 e14) ⟨rfl, rfl, ⟨by show 2 * n + 7 + 1 ≤ 2 * (n + 1) + 6; omega, by show 8 + (6 + 11) + (60 * n + 230) ≤ 60 * (n + 1) + 200; omega⟩, Nat.le_refl _, Nat.le_refl _⟩ FX3 0 (As := [.int (O.2.1 p1.toNatClampNeg), .int (O.2.2.1 p1.toNatClampNeg), .int p2, .int p3]) (rest := []) rfl rfl rfl (Nat.le_of_ble_eq_true rfl) dX3_askOrder_111 ?_
      subst hF
      exact zw_ireturn C hr hlk dX3_askOrder_114 rfl rfl
    rw [if_neg h12] at hF
    by_cases h15 : (O.1 p1.toNatClampNeg) = 3
    · rw [if_pos h15] at hF
      refine zw_tableIn C 115 dX3_askOrder_43 (by rw [h15]; decide) (by rw [h15]; decide) (by rw [h15]; rfl) (by decide) ?_
      refine zw_aload_n C dX3_askOrder_115 2 rfl rfl ?_
      refine zw_iload C dX3_askOrder_116 1 rfl ?_
      refine zw_iload_n C dX3_askOrder_118 4 rfl rfl ?_
      obtain ⟨q16, e17⟩ : ∃ z, bR fV (d.1, d.2.1, q1.2) (O.2.1 p1.toNatClampNeg) p2 = z := ⟨_, rfl⟩
      rw [zw_l_eq e17] at hF
      refine zw_calli C kvX3_218 (kbR HV (d.1, d.2.1, q1.2) (O.2.1 p1.toNatClampNeg) p2 _ (dk_O3 hT hy1 (by assumption)) hy2 e17) ⟨rfl, rfl, ⟨by show 2 * n + 7 + 1 ≤ 2 * (n + 1) + 6; omega, by show 8 + (3 + 11) + (60 * n + 230) ≤ 60 * (n + 1) + 200; omega⟩, Nat.le_refl _, Nat.le_refl _⟩ FX3 0 (As := [.int (O.2.1 p1.toNatClampNeg), .int p2]) (rest := []) rfl rfl rfl (Nat.le_of_ble_eq_true rfl) dX3_askOrder_119 ?_
      refine zw_i2l C dX3_askOrder_122 ?_
      refine zw_aload_n C dX3_askOrder_123 2 rfl rfl ?_
      refine zw_iload C dX3_askOrder_124 1 rfl ?_
      refine zw_iload_n C dX3_askOrder_126 5 rfl rfl ?_
      obtain ⟨q18, e19⟩ : ∃ z, bR fV q16.2 (O.2.1 p1.toNatClampNeg) p3 = z := ⟨_, rfl⟩
      rw [zw_l_eq e19] at hF
      refine zw_calli C kvX3_218 (kbR HV q16.2 (O.2.1 p1.toNatClampNeg) p3 _ (dk_O3 hT hy1 (by assumption)) hy3 e19) ⟨rfl, rfl, ⟨by show 2 * n + 7 + 1 ≤ 2 * (n + 1) + 6; omega, by show 8 + (3 + 11) + (60 * n + 230) ≤ 60 * (n + 1) + 200; omega⟩, Nat.le_refl _, Nat.le_refl _⟩ FX3 0 (As := [.int (O.2.1 p1.toNatClampNeg), .int p3]) (rest := [.long q16.1.toInt64]) rfl rfl rfl (Nat.le_of_ble_eq_true rfl) dX3_askOrder_127 ?_
      refine zw_i2l C dX3_askOrder_130 ?_
      refine zw_scalli C kvX3_210 (kX3_lesserFirst rfl) ⟨rfl, rfl, ⟨by show 0 + 1 ≤ 2 * (n + 1) + 6; omega, by show 8 + (4 + 11) + (0) ≤ 60 * (n + 1) + 200; omega⟩, Nat.le_refl _, Nat.le_refl _⟩ (As := [.long q16.1.toInt64, .long q18.1.toInt64]) (rest := []) rfl rfl (Nat.le_of_ble_eq_true rfl) dX3_askOrder_131 ?_
      subst hF
      exact zw_ireturn C hr hlk dX3_askOrder_134 rfl rfl
    rw [if_neg h15] at hF
    by_cases h20 : (O.1 p1.toNatClampNeg) = 4
    · rw [if_pos h20] at hF
      refine zw_tableIn C 135 dX3_askOrder_43 (by rw [h20]; decide) (by rw [h20]; decide) (by rw [h20]; rfl) (by decide) ?_
      refine zw_iload_n C dX3_askOrder_135 4 rfl rfl ?_
      refine zw_i2l C dX3_askOrder_136 ?_
      refine zw_iload_n C dX3_askOrder_137 5 rfl rfl ?_
      refine zw_i2l C dX3_askOrder_138 ?_
      refine zw_scalli C kvX3_210 (kX3_lesserFirst rfl) ⟨rfl, rfl, ⟨by show 0 + 1 ≤ 2 * (n + 1) + 6; omega, by show 8 + (4 + 11) + (0) ≤ 60 * (n + 1) + 200; omega⟩, Nat.le_refl _, Nat.le_refl _⟩ (As := [.long p2.toInt64, .long p3.toInt64]) (rest := []) rfl rfl (Nat.le_of_ble_eq_true rfl) dX3_askOrder_139 ?_
      subst hF
      exact zw_ireturn C hr hlk dX3_askOrder_142 rfl rfl
    rw [if_neg h20] at hF
    refine zw_tableOut C 143 dX3_askOrder_43 (zw_tout (n := 4) (by decide) (fun k hk => by match k, hk with | 0, _ => exact h4 | 1, _ => exact h9 | 2, _ => exact h12 | 3, _ => exact h15 | 4, _ => exact h20 | k + 5, hk => exact absurd hk (by omega))) (by decide) ?_
    refine zw_aload_n C dX3_askOrder_143 2 rfl rfl ?_
    refine zw_get C FX3 0 11 (v := .ref (a 30)) rfl (by decide) lkX3_56 rfl dX3_askOrder_144 ?_
    refine zw_iconst C (v := 3) dX3_askOrder_147 (by decide) ?_
    obtain ⟨q21, e22⟩ : ∃ z, fX2_fail q1.2 3 = z := ⟨_, rfl⟩
    rw [zw_l_eq e22] at hF
    refine zw_callv C kvX3_201 (kX2_fail e22) ⟨rfl, rfl, ⟨by show 1 + 1 ≤ 2 * (n + 1) + 6; omega, by show 8 + (2 + 11) + (20) ≤ 60 * (n + 1) + 200; omega⟩, Nat.le_refl _, Nat.le_refl _⟩ FX2 30 (As := [.int 3]) (rest := []) rfl rfl rfl (Nat.le_of_ble_eq_true rfl) dX3_askOrder_148 ?_
    refine zw_iconst C (v := 0) dX3_askOrder_151 (by decide) ?_
    subst hF
    exact zw_ireturn C hr hlk dX3_askOrder_152 rfl rfl
  · rw [if_pos h3] at hF
    refine zw_iconst C (v := 0) dX3_askOrder_10 (by decide) ?_
    subst hF
    exact zw_ireturn C hr hlk dX3_askOrder_11 rfl rfl
end
section
/-! the askings by their ranks; every one that is made may be asked -/
def zA (ce rw : Nat → Int64) (sk sa sb vk va vb : Nat → Int32) : Nat → dFS × dFV
  | 0 => (fun d _ _ => (0, d), fun d _ _ => (0, d))
  | n + 1 => (bS (zA ce rw sk sa sb vk va vb n).1 (zA ce rw sk sa sb vk va vb n).2 ce rw sk sa sb, bV (zA ce rw sk sa sb vk va vb n).1 (zA ce rw sk sa sb vk va vb n).2 vk va vb)
def zO (ce rw : Nat → Int64) (sk sa sb vk va vb ok oa ob : Nat → Int32) : Nat → dFO
  | 0 => fun d _ _ _ => (0, d)
  | n + 1 => bO (zA ce rw sk sa sb vk va vb n).1 (zA ce rw sk sa sb vk va vb n).2 (zO ce rw sk sa sb vk va vb ok oa ob n) ok oa ob
/-- how many are made, and of what -/
def dz_K (S : dS) (V : dV) (O : dO) (sn vn on : Nat) (rs rv ro : Nat → Nat) : Prop := sn ≤ 24 ∧ vn ≤ 24 ∧ on ≤ 24 ∧ S.2.2.2.2 = nI sn ∧ V.2.2.2.2 = nI vn ∧ O.2.2.2.2 = nI on ∧ dz_tab S V O sn vn on rs rv ro ∧ (∀ i, i < sn → rs i < sn + vn + on) ∧ (∀ i, i < vn → rv i < sn + vn + on) ∧ (∀ i, i < on → ro i < sn + vn + on)
section ZA
variable {l : Launch} {D : va_G} {cI cL : ClassId} {a : Nat → Nat} {B : dB} {S : dS} {V : dV} {O : dO} {G : dG} {F : dF} {sn vn on tn : Nat} {rs rv ro : Nat → Nat}
theorem kA (hK : dz_K S V O sn vn on rs rv ro) (htn : tn ≤ 40) : ∀ n : Nat, CS l D cI cL a B S V O G F (dz_rm n) (dz_op sn rs n) (fun t => vp_in t tn) (zA B.2.2.2.1 B.2.2.2.2.1 S.1 S.2.1 S.2.2.1 V.1 V.2.1 V.2.2.1 n).1 ∧ CV l D cI cL a B S V O G F (dz_rm n) (dz_op vn rv n) (fun t => vp_in t tn) (zA B.2.2.2.1 B.2.2.2.2.1 S.1 S.2.1 S.2.2.1 V.1 V.2.1 V.2.2.1 n).2 := by
  intro n
  induction n with
  | zero => exact ⟨fun _ _ _ _ h => absurd h.2 (Nat.not_lt_zero _), fun _ _ _ _ h => absurd h.2 (Nat.not_lt_zero _)⟩
  | succ n ih =>
    obtain ⟨h1, h2, h3, -, -, -, h4, -⟩ := hK
    exact ⟨fun d i t q a1 a2 e => kbS h1 h2 h3 htn h4 ih.1 ih.2 d i t q a1 a2 e, fun d i t q a1 a2 e => kbV h1 h2 h3 htn h4 ih.1 ih.2 d i t q a1 a2 e⟩
theorem kO (hK : dz_K S V O sn vn on rs rv ro) (htn : tn ≤ 40) : ∀ n : Nat, CO l D cI cL a B S V O G F (dz_rm n) (dz_op on ro n) (fun t => vp_in t tn) (zO B.2.2.2.1 B.2.2.2.2.1 S.1 S.2.1 S.2.2.1 V.1 V.2.1 V.2.2.1 O.1 O.2.1 O.2.2.1 n) := by
  intro n
  induction n with
  | zero => exact fun _ _ _ _ _ h => absurd h.2 (Nat.not_lt_zero _)
  | succ n ih =>
    have hA := kA (l := l) (D := D) (cI := cI) (cL := cL) (a := a) (B := B) (G := G) (F := F) hK htn n
    obtain ⟨h1, h2, h3, -, -, -, h4, -⟩ := hK
    exact fun d i x y q a1 a2 a3 e => kbO h1 h2 h3 htn h4 hA.1 hA.2 ih d i x y q a1 a2 a3 e
theorem dz_op73 {sz m : Nat} {r : Nat → Nat} {x : Int32} (h : vp_in x sz) (hr : ∀ i, i < sz → r i < m) (hm : m ≤ 72) : dz_op sz r 73 x := ⟨h, by
  have h2 : x.toNatClampNeg < sz := Nat.lt_of_not_le (fun z => h (Or.inr z))
  have := hr _ h2
  omega⟩
theorem kAS (hK : dz_K S V O sn vn on rs rv ro) (htn : tn ≤ 40) : CS l D cI cL a B S V O G F (dz_rm 73) (fun i => vp_in i sn) (fun t => vp_in t tn) (zA B.2.2.2.1 B.2.2.2.2.1 S.1 S.2.1 S.2.2.1 V.1 V.2.1 V.2.2.1 73).1 := fun d i t q a1 a2 e => (kA hK htn 73).1 d i t q (dz_op73 a1 hK.2.2.2.2.2.2.2.1 (by have := hK.1; have := hK.2.1; have := hK.2.2.1; omega)) a2 e
theorem kAV (hK : dz_K S V O sn vn on rs rv ro) (htn : tn ≤ 40) : CV l D cI cL a B S V O G F (dz_rm 73) (fun i => vp_in i vn) (fun t => vp_in t tn) (zA B.2.2.2.1 B.2.2.2.2.1 S.1 S.2.1 S.2.2.1 V.1 V.2.1 V.2.2.1 73).2 := fun d i t q a1 a2 e => (kA hK htn 73).2 d i t q (dz_op73 a1 hK.2.2.2.2.2.2.2.2.1 (by have := hK.1; have := hK.2.1; have := hK.2.2.1; omega)) a2 e
theorem kAO (hK : dz_K S V O sn vn on rs rv ro) (htn : tn ≤ 40) : CO l D cI cL a B S V O G F (dz_rm 73) (fun i => vp_in i on) (fun t => vp_in t tn) (zO B.2.2.2.1 B.2.2.2.2.1 S.1 S.2.1 S.2.2.1 V.1 V.2.1 V.2.2.1 O.1 O.2.1 O.2.2.1 73) := fun d i x y q a1 a2 a3 e => kO hK htn 73 d i x y q (dz_op73 a1 hK.2.2.2.2.2.2.2.2.2 (by have := hK.1; have := hK.2.1; have := hK.2.2.1; omega)) a2 a3 e
end ZA
end
section
theorem dz_hasIn {S : dS} {x : Int32} {n : Nat} (h : ¬ fX1_has S x = 0) (hs : S.2.2.2.2 = nI n) (hn : n ≤ 24) : vp_in x n := by
  obtain ⟨j, hj, rfl⟩ := dz_has h hs
  exact vp_in_nI hj (by omega)
theorem dz_thingIn {B : dB} {x : Int32} {n : Nat} (h : ¬ fX3_isThing B x = 0) (hs : B.1 = nI n) (hn : n ≤ 40) : vp_in x n := by
  obtain ⟨j, hj, rfl⟩ := dz_isThing h hs
  exact vp_in_nI hj (by omega)
theorem dz_lk {B : dB} {nt k i : Nat} {x : Int32} (hB : dz_B B nt k) (e : x = nI i) (h : ¬ B.2.1 ≤ x) (hi : i ≤ k) : i < k := by
  rcases Nat.lt_or_ge i k with h1 | h1
  · exact h1
  · exact absurd (by rw [hB.2.2.2.1, e]; exact nI_le h1 (by have := hB.1; have := hB.2.1; omega)) h
theorem dz_ixl {B : dB} {nt k i : Nat} {x : Int32} (hB : dz_B B nt k) (e : x = nI i) (hi : i ≤ k) (h : ¬ B.2.1 ≤ x) : vp_in x 40 := by
  have := dz_lk hB e h hi
  rw [e]; exact vp_in_nI (by have := hB.1; have := hB.2.1; omega) (by decide)
theorem dz_ixd {B : dB} {nt k i j : Nat} {x y : Int32} (hB : dz_B B nt k) (e : x = nI i) (hi : i ≤ k) (h : ¬ B.2.1 ≤ x) (ey : y = nI j) (hj : j ≤ i) : vp_in y 40 := by
  have := dz_lk hB e h hi
  rw [ey]; exact vp_in_nI (by have := hB.1; have := hB.2.1; omega) (by decide)
theorem dz_li {B : dB} {nt k i : Nat} {x : Int32} (hB : dz_B B nt k) (e : x = nI i) (hi : i ≤ k) (h : ¬ B.2.1 ≤ x) : vp_in (B.2.2.2.2.2.1 x.toNatClampNeg) nt := by
  have h2 := dz_lk hB e h hi
  rw [e, nI_clamp (by have := hB.1; have := hB.2.1; omega)]
  obtain ⟨t, ht, e2⟩ := hB.2.2.2.2 i h2
  rw [e2]; exact vp_in_nI ht (by have := hB.1; omega)
theorem dz_cp {x : Int32} (h : zw_le x 40) : (¬ x < 0) ∧ (0 : Int32).toNatClampNeg + x.toNatClampNeg ≤ 40 ∧ (0 : Int32).toNatClampNeg + x.toNatClampNeg ≤ 40 := by
  obtain ⟨n, hn, rfl⟩ := h
  have e : (nI n).toNatClampNeg = n := nI_clamp (by omega)
  refine ⟨nI_pos (by omega), ?_, ?_⟩ <;> (rw [e, show (0 : Int32).toNatClampNeg = 0 from rfl]; omega)
theorem dz_notFull {S : dS} {n : Nat} (h : fX1_isFull S = 0) (hs : S.2.2.2.2 = nI n) (hn : n ≤ 24) : n < 24 ∧ vp_in S.2.2.2.2 24 := by
  have h2 : n < 24 := by
    unfold fX1_isFull at h
    rw [hs] at h
    rcases Nat.lt_or_ge n 24 with h3 | h3
    · exact h3
    · have : n = 24 := by omega
      subst this
      exact absurd h (by decide)
  exact ⟨h2, by rw [hs]; exact vp_in_nI h2 (by decide)⟩
theorem bb_fX3_isColumn {x : Int32} : fX3_isColumn x = 0 ∨ fX3_isColumn x = 1 := by unfold fX3_isColumn; (repeat' split) <;> first | exact Or.inl rfl | exact Or.inr rfl
theorem bb_fX3_isPlaceOfRow {x : Int64} : fX3_isPlaceOfRow x = 0 ∨ fX3_isPlaceOfRow x = 1 := by unfold fX3_isPlaceOfRow; (repeat' split) <;> first | exact Or.inl rfl | exact Or.inr rfl
theorem bb_fX1_has {S : dS} {x : Int32} : fX1_has S x = 0 ∨ fX1_has S x = 1 := by unfold fX1_has; (repeat' split) <;> first | exact Or.inl rfl | exact Or.inr rfl
theorem dz_pred {x : Int32} {i : Nat} (e : x = nI i) (hi : i < 2 ^ 31) (h : ¬ x ≤ 0) : ∃ m : Nat, i = m + 1 ∧ x - 1 = nI m ∧ x + (-1) = nI m := by
  cases i with
  | zero => subst e; exact absurd (by decide) h
  | succ m => exact ⟨m, rfl, by rw [e]; exact nI_pred m, by rw [e]; exact pk_m1 m⟩
end
section
def fX3_canMakeScale (B : dB) (S : dS) (V : dV) (p1 : Int32) (p2 : Int32) (p3 : Int32) : Int32 := (if p1 = 0 then fX3_isColumn p2 else (if p1 = 1 then 1 else (if p1 = 2 then (if (fX1_has S p2) = 0 then 0 else (if (fX1_has S p3) = 0 then 0 else 1)) else (if p1 = 3 then (if (fX1_has S p2) = 0 then 0 else (if (fX1_has S p3) = 0 then 0 else 1)) else (if p1 = 4 then (if (fX1_has S p2) = 0 then 0 else (if (fX1_has S p3) = 0 then 0 else 1)) else (if p1 = 5 then (if (fX1_has S p2) = 0 then 0 else (if (fX1_has S p3) = 0 then 0 else 1)) else (if p1 = 6 then (if (fX1_has V p2) = 0 then 0 else (if (fX1_has S p3) = 0 then 0 else 1)) else (if p1 = 7 then fX1_has S p2 else (if p1 = 8 then fX3_isPlaceOfRow p2.toInt64 else (if p1 = 9 then (if (fX1_has S p2) = 0 then 0 else (if (fX3_isThing B p3) = 0 then 0 else 1)) else (if p1 = 10 then 1 else (if p1 = 11 then 1 else 0))))))))))))
set_option maxHeartbeats 4000000 in
set_option maxRecDepth 100000 in
theorem kX3_canMakeScale {l : Launch} {D : va_G} {cI cL : ClassId} {a : Nat → Nat} {B : dB} {S : dS} {V : dV} {O : dO} {G : dG} {F : dF} {T : dT} {p1 : Int32} {p2 : Int32} {p3 : Int32} {q : Int32} (hF : fX3_canMakeScale B S V p1 p2 p3 = q) : zw_Mi l yX3_canMakeScale cX3_canMakeScale 4 .boolean D (zw_tys cI cL) (zw_rm 1 21) [.ref (a 0), .int p1, .int p2, .int p3] (wD cI cL a B S V O G F T) (wD cI cL a B S V O G F T) q := by
  unfold fX3_canMakeScale at hF
  refine zw_Mi_of (own := RX3) (by decide) rfl (Nat.le_of_ble_eq_true rfl) ?_
  intro p e s m args below meth c A C hr hlk
  refine zw_eq (lv2 := [(0, .ref (a 0)), (1, .int p1), (2, .int p2), (3, .int p3)]) rfl rfl rfl ?_
  refine zw_iload_n C dX3_canMakeScale_0 1 rfl rfl ?_
  by_cases h1 : p1 = 0
  · rw [if_pos h1] at hF
    refine zw_tableIn C 64 dX3_canMakeScale_1 (by rw [h1]; decide) (by rw [h1]; decide) (by rw [h1]; rfl) (by decide) ?_
    refine zw_iload_n C dX3_canMakeScale_64 2 rfl rfl ?_
    refine zw_scalli C kvX3_72 (kX3_isColumn rfl) ⟨rfl, rfl, ⟨by decide, by decide⟩, by decide, by decide⟩ (As := [.int p2]) (rest := []) rfl rfl (Nat.le_of_ble_eq_true rfl) dX3_canMakeScale_65 ?_
    subst hF
    exact zw_zreturn C hr hlk (zw_nb bb_fX3_isColumn) dX3_canMakeScale_68 rfl rfl
  rw [if_neg h1] at hF
  by_cases h2 : p1 = 1
  · rw [if_pos h2] at hF
    refine zw_tableIn C 165 dX3_canMakeScale_1 (by rw [h2]; decide) (by rw [h2]; decide) (by rw [h2]; rfl) (by decide) ?_
    refine zw_iconst C (v := 1) dX3_canMakeScale_165 (by decide) ?_
    subst hF
    exact zw_zreturn C hr hlk rfl dX3_canMakeScale_166 rfl rfl
  rw [if_neg h2] at hF
  by_cases h3 : p1 = 2
  · rw [if_pos h3] at hF
    refine zw_tableIn C 69 dX3_canMakeScale_1 (by rw [h3]; decide) (by rw [h3]; decide) (by rw [h3]; rfl) (by decide) ?_
    refine zw_aload_n C dX3_canMakeScale_69 0 rfl rfl ?_
    refine zw_get C FX3 0 6 (v := .ref (a 5)) rfl (by decide) lkX3_33 rfl dX3_canMakeScale_70 ?_
    refine zw_iload_n C dX3_canMakeScale_73 2 rfl rfl ?_
    refine zw_calli C kvX3_100 (kX1_has_S rfl) ⟨rfl, rfl, ⟨by decide, by decide⟩, by decide, by decide⟩ FX1 5 (As := [.int p2]) (rest := []) rfl rfl rfl (Nat.le_of_ble_eq_true rfl) dX3_canMakeScale_74 ?_
    refine zw_if_eq C 95 dX3_canMakeScale_77 (by decide) (fun h4 => ?_) (fun h4 => ?_)
    · rw [if_pos h4] at hF
      refine zw_iconst C (v := 0) dX3_canMakeScale_95 (by decide) ?_
      subst hF
      exact zw_zreturn C hr hlk rfl dX3_canMakeScale_96 rfl rfl
    · rw [if_neg h4] at hF
      refine zw_aload_n C dX3_canMakeScale_80 0 rfl rfl ?_
      refine zw_get C FX3 0 6 (v := .ref (a 5)) rfl (by decide) lkX3_33 rfl dX3_canMakeScale_81 ?_
      refine zw_iload_n C dX3_canMakeScale_84 3 rfl rfl ?_
      refine zw_calli C kvX3_100 (kX1_has_S rfl) ⟨rfl, rfl, ⟨by decide, by decide⟩, by decide, by decide⟩ FX1 5 (As := [.int p3]) (rest := []) rfl rfl rfl (Nat.le_of_ble_eq_true rfl) dX3_canMakeScale_85 ?_
      refine zw_if_eq C 95 dX3_canMakeScale_88 (by decide) (fun h5 => ?_) (fun h5 => ?_)
      · rw [if_pos h5] at hF
        refine zw_iconst C (v := 0) dX3_canMakeScale_95 (by decide) ?_
        subst hF
        exact zw_zreturn C hr hlk rfl dX3_canMakeScale_96 rfl rfl
      · rw [if_neg h5] at hF
        refine zw_iconst C (v := 1) dX3_canMakeScale_91 (by decide) ?_
        refine zw_goto C 96 dX3_canMakeScale_92 (by decide) ?_
        subst hF
        exact zw_zreturn C hr hlk rfl dX3_canMakeScale_96 rfl rfl
  rw [if_neg h3] at hF
  by_cases h6 : p1 = 3
  · rw [if_pos h6] at hF
    refine zw_tableIn C 69 dX3_canMakeScale_1 (by rw [h6]; decide) (by rw [h6]; decide) (by rw [h6]; rfl) (by decide) ?_
    refine zw_aload_n C dX3_canMakeScale_69 0 rfl rfl ?_
    refine zw_get C FX3 0 6 (v := .ref (a 5)) rfl (by decide) lkX3_33 rfl dX3_canMakeScale_70 ?_
    refine zw_iload_n C dX3_canMakeScale_73 2 rfl rfl ?_
    refine zw_calli C kvX3_100 (kX1_has_S rfl) ⟨rfl, rfl, ⟨by decide, by decide⟩, by decide, by decide⟩ FX1 5 (As := [.int p2]) (rest := []) rfl rfl rfl (Nat.le_of_ble_eq_true rfl) dX3_canMakeScale_74 ?_
    refine zw_if_eq C 95 dX3_canMakeScale_77 (by decide) (fun h7 => ?_) (fun h7 => ?_)
    · rw [if_pos h7] at hF
      refine zw_iconst C (v := 0) dX3_canMakeScale_95 (by decide) ?_
      subst hF
      exact zw_zreturn C hr hlk rfl dX3_canMakeScale_96 rfl rfl
    · rw [if_neg h7] at hF
      refine zw_aload_n C dX3_canMakeScale_80 0 rfl rfl ?_
      refine zw_get C FX3 0 6 (v := .ref (a 5)) rfl (by decide) lkX3_33 rfl dX3_canMakeScale_81 ?_
      refine zw_iload_n C dX3_canMakeScale_84 3 rfl rfl ?_
      refine zw_calli C kvX3_100 (kX1_has_S rfl) ⟨rfl, rfl, ⟨by decide, by decide⟩, by decide, by decide⟩ FX1 5 (As := [.int p3]) (rest := []) rfl rfl rfl (Nat.le_of_ble_eq_true rfl) dX3_canMakeScale_85 ?_
      refine zw_if_eq C 95 dX3_canMakeScale_88 (by decide) (fun h8 => ?_) (fun h8 => ?_)
      · rw [if_pos h8] at hF
        refine zw_iconst C (v := 0) dX3_canMakeScale_95 (by decide) ?_
        subst hF
        exact zw_zreturn C hr hlk rfl dX3_canMakeScale_96 rfl rfl
      · rw [if_neg h8] at hF
        refine zw_iconst C (v := 1) dX3_canMakeScale_91 (by decide) ?_
        refine zw_goto C 96 dX3_canMakeScale_92 (by decide) ?_
        subst hF
        exact zw_zreturn C hr hlk rfl dX3_canMakeScale_96 rfl rfl
  rw [if_neg h6] at hF
  by_cases h9 : p1 = 4
  · rw [if_pos h9] at hF
    refine zw_tableIn C 69 dX3_canMakeScale_1 (by rw [h9]; decide) (by rw [h9]; decide) (by rw [h9]; rfl) (by decide) ?_
    refine zw_aload_n C dX3_canMakeScale_69 0 rfl rfl ?_
    refine zw_get C FX3 0 6 (v := .ref (a 5)) rfl (by decide) lkX3_33 rfl dX3_canMakeScale_70 ?_
    refine zw_iload_n C dX3_canMakeScale_73 2 rfl rfl ?_
    refine zw_calli C kvX3_100 (kX1_has_S rfl) ⟨rfl, rfl, ⟨by decide, by decide⟩, by decide, by decide⟩ FX1 5 (As := [.int p2]) (rest := []) rfl rfl rfl (Nat.le_of_ble_eq_true rfl) dX3_canMakeScale_74 ?_
    refine zw_if_eq C 95 dX3_canMakeScale_77 (by decide) (fun h10 => ?_) (fun h10 => ?_)
    · rw [if_pos h10] at hF
      refine zw_iconst C (v := 0) dX3_canMakeScale_95 (by decide) ?_
      subst hF
      exact zw_zreturn C hr hlk rfl dX3_canMakeScale_96 rfl rfl
    · rw [if_neg h10] at hF
      refine zw_aload_n C dX3_canMakeScale_80 0 rfl rfl ?_
      refine zw_get C FX3 0 6 (v := .ref (a 5)) rfl (by decide) lkX3_33 rfl dX3_canMakeScale_81 ?_
      refine zw_iload_n C dX3_canMakeScale_84 3 rfl rfl ?_
      refine zw_calli C kvX3_100 (kX1_has_S rfl) ⟨rfl, rfl, ⟨by decide, by decide⟩, by decide, by decide⟩ FX1 5 (As := [.int p3]) (rest := []) rfl rfl rfl (Nat.le_of_ble_eq_true rfl) dX3_canMakeScale_85 ?_
      refine zw_if_eq C 95 dX3_canMakeScale_88 (by decide) (fun h11 => ?_) (fun h11 => ?_)
      · rw [if_pos h11] at hF
        refine zw_iconst C (v := 0) dX3_canMakeScale_95 (by decide) ?_
        subst hF
        exact zw_zreturn C hr hlk rfl dX3_canMakeScale_96 rfl rfl
      · rw [if_neg h11] at hF
        refine zw_iconst C (v := 1) dX3_canMakeScale_91 (by decide) ?_
        refine zw_goto C 96 dX3_canMakeScale_92 (by decide) ?_
        subst hF
        exact zw_zreturn C hr hlk rfl dX3_canMakeScale_96 rfl rfl
  rw [if_neg h9] at hF
  by_cases h12 : p1 = 5
  · rw [if_pos h12] at hF
    refine zw_tableIn C 69 dX3_canMakeScale_1 (by rw [h12]; decide) (by rw [h12]; decide) (by rw [h12]; rfl) (by decide) ?_
    refine zw_aload_n C dX3_canMakeScale_69 0 rfl rfl ?_
    refine zw_get C FX3 0 6 (v := .ref (a 5)) rfl (by decide) lkX3_33 rfl dX3_canMakeScale_70 ?_
    refine zw_iload_n C dX3_canMakeScale_73 2 rfl rfl ?_
    refine zw_calli C kvX3_100 (kX1_has_S rfl) ⟨rfl, rfl, ⟨by decide, by decide⟩, by decide, by decide⟩ FX1 5 (As := [.int p2]) (rest := []) rfl rfl rfl (Nat.le_of_ble_eq_true rfl) dX3_canMakeScale_74 ?_
    refine zw_if_eq C 95 dX3_canMakeScale_77 (by decide) (fun h13 => ?_) (fun h13 => ?_)
    · rw [if_pos h13] at hF
      refine zw_iconst C (v := 0) dX3_canMakeScale_95 (by decide) ?_
      subst hF
      exact zw_zreturn C hr hlk rfl dX3_canMakeScale_96 rfl rfl
    · rw [if_neg h13] at hF
      refine zw_aload_n C dX3_canMakeScale_80 0 rfl rfl ?_
      refine zw_get C FX3 0 6 (v := .ref (a 5)) rfl (by decide) lkX3_33 rfl dX3_canMakeScale_81 ?_
      refine zw_iload_n C dX3_canMakeScale_84 3 rfl rfl ?_
      refine zw_calli C kvX3_100 (kX1_has_S rfl) ⟨rfl, rfl, ⟨by decide, by decide⟩, by decide, by decide⟩ FX1 5 (As := [.int p3]) (rest := []) rfl rfl rfl (Nat.le_of_ble_eq_true rfl) dX3_canMakeScale_85 ?_
      refine zw_if_eq C 95 dX3_canMakeScale_88 (by decide) (fun h14 => ?_) (fun h14 => ?_)
      · rw [if_pos h14] at hF
        refine zw_iconst C (v := 0) dX3_canMakeScale_95 (by decide) ?_
        subst hF
        exact zw_zreturn C hr hlk rfl dX3_canMakeScale_96 rfl rfl
      · rw [if_neg h14] at hF
        refine zw_iconst C (v := 1) dX3_canMakeScale_91 (by decide) ?_
        refine zw_goto C 96 dX3_canMakeScale_92 (by decide) ?_
        subst hF
        exact zw_zreturn C hr hlk rfl dX3_canMakeScale_96 rfl rfl
  rw [if_neg h12] at hF
  by_cases h15 : p1 = 6
  · rw [if_pos h15] at hF
    refine zw_tableIn C 97 dX3_canMakeScale_1 (by rw [h15]; decide) (by rw [h15]; decide) (by rw [h15]; rfl) (by decide) ?_
    refine zw_aload_n C dX3_canMakeScale_97 0 rfl rfl ?_
    refine zw_get C FX3 0 7 (v := .ref (a 10)) rfl (by decide) lkX3_37 rfl dX3_canMakeScale_98 ?_
    refine zw_iload_n C dX3_canMakeScale_101 2 rfl rfl ?_
    refine zw_calli C kvX3_100 (kX1_has_V rfl) ⟨rfl, rfl, ⟨by decide, by decide⟩, by decide, by decide⟩ FX1 10 (As := [.int p2]) (rest := []) rfl rfl rfl (Nat.le_of_ble_eq_true rfl) dX3_canMakeScale_102 ?_
    refine zw_if_eq C 123 dX3_canMakeScale_105 (by decide) (fun h16 => ?_) (fun h16 => ?_)
    · rw [if_pos h16] at hF
      refine zw_iconst C (v := 0) dX3_canMakeScale_123 (by decide) ?_
      subst hF
      exact zw_zreturn C hr hlk rfl dX3_canMakeScale_124 rfl rfl
    · rw [if_neg h16] at hF
      refine zw_aload_n C dX3_canMakeScale_108 0 rfl rfl ?_
      refine zw_get C FX3 0 6 (v := .ref (a 5)) rfl (by decide) lkX3_33 rfl dX3_canMakeScale_109 ?_
      refine zw_iload_n C dX3_canMakeScale_112 3 rfl rfl ?_
      refine zw_calli C kvX3_100 (kX1_has_S rfl) ⟨rfl, rfl, ⟨by decide, by decide⟩, by decide, by decide⟩ FX1 5 (As := [.int p3]) (rest := []) rfl rfl rfl (Nat.le_of_ble_eq_true rfl) dX3_canMakeScale_113 ?_
      refine zw_if_eq C 123 dX3_canMakeScale_116 (by decide) (fun h17 => ?_) (fun h17 => ?_)
      · rw [if_pos h17] at hF
        refine zw_iconst C (v := 0) dX3_canMakeScale_123 (by decide) ?_
        subst hF
        exact zw_zreturn C hr hlk rfl dX3_canMakeScale_124 rfl rfl
      · rw [if_neg h17] at hF
        refine zw_iconst C (v := 1) dX3_canMakeScale_119 (by decide) ?_
        refine zw_goto C 124 dX3_canMakeScale_120 (by decide) ?_
        subst hF
        exact zw_zreturn C hr hlk rfl dX3_canMakeScale_124 rfl rfl
  rw [if_neg h15] at hF
  by_cases h18 : p1 = 7
  · rw [if_pos h18] at hF
    refine zw_tableIn C 125 dX3_canMakeScale_1 (by rw [h18]; decide) (by rw [h18]; decide) (by rw [h18]; rfl) (by decide) ?_
    refine zw_aload_n C dX3_canMakeScale_125 0 rfl rfl ?_
    refine zw_get C FX3 0 6 (v := .ref (a 5)) rfl (by decide) lkX3_33 rfl dX3_canMakeScale_126 ?_
    refine zw_iload_n C dX3_canMakeScale_129 2 rfl rfl ?_
    refine zw_calli C kvX3_100 (kX1_has_S rfl) ⟨rfl, rfl, ⟨by decide, by decide⟩, by decide, by decide⟩ FX1 5 (As := [.int p2]) (rest := []) rfl rfl rfl (Nat.le_of_ble_eq_true rfl) dX3_canMakeScale_130 ?_
    subst hF
    exact zw_zreturn C hr hlk (zw_nb bb_fX1_has) dX3_canMakeScale_133 rfl rfl
  rw [if_neg h18] at hF
  by_cases h19 : p1 = 8
  · rw [if_pos h19] at hF
    refine zw_tableIn C 134 dX3_canMakeScale_1 (by rw [h19]; decide) (by rw [h19]; decide) (by rw [h19]; rfl) (by decide) ?_
    refine zw_iload_n C dX3_canMakeScale_134 2 rfl rfl ?_
    refine zw_i2l C dX3_canMakeScale_135 ?_
    refine zw_scalli C kvX3_75 (kX3_isPlaceOfRow rfl) ⟨rfl, rfl, ⟨by decide, by decide⟩, by decide, by decide⟩ (As := [.long p2.toInt64]) (rest := []) rfl rfl (Nat.le_of_ble_eq_true rfl) dX3_canMakeScale_136 ?_
    subst hF
    exact zw_zreturn C hr hlk (zw_nb bb_fX3_isPlaceOfRow) dX3_canMakeScale_139 rfl rfl
  rw [if_neg h19] at hF
  by_cases h20 : p1 = 9
  · rw [if_pos h20] at hF
    refine zw_tableIn C 140 dX3_canMakeScale_1 (by rw [h20]; decide) (by rw [h20]; decide) (by rw [h20]; rfl) (by decide) ?_
    refine zw_aload_n C dX3_canMakeScale_140 0 rfl rfl ?_
    refine zw_get C FX3 0 6 (v := .ref (a 5)) rfl (by decide) lkX3_33 rfl dX3_canMakeScale_141 ?_
    refine zw_iload_n C dX3_canMakeScale_144 2 rfl rfl ?_
    refine zw_calli C kvX3_100 (kX1_has_S rfl) ⟨rfl, rfl, ⟨by decide, by decide⟩, by decide, by decide⟩ FX1 5 (As := [.int p2]) (rest := []) rfl rfl rfl (Nat.le_of_ble_eq_true rfl) dX3_canMakeScale_145 ?_
    refine zw_if_eq C 163 dX3_canMakeScale_148 (by decide) (fun h21 => ?_) (fun h21 => ?_)
    · rw [if_pos h21] at hF
      refine zw_iconst C (v := 0) dX3_canMakeScale_163 (by decide) ?_
      subst hF
      exact zw_zreturn C hr hlk rfl dX3_canMakeScale_164 rfl rfl
    · rw [if_neg h21] at hF
      refine zw_aload_n C dX3_canMakeScale_151 0 rfl rfl ?_
      refine zw_iload_n C dX3_canMakeScale_152 3 rfl rfl ?_
      refine zw_calli C kvX3_68 (kX3_isThing rfl) ⟨rfl, rfl, ⟨by decide, by decide⟩, by decide, by decide⟩ FX3 0 (As := [.int p3]) (rest := []) rfl rfl rfl (Nat.le_of_ble_eq_true rfl) dX3_canMakeScale_153 ?_
      refine zw_if_eq C 163 dX3_canMakeScale_156 (by decide) (fun h22 => ?_) (fun h22 => ?_)
      · rw [if_pos h22] at hF
        refine zw_iconst C (v := 0) dX3_canMakeScale_163 (by decide) ?_
        subst hF
        exact zw_zreturn C hr hlk rfl dX3_canMakeScale_164 rfl rfl
      · rw [if_neg h22] at hF
        refine zw_iconst C (v := 1) dX3_canMakeScale_159 (by decide) ?_
        refine zw_goto C 164 dX3_canMakeScale_160 (by decide) ?_
        subst hF
        exact zw_zreturn C hr hlk rfl dX3_canMakeScale_164 rfl rfl
  rw [if_neg h20] at hF
  by_cases h23 : p1 = 10
  · rw [if_pos h23] at hF
    refine zw_tableIn C 165 dX3_canMakeScale_1 (by rw [h23]; decide) (by rw [h23]; decide) (by rw [h23]; rfl) (by decide) ?_
    refine zw_iconst C (v := 1) dX3_canMakeScale_165 (by decide) ?_
    subst hF
    exact zw_zreturn C hr hlk rfl dX3_canMakeScale_166 rfl rfl
  rw [if_neg h23] at hF
  by_cases h24 : p1 = 11
  · rw [if_pos h24] at hF
    refine zw_tableIn C 165 dX3_canMakeScale_1 (by rw [h24]; decide) (by rw [h24]; decide) (by rw [h24]; rfl) (by decide) ?_
    refine zw_iconst C (v := 1) dX3_canMakeScale_165 (by decide) ?_
    subst hF
    exact zw_zreturn C hr hlk rfl dX3_canMakeScale_166 rfl rfl
  rw [if_neg h24] at hF
  refine zw_tableOut C 167 dX3_canMakeScale_1 (zw_tout (n := 11) (by decide) (fun k hk => by match k, hk with | 0, _ => exact h1 | 1, _ => exact h2 | 2, _ => exact h3 | 3, _ => exact h6 | 4, _ => exact h9 | 5, _ => exact h12 | 6, _ => exact h15 | 7, _ => exact h18 | 8, _ => exact h19 | 9, _ => exact h20 | 10, _ => exact h23 | 11, _ => exact h24 | k + 12, hk => exact absurd hk (by omega))) (by decide) ?_
  refine zw_iconst C (v := 0) dX3_canMakeScale_167 (by decide) ?_
  subst hF
  exact zw_zreturn C hr hlk rfl dX3_canMakeScale_168 rfl rfl
def fX3_canMakeSieve (S : dS) (V : dV) (p1 : Int32) (p2 : Int32) (p3 : Int32) : Int32 := (if p1 = 0 then 1 else (if p1 = 1 then (if (fX1_has S p2) = 0 then 0 else (if (fX1_has S p3) = 0 then 0 else 1)) else (if p1 = 2 then (if (fX1_has S p2) = 0 then 0 else (if (fX1_has S p3) = 0 then 0 else 1)) else (if p1 = 3 then fX1_has V p2 else (if p1 = 4 then (if (fX1_has V p2) = 0 then 0 else (if (fX1_has V p3) = 0 then 0 else 1)) else (if p1 = 5 then (if (fX1_has V p2) = 0 then 0 else (if (fX1_has V p3) = 0 then 0 else 1)) else (if p1 = 6 then 1 else (if p1 = 7 then 1 else (if p1 = 8 then fX1_has V p2 else (if p1 = 9 then 1 else 0))))))))))
set_option maxHeartbeats 4000000 in
set_option maxRecDepth 100000 in
theorem kX3_canMakeSieve {l : Launch} {D : va_G} {cI cL : ClassId} {a : Nat → Nat} {B : dB} {S : dS} {V : dV} {O : dO} {G : dG} {F : dF} {T : dT} {p1 : Int32} {p2 : Int32} {p3 : Int32} {q : Int32} (hF : fX3_canMakeSieve S V p1 p2 p3 = q) : zw_Mi l yX3_canMakeSieve cX3_canMakeSieve 4 .boolean D (zw_tys cI cL) (zw_rm 1 21) [.ref (a 0), .int p1, .int p2, .int p3] (wD cI cL a B S V O G F T) (wD cI cL a B S V O G F T) q := by
  unfold fX3_canMakeSieve at hF
  refine zw_Mi_of (own := RX3) (by decide) rfl (Nat.le_of_ble_eq_true rfl) ?_
  intro p e s m args below meth c A C hr hlk
  refine zw_eq (lv2 := [(0, .ref (a 0)), (1, .int p1), (2, .int p2), (3, .int p3)]) rfl rfl rfl ?_
  refine zw_iload_n C dX3_canMakeSieve_0 1 rfl rfl ?_
  by_cases h1 : p1 = 0
  · rw [if_pos h1] at hF
    refine zw_tableIn C 121 dX3_canMakeSieve_1 (by rw [h1]; decide) (by rw [h1]; decide) (by rw [h1]; rfl) (by decide) ?_
    refine zw_iconst C (v := 1) dX3_canMakeSieve_121 (by decide) ?_
    subst hF
    exact zw_zreturn C hr hlk rfl dX3_canMakeSieve_122 rfl rfl
  rw [if_neg h1] at hF
  by_cases h2 : p1 = 1
  · rw [if_pos h2] at hF
    refine zw_tableIn C 56 dX3_canMakeSieve_1 (by rw [h2]; decide) (by rw [h2]; decide) (by rw [h2]; rfl) (by decide) ?_
    refine zw_aload_n C dX3_canMakeSieve_56 0 rfl rfl ?_
    refine zw_get C FX3 0 6 (v := .ref (a 5)) rfl (by decide) lkX3_33 rfl dX3_canMakeSieve_57 ?_
    refine zw_iload_n C dX3_canMakeSieve_60 2 rfl rfl ?_
    refine zw_calli C kvX3_100 (kX1_has_S rfl) ⟨rfl, rfl, ⟨by decide, by decide⟩, by decide, by decide⟩ FX1 5 (As := [.int p2]) (rest := []) rfl rfl rfl (Nat.le_of_ble_eq_true rfl) dX3_canMakeSieve_61 ?_
    refine zw_if_eq C 82 dX3_canMakeSieve_64 (by decide) (fun h3 => ?_) (fun h3 => ?_)
    · rw [if_pos h3] at hF
      refine zw_iconst C (v := 0) dX3_canMakeSieve_82 (by decide) ?_
      subst hF
      exact zw_zreturn C hr hlk rfl dX3_canMakeSieve_83 rfl rfl
    · rw [if_neg h3] at hF
      refine zw_aload_n C dX3_canMakeSieve_67 0 rfl rfl ?_
      refine zw_get C FX3 0 6 (v := .ref (a 5)) rfl (by decide) lkX3_33 rfl dX3_canMakeSieve_68 ?_
      refine zw_iload_n C dX3_canMakeSieve_71 3 rfl rfl ?_
      refine zw_calli C kvX3_100 (kX1_has_S rfl) ⟨rfl, rfl, ⟨by decide, by decide⟩, by decide, by decide⟩ FX1 5 (As := [.int p3]) (rest := []) rfl rfl rfl (Nat.le_of_ble_eq_true rfl) dX3_canMakeSieve_72 ?_
      refine zw_if_eq C 82 dX3_canMakeSieve_75 (by decide) (fun h4 => ?_) (fun h4 => ?_)
      · rw [if_pos h4] at hF
        refine zw_iconst C (v := 0) dX3_canMakeSieve_82 (by decide) ?_
        subst hF
        exact zw_zreturn C hr hlk rfl dX3_canMakeSieve_83 rfl rfl
      · rw [if_neg h4] at hF
        refine zw_iconst C (v := 1) dX3_canMakeSieve_78 (by decide) ?_
        refine zw_goto C 83 dX3_canMakeSieve_79 (by decide) ?_
        subst hF
        exact zw_zreturn C hr hlk rfl dX3_canMakeSieve_83 rfl rfl
  rw [if_neg h2] at hF
  by_cases h5 : p1 = 2
  · rw [if_pos h5] at hF
    refine zw_tableIn C 56 dX3_canMakeSieve_1 (by rw [h5]; decide) (by rw [h5]; decide) (by rw [h5]; rfl) (by decide) ?_
    refine zw_aload_n C dX3_canMakeSieve_56 0 rfl rfl ?_
    refine zw_get C FX3 0 6 (v := .ref (a 5)) rfl (by decide) lkX3_33 rfl dX3_canMakeSieve_57 ?_
    refine zw_iload_n C dX3_canMakeSieve_60 2 rfl rfl ?_
    refine zw_calli C kvX3_100 (kX1_has_S rfl) ⟨rfl, rfl, ⟨by decide, by decide⟩, by decide, by decide⟩ FX1 5 (As := [.int p2]) (rest := []) rfl rfl rfl (Nat.le_of_ble_eq_true rfl) dX3_canMakeSieve_61 ?_
    refine zw_if_eq C 82 dX3_canMakeSieve_64 (by decide) (fun h6 => ?_) (fun h6 => ?_)
    · rw [if_pos h6] at hF
      refine zw_iconst C (v := 0) dX3_canMakeSieve_82 (by decide) ?_
      subst hF
      exact zw_zreturn C hr hlk rfl dX3_canMakeSieve_83 rfl rfl
    · rw [if_neg h6] at hF
      refine zw_aload_n C dX3_canMakeSieve_67 0 rfl rfl ?_
      refine zw_get C FX3 0 6 (v := .ref (a 5)) rfl (by decide) lkX3_33 rfl dX3_canMakeSieve_68 ?_
      refine zw_iload_n C dX3_canMakeSieve_71 3 rfl rfl ?_
      refine zw_calli C kvX3_100 (kX1_has_S rfl) ⟨rfl, rfl, ⟨by decide, by decide⟩, by decide, by decide⟩ FX1 5 (As := [.int p3]) (rest := []) rfl rfl rfl (Nat.le_of_ble_eq_true rfl) dX3_canMakeSieve_72 ?_
      refine zw_if_eq C 82 dX3_canMakeSieve_75 (by decide) (fun h7 => ?_) (fun h7 => ?_)
      · rw [if_pos h7] at hF
        refine zw_iconst C (v := 0) dX3_canMakeSieve_82 (by decide) ?_
        subst hF
        exact zw_zreturn C hr hlk rfl dX3_canMakeSieve_83 rfl rfl
      · rw [if_neg h7] at hF
        refine zw_iconst C (v := 1) dX3_canMakeSieve_78 (by decide) ?_
        refine zw_goto C 83 dX3_canMakeSieve_79 (by decide) ?_
        subst hF
        exact zw_zreturn C hr hlk rfl dX3_canMakeSieve_83 rfl rfl
  rw [if_neg h5] at hF
  by_cases h8 : p1 = 3
  · rw [if_pos h8] at hF
    refine zw_tableIn C 84 dX3_canMakeSieve_1 (by rw [h8]; decide) (by rw [h8]; decide) (by rw [h8]; rfl) (by decide) ?_
    refine zw_aload_n C dX3_canMakeSieve_84 0 rfl rfl ?_
    refine zw_get C FX3 0 7 (v := .ref (a 10)) rfl (by decide) lkX3_37 rfl dX3_canMakeSieve_85 ?_
    refine zw_iload_n C dX3_canMakeSieve_88 2 rfl rfl ?_
    refine zw_calli C kvX3_100 (kX1_has_V rfl) ⟨rfl, rfl, ⟨by decide, by decide⟩, by decide, by decide⟩ FX1 10 (As := [.int p2]) (rest := []) rfl rfl rfl (Nat.le_of_ble_eq_true rfl) dX3_canMakeSieve_89 ?_
    subst hF
    exact zw_zreturn C hr hlk (zw_nb bb_fX1_has) dX3_canMakeSieve_92 rfl rfl
  rw [if_neg h8] at hF
  by_cases h9 : p1 = 4
  · rw [if_pos h9] at hF
    refine zw_tableIn C 93 dX3_canMakeSieve_1 (by rw [h9]; decide) (by rw [h9]; decide) (by rw [h9]; rfl) (by decide) ?_
    refine zw_aload_n C dX3_canMakeSieve_93 0 rfl rfl ?_
    refine zw_get C FX3 0 7 (v := .ref (a 10)) rfl (by decide) lkX3_37 rfl dX3_canMakeSieve_94 ?_
    refine zw_iload_n C dX3_canMakeSieve_97 2 rfl rfl ?_
    refine zw_calli C kvX3_100 (kX1_has_V rfl) ⟨rfl, rfl, ⟨by decide, by decide⟩, by decide, by decide⟩ FX1 10 (As := [.int p2]) (rest := []) rfl rfl rfl (Nat.le_of_ble_eq_true rfl) dX3_canMakeSieve_98 ?_
    refine zw_if_eq C 119 dX3_canMakeSieve_101 (by decide) (fun h10 => ?_) (fun h10 => ?_)
    · rw [if_pos h10] at hF
      refine zw_iconst C (v := 0) dX3_canMakeSieve_119 (by decide) ?_
      subst hF
      exact zw_zreturn C hr hlk rfl dX3_canMakeSieve_120 rfl rfl
    · rw [if_neg h10] at hF
      refine zw_aload_n C dX3_canMakeSieve_104 0 rfl rfl ?_
      refine zw_get C FX3 0 7 (v := .ref (a 10)) rfl (by decide) lkX3_37 rfl dX3_canMakeSieve_105 ?_
      refine zw_iload_n C dX3_canMakeSieve_108 3 rfl rfl ?_
      refine zw_calli C kvX3_100 (kX1_has_V rfl) ⟨rfl, rfl, ⟨by decide, by decide⟩, by decide, by decide⟩ FX1 10 (As := [.int p3]) (rest := []) rfl rfl rfl (Nat.le_of_ble_eq_true rfl) dX3_canMakeSieve_109 ?_
      refine zw_if_eq C 119 dX3_canMakeSieve_112 (by decide) (fun h11 => ?_) (fun h11 => ?_)
      · rw [if_pos h11] at hF
        refine zw_iconst C (v := 0) dX3_canMakeSieve_119 (by decide) ?_
        subst hF
        exact zw_zreturn C hr hlk rfl dX3_canMakeSieve_120 rfl rfl
      · rw [if_neg h11] at hF
        refine zw_iconst C (v := 1) dX3_canMakeSieve_115 (by decide) ?_
        refine zw_goto C 120 dX3_canMakeSieve_116 (by decide) ?_
        subst hF
        exact zw_zreturn C hr hlk rfl dX3_canMakeSieve_120 rfl rfl
  rw [if_neg h9] at hF
  by_cases h12 : p1 = 5
  · rw [if_pos h12] at hF
    refine zw_tableIn C 93 dX3_canMakeSieve_1 (by rw [h12]; decide) (by rw [h12]; decide) (by rw [h12]; rfl) (by decide) ?_
    refine zw_aload_n C dX3_canMakeSieve_93 0 rfl rfl ?_
    refine zw_get C FX3 0 7 (v := .ref (a 10)) rfl (by decide) lkX3_37 rfl dX3_canMakeSieve_94 ?_
    refine zw_iload_n C dX3_canMakeSieve_97 2 rfl rfl ?_
    refine zw_calli C kvX3_100 (kX1_has_V rfl) ⟨rfl, rfl, ⟨by decide, by decide⟩, by decide, by decide⟩ FX1 10 (As := [.int p2]) (rest := []) rfl rfl rfl (Nat.le_of_ble_eq_true rfl) dX3_canMakeSieve_98 ?_
    refine zw_if_eq C 119 dX3_canMakeSieve_101 (by decide) (fun h13 => ?_) (fun h13 => ?_)
    · rw [if_pos h13] at hF
      refine zw_iconst C (v := 0) dX3_canMakeSieve_119 (by decide) ?_
      subst hF
      exact zw_zreturn C hr hlk rfl dX3_canMakeSieve_120 rfl rfl
    · rw [if_neg h13] at hF
      refine zw_aload_n C dX3_canMakeSieve_104 0 rfl rfl ?_
      refine zw_get C FX3 0 7 (v := .ref (a 10)) rfl (by decide) lkX3_37 rfl dX3_canMakeSieve_105 ?_
      refine zw_iload_n C dX3_canMakeSieve_108 3 rfl rfl ?_
      refine zw_calli C kvX3_100 (kX1_has_V rfl) ⟨rfl, rfl, ⟨by decide, by decide⟩, by decide, by decide⟩ FX1 10 (As := [.int p3]) (rest := []) rfl rfl rfl (Nat.le_of_ble_eq_true rfl) dX3_canMakeSieve_109 ?_
      refine zw_if_eq C 119 dX3_canMakeSieve_112 (by decide) (fun h14 => ?_) (fun h14 => ?_)
      · rw [if_pos h14] at hF
        refine zw_iconst C (v := 0) dX3_canMakeSieve_119 (by decide) ?_
        subst hF
        exact zw_zreturn C hr hlk rfl dX3_canMakeSieve_120 rfl rfl
      · rw [if_neg h14] at hF
        refine zw_iconst C (v := 1) dX3_canMakeSieve_115 (by decide) ?_
        refine zw_goto C 120 dX3_canMakeSieve_116 (by decide) ?_
        subst hF
        exact zw_zreturn C hr hlk rfl dX3_canMakeSieve_120 rfl rfl
  rw [if_neg h12] at hF
  by_cases h15 : p1 = 6
  · rw [if_pos h15] at hF
    refine zw_tableIn C 121 dX3_canMakeSieve_1 (by rw [h15]; decide) (by rw [h15]; decide) (by rw [h15]; rfl) (by decide) ?_
    refine zw_iconst C (v := 1) dX3_canMakeSieve_121 (by decide) ?_
    subst hF
    exact zw_zreturn C hr hlk rfl dX3_canMakeSieve_122 rfl rfl
  rw [if_neg h15] at hF
  by_cases h16 : p1 = 7
  · rw [if_pos h16] at hF
    refine zw_tableIn C 121 dX3_canMakeSieve_1 (by rw [h16]; decide) (by rw [h16]; decide) (by rw [h16]; rfl) (by decide) ?_
    refine zw_iconst C (v := 1) dX3_canMakeSieve_121 (by decide) ?_
    subst hF
    exact zw_zreturn C hr hlk rfl dX3_canMakeSieve_122 rfl rfl
  rw [if_neg h16] at hF
  by_cases h17 : p1 = 8
  · rw [if_pos h17] at hF
    refine zw_tableIn C 84 dX3_canMakeSieve_1 (by rw [h17]; decide) (by rw [h17]; decide) (by rw [h17]; rfl) (by decide) ?_
    refine zw_aload_n C dX3_canMakeSieve_84 0 rfl rfl ?_
    refine zw_get C FX3 0 7 (v := .ref (a 10)) rfl (by decide) lkX3_37 rfl dX3_canMakeSieve_85 ?_
    refine zw_iload_n C dX3_canMakeSieve_88 2 rfl rfl ?_
    refine zw_calli C kvX3_100 (kX1_has_V rfl) ⟨rfl, rfl, ⟨by decide, by decide⟩, by decide, by decide⟩ FX1 10 (As := [.int p2]) (rest := []) rfl rfl rfl (Nat.le_of_ble_eq_true rfl) dX3_canMakeSieve_89 ?_
    subst hF
    exact zw_zreturn C hr hlk (zw_nb bb_fX1_has) dX3_canMakeSieve_92 rfl rfl
  rw [if_neg h17] at hF
  by_cases h18 : p1 = 9
  · rw [if_pos h18] at hF
    refine zw_tableIn C 121 dX3_canMakeSieve_1 (by rw [h18]; decide) (by rw [h18]; decide) (by rw [h18]; rfl) (by decide) ?_
    refine zw_iconst C (v := 1) dX3_canMakeSieve_121 (by decide) ?_
    subst hF
    exact zw_zreturn C hr hlk rfl dX3_canMakeSieve_122 rfl rfl
  rw [if_neg h18] at hF
  refine zw_tableOut C 123 dX3_canMakeSieve_1 (zw_tout (n := 9) (by decide) (fun k hk => by match k, hk with | 0, _ => exact h1 | 1, _ => exact h2 | 2, _ => exact h5 | 3, _ => exact h8 | 4, _ => exact h9 | 5, _ => exact h12 | 6, _ => exact h15 | 7, _ => exact h16 | 8, _ => exact h17 | 9, _ => exact h18 | k + 10, hk => exact absurd hk (by omega))) (by decide) ?_
  refine zw_iconst C (v := 0) dX3_canMakeSieve_123 (by decide) ?_
  subst hF
  exact zw_zreturn C hr hlk rfl dX3_canMakeSieve_124 rfl rfl
def fX3_canMakeOrder (S : dS) (V : dV) (O : dO) (p1 : Int32) (p2 : Int32) (p3 : Int32) : Int32 := (if p1 = 0 then fX1_has S p2 else (if p1 = 1 then fX1_has O p2 else (if p1 = 2 then (if (fX1_has O p2) = 0 then 0 else (if (fX1_has O p3) = 0 then 0 else 1)) else (if p1 = 3 then fX1_has V p2 else (if p1 = 4 then 1 else (if p1 = 5 then 1 else 0))))))
set_option maxHeartbeats 4000000 in
set_option maxRecDepth 100000 in
theorem kX3_canMakeOrder {l : Launch} {D : va_G} {cI cL : ClassId} {a : Nat → Nat} {B : dB} {S : dS} {V : dV} {O : dO} {G : dG} {F : dF} {T : dT} {p1 : Int32} {p2 : Int32} {p3 : Int32} {q : Int32} (hF : fX3_canMakeOrder S V O p1 p2 p3 = q) : zw_Mi l yX3_canMakeOrder cX3_canMakeOrder 4 .boolean D (zw_tys cI cL) (zw_rm 1 21) [.ref (a 0), .int p1, .int p2, .int p3] (wD cI cL a B S V O G F T) (wD cI cL a B S V O G F T) q := by
  unfold fX3_canMakeOrder at hF
  refine zw_Mi_of (own := RX3) (by decide) rfl (Nat.le_of_ble_eq_true rfl) ?_
  intro p e s m args below meth c A C hr hlk
  refine zw_eq (lv2 := [(0, .ref (a 0)), (1, .int p1), (2, .int p2), (3, .int p3)]) rfl rfl rfl ?_
  refine zw_iload_n C dX3_canMakeOrder_0 1 rfl rfl ?_
  by_cases h1 : p1 = 0
  · rw [if_pos h1] at hF
    refine zw_tableIn C 40 dX3_canMakeOrder_1 (by rw [h1]; decide) (by rw [h1]; decide) (by rw [h1]; rfl) (by decide) ?_
    refine zw_aload_n C dX3_canMakeOrder_40 0 rfl rfl ?_
    refine zw_get C FX3 0 6 (v := .ref (a 5)) rfl (by decide) lkX3_33 rfl dX3_canMakeOrder_41 ?_
    refine zw_iload_n C dX3_canMakeOrder_44 2 rfl rfl ?_
    refine zw_calli C kvX3_100 (kX1_has_S rfl) ⟨rfl, rfl, ⟨by decide, by decide⟩, by decide, by decide⟩ FX1 5 (As := [.int p2]) (rest := []) rfl rfl rfl (Nat.le_of_ble_eq_true rfl) dX3_canMakeOrder_45 ?_
    subst hF
    exact zw_zreturn C hr hlk (zw_nb bb_fX1_has) dX3_canMakeOrder_48 rfl rfl
  rw [if_neg h1] at hF
  by_cases h2 : p1 = 1
  · rw [if_pos h2] at hF
    refine zw_tableIn C 49 dX3_canMakeOrder_1 (by rw [h2]; decide) (by rw [h2]; decide) (by rw [h2]; rfl) (by decide) ?_
    refine zw_aload_n C dX3_canMakeOrder_49 0 rfl rfl ?_
    refine zw_get C FX3 0 8 (v := .ref (a 15)) rfl (by decide) lkX3_40 rfl dX3_canMakeOrder_50 ?_
    refine zw_iload_n C dX3_canMakeOrder_53 2 rfl rfl ?_
    refine zw_calli C kvX3_100 (kX1_has_O rfl) ⟨rfl, rfl, ⟨by decide, by decide⟩, by decide, by decide⟩ FX1 15 (As := [.int p2]) (rest := []) rfl rfl rfl (Nat.le_of_ble_eq_true rfl) dX3_canMakeOrder_54 ?_
    subst hF
    exact zw_zreturn C hr hlk (zw_nb bb_fX1_has) dX3_canMakeOrder_57 rfl rfl
  rw [if_neg h2] at hF
  by_cases h3 : p1 = 2
  · rw [if_pos h3] at hF
    refine zw_tableIn C 58 dX3_canMakeOrder_1 (by rw [h3]; decide) (by rw [h3]; decide) (by rw [h3]; rfl) (by decide) ?_
    refine zw_aload_n C dX3_canMakeOrder_58 0 rfl rfl ?_
    refine zw_get C FX3 0 8 (v := .ref (a 15)) rfl (by decide) lkX3_40 rfl dX3_canMakeOrder_59 ?_
    refine zw_iload_n C dX3_canMakeOrder_62 2 rfl rfl ?_
    refine zw_calli C kvX3_100 (kX1_has_O rfl) ⟨rfl, rfl, ⟨by decide, by decide⟩, by decide, by decide⟩ FX1 15 (As := [.int p2]) (rest := []) rfl rfl rfl (Nat.le_of_ble_eq_true rfl) dX3_canMakeOrder_63 ?_
    refine zw_if_eq C 84 dX3_canMakeOrder_66 (by decide) (fun h4 => ?_) (fun h4 => ?_)
    · rw [if_pos h4] at hF
      refine zw_iconst C (v := 0) dX3_canMakeOrder_84 (by decide) ?_
      subst hF
      exact zw_zreturn C hr hlk rfl dX3_canMakeOrder_85 rfl rfl
    · rw [if_neg h4] at hF
      refine zw_aload_n C dX3_canMakeOrder_69 0 rfl rfl ?_
      refine zw_get C FX3 0 8 (v := .ref (a 15)) rfl (by decide) lkX3_40 rfl dX3_canMakeOrder_70 ?_
      refine zw_iload_n C dX3_canMakeOrder_73 3 rfl rfl ?_
      refine zw_calli C kvX3_100 (kX1_has_O rfl) ⟨rfl, rfl, ⟨by decide, by decide⟩, by decide, by decide⟩ FX1 15 (As := [.int p3]) (rest := []) rfl rfl rfl (Nat.le_of_ble_eq_true rfl) dX3_canMakeOrder_74 ?_
      refine zw_if_eq C 84 dX3_canMakeOrder_77 (by decide) (fun h5 => ?_) (fun h5 => ?_)
      · rw [if_pos h5] at hF
        refine zw_iconst C (v := 0) dX3_canMakeOrder_84 (by decide) ?_
        subst hF
        exact zw_zreturn C hr hlk rfl dX3_canMakeOrder_85 rfl rfl
      · rw [if_neg h5] at hF
        refine zw_iconst C (v := 1) dX3_canMakeOrder_80 (by decide) ?_
        refine zw_goto C 85 dX3_canMakeOrder_81 (by decide) ?_
        subst hF
        exact zw_zreturn C hr hlk rfl dX3_canMakeOrder_85 rfl rfl
  rw [if_neg h3] at hF
  by_cases h6 : p1 = 3
  · rw [if_pos h6] at hF
    refine zw_tableIn C 86 dX3_canMakeOrder_1 (by rw [h6]; decide) (by rw [h6]; decide) (by rw [h6]; rfl) (by decide) ?_
    refine zw_aload_n C dX3_canMakeOrder_86 0 rfl rfl ?_
    refine zw_get C FX3 0 7 (v := .ref (a 10)) rfl (by decide) lkX3_37 rfl dX3_canMakeOrder_87 ?_
    refine zw_iload_n C dX3_canMakeOrder_90 2 rfl rfl ?_
    refine zw_calli C kvX3_100 (kX1_has_V rfl) ⟨rfl, rfl, ⟨by decide, by decide⟩, by decide, by decide⟩ FX1 10 (As := [.int p2]) (rest := []) rfl rfl rfl (Nat.le_of_ble_eq_true rfl) dX3_canMakeOrder_91 ?_
    subst hF
    exact zw_zreturn C hr hlk (zw_nb bb_fX1_has) dX3_canMakeOrder_94 rfl rfl
  rw [if_neg h6] at hF
  by_cases h7 : p1 = 4
  · rw [if_pos h7] at hF
    refine zw_tableIn C 95 dX3_canMakeOrder_1 (by rw [h7]; decide) (by rw [h7]; decide) (by rw [h7]; rfl) (by decide) ?_
    refine zw_iconst C (v := 1) dX3_canMakeOrder_95 (by decide) ?_
    subst hF
    exact zw_zreturn C hr hlk rfl dX3_canMakeOrder_96 rfl rfl
  rw [if_neg h7] at hF
  by_cases h8 : p1 = 5
  · rw [if_pos h8] at hF
    refine zw_tableIn C 95 dX3_canMakeOrder_1 (by rw [h8]; decide) (by rw [h8]; decide) (by rw [h8]; rfl) (by decide) ?_
    refine zw_iconst C (v := 1) dX3_canMakeOrder_95 (by decide) ?_
    subst hF
    exact zw_zreturn C hr hlk rfl dX3_canMakeOrder_96 rfl rfl
  rw [if_neg h8] at hF
  refine zw_tableOut C 97 dX3_canMakeOrder_1 (zw_tout (n := 5) (by decide) (fun k hk => by match k, hk with | 0, _ => exact h1 | 1, _ => exact h2 | 2, _ => exact h3 | 3, _ => exact h6 | 4, _ => exact h7 | 5, _ => exact h8 | k + 6, hk => exact absurd hk (by omega))) (by decide) ?_
  refine zw_iconst C (v := 0) dX3_canMakeOrder_97 (by decide) ?_
  subst hF
  exact zw_zreturn C hr hlk rfl dX3_canMakeOrder_98 rfl rfl
def fX3_sieve (S : dS) (V : dV) (p1 : Int32) (p2 : Int32) (p3 : Int32) : Int32 × dV := (if (fX3_canMakeSieve S V p1 p2 p3) = 0 then ((-1), V) else (if (fX1_isFull V) = 0 then (zw_l (fX1_make V p1 p2 p3 0) (fun q3 => (q3.1, q3.2))) else ((-2), V)))
set_option maxHeartbeats 4000000 in
set_option maxRecDepth 100000 in
theorem kX3_sieve {l : Launch} {D : va_G} {cI cL : ClassId} {a : Nat → Nat} {B : dB} {S : dS} {V : dV} {O : dO} {G : dG} {F : dF} {T : dT} {p1 : Int32} {p2 : Int32} {p3 : Int32} {q : Int32 × dV} {nt k sn vn on : Nat} {rs rv ro : Nat → Nat} (hy1 : dz_B B nt k) (hy2 : dz_K S V O sn vn on rs rv ro) (hF : fX3_sieve S V p1 p2 p3 = q) : zw_Mi l yX3_sieve cX3_sieve 4 .int D (zw_tys cI cL) (zw_rm 2 44) [.ref (a 0), .int p1, .int p2, .int p3] (wD cI cL a B S V O G F T) (wD cI cL a B S q.2 O G F T) q.1 := by
  unfold fX3_sieve at hF
  refine zw_Mi_of (own := RX3) (by decide) rfl (Nat.le_of_ble_eq_true rfl) ?_
  intro p e s m args below meth c A C hr hlk
  refine zw_eq (lv2 := [(0, .ref (a 0)), (1, .int p1), (2, .int p2), (3, .int p3)]) rfl rfl rfl ?_
  refine zw_aload_n C dX3_sieve_0 0 rfl rfl ?_
  refine zw_iload_n C dX3_sieve_1 1 rfl rfl ?_
  refine zw_iload_n C dX3_sieve_2 2 rfl rfl ?_
  refine zw_iload_n C dX3_sieve_3 3 rfl rfl ?_
  refine zw_calli C kvX3_94 (kX3_canMakeSieve rfl) ⟨rfl, rfl, ⟨by decide, by decide⟩, by decide, by decide⟩ FX3 0 (As := [.int p1, .int p2, .int p3]) (rest := []) rfl rfl rfl (Nat.le_of_ble_eq_true rfl) dX3_sieve_4 ?_
  refine zw_if_ne C 12 dX3_sieve_7 (by decide) (fun h1 => ?_) (fun h1 => ?_)
  · rw [if_neg h1] at hF
    refine zw_aload_n C dX3_sieve_12 0 rfl rfl ?_
    refine zw_get C FX3 0 7 (v := .ref (a 10)) rfl (by decide) lkX3_37 rfl dX3_sieve_13 ?_
    refine zw_calli C kvX3_83 (kX1_isFull_V rfl) ⟨rfl, rfl, ⟨by decide, by decide⟩, by decide, by decide⟩ FX1 10 (As := []) (rest := []) rfl rfl rfl (Nat.le_of_ble_eq_true rfl) dX3_sieve_16 ?_
    refine zw_if_eq C 27 dX3_sieve_19 (by decide) (fun h2 => ?_) (fun h2 => ?_)
    · rw [if_pos h2] at hF
      refine zw_aload_n C dX3_sieve_27 0 rfl rfl ?_
      refine zw_get C FX3 0 7 (v := .ref (a 10)) rfl (by decide) lkX3_37 rfl dX3_sieve_28 ?_
      refine zw_iload_n C dX3_sieve_31 1 rfl rfl ?_
      refine zw_iload_n C dX3_sieve_32 2 rfl rfl ?_
      refine zw_iload_n C dX3_sieve_33 3 rfl rfl ?_
      refine zw_lconst C (v := 0) dX3_sieve_34 (by decide) ?_
      obtain ⟨q3, e4⟩ : ∃ z, fX1_make V p1 p2 p3 0 = z := ⟨_, rfl⟩
      rw [zw_l_eq e4] at hF
      refine zw_calli C kvX3_90 (kX1_make_V (dz_notFull (by assumption) hy2.2.2.2.2.1 hy2.2.1).2 e4) ⟨rfl, rfl, ⟨by decide, by decide⟩, by decide, by decide⟩ FX1 10 (As := [.int p1, .int p2, .int p3, .long 0]) (rest := []) rfl rfl rfl (Nat.le_of_ble_eq_true rfl) dX3_sieve_35 ?_
      subst hF
      exact zw_ireturn C hr hlk dX3_sieve_38 rfl rfl
    · rw [if_neg h2] at hF
      refine zw_bipush C (v := (-2)) dX3_sieve_22 (by decide) ?_
      refine zw_goto C 38 dX3_sieve_24 (by decide) ?_
      subst hF
      exact zw_ireturn C hr hlk dX3_sieve_38 rfl rfl
  · rw [if_pos h1] at hF
    refine zw_iconst C (v := (-1)) dX3_sieve_10 (by decide) ?_
    subst hF
    exact zw_ireturn C hr hlk dX3_sieve_11 rfl rfl
def fX3_order (S : dS) (V : dV) (O : dO) (p1 : Int32) (p2 : Int32) (p3 : Int32) : Int32 × dO := (if (fX3_canMakeOrder S V O p1 p2 p3) = 0 then ((-1), O) else (if (fX1_isFull O) = 0 then (zw_l (fX1_make O p1 p2 p3 0) (fun q3 => (q3.1, q3.2))) else ((-2), O)))
set_option maxHeartbeats 4000000 in
set_option maxRecDepth 100000 in
theorem kX3_order {l : Launch} {D : va_G} {cI cL : ClassId} {a : Nat → Nat} {B : dB} {S : dS} {V : dV} {O : dO} {G : dG} {F : dF} {T : dT} {p1 : Int32} {p2 : Int32} {p3 : Int32} {q : Int32 × dO} {nt k sn vn on : Nat} {rs rv ro : Nat → Nat} (hy1 : dz_B B nt k) (hy2 : dz_K S V O sn vn on rs rv ro) (hF : fX3_order S V O p1 p2 p3 = q) : zw_Mi l yX3_order cX3_order 4 .int D (zw_tys cI cL) (zw_rm 2 44) [.ref (a 0), .int p1, .int p2, .int p3] (wD cI cL a B S V O G F T) (wD cI cL a B S V q.2 G F T) q.1 := by
  unfold fX3_order at hF
  refine zw_Mi_of (own := RX3) (by decide) rfl (Nat.le_of_ble_eq_true rfl) ?_
  intro p e s m args below meth c A C hr hlk
  refine zw_eq (lv2 := [(0, .ref (a 0)), (1, .int p1), (2, .int p2), (3, .int p3)]) rfl rfl rfl ?_
  refine zw_aload_n C dX3_order_0 0 rfl rfl ?_
  refine zw_iload_n C dX3_order_1 1 rfl rfl ?_
  refine zw_iload_n C dX3_order_2 2 rfl rfl ?_
  refine zw_iload_n C dX3_order_3 3 rfl rfl ?_
  refine zw_calli C kvX3_97 (kX3_canMakeOrder rfl) ⟨rfl, rfl, ⟨by decide, by decide⟩, by decide, by decide⟩ FX3 0 (As := [.int p1, .int p2, .int p3]) (rest := []) rfl rfl rfl (Nat.le_of_ble_eq_true rfl) dX3_order_4 ?_
  refine zw_if_ne C 12 dX3_order_7 (by decide) (fun h1 => ?_) (fun h1 => ?_)
  · rw [if_neg h1] at hF
    refine zw_aload_n C dX3_order_12 0 rfl rfl ?_
    refine zw_get C FX3 0 8 (v := .ref (a 15)) rfl (by decide) lkX3_40 rfl dX3_order_13 ?_
    refine zw_calli C kvX3_83 (kX1_isFull_O rfl) ⟨rfl, rfl, ⟨by decide, by decide⟩, by decide, by decide⟩ FX1 15 (As := []) (rest := []) rfl rfl rfl (Nat.le_of_ble_eq_true rfl) dX3_order_16 ?_
    refine zw_if_eq C 27 dX3_order_19 (by decide) (fun h2 => ?_) (fun h2 => ?_)
    · rw [if_pos h2] at hF
      refine zw_aload_n C dX3_order_27 0 rfl rfl ?_
      refine zw_get C FX3 0 8 (v := .ref (a 15)) rfl (by decide) lkX3_40 rfl dX3_order_28 ?_
      refine zw_iload_n C dX3_order_31 1 rfl rfl ?_
      refine zw_iload_n C dX3_order_32 2 rfl rfl ?_
      refine zw_iload_n C dX3_order_33 3 rfl rfl ?_
      refine zw_lconst C (v := 0) dX3_order_34 (by decide) ?_
      obtain ⟨q3, e4⟩ : ∃ z, fX1_make O p1 p2 p3 0 = z := ⟨_, rfl⟩
      rw [zw_l_eq e4] at hF
      refine zw_calli C kvX3_90 (kX1_make_O (dz_notFull (by assumption) hy2.2.2.2.2.2.1 hy2.2.2.1).2 e4) ⟨rfl, rfl, ⟨by decide, by decide⟩, by decide, by decide⟩ FX1 15 (As := [.int p1, .int p2, .int p3, .long 0]) (rest := []) rfl rfl rfl (Nat.le_of_ble_eq_true rfl) dX3_order_35 ?_
      subst hF
      exact zw_ireturn C hr hlk dX3_order_38 rfl rfl
    · rw [if_neg h2] at hF
      refine zw_bipush C (v := (-2)) dX3_order_22 (by decide) ?_
      refine zw_goto C 38 dX3_order_24 (by decide) ?_
      subst hF
      exact zw_ireturn C hr hlk dX3_order_38 rfl rfl
  · rw [if_pos h1] at hF
    refine zw_iconst C (v := (-1)) dX3_order_10 (by decide) ?_
    subst hF
    exact zw_ireturn C hr hlk dX3_order_11 rfl rfl
def fX3_tell (B : dB) (S : dS) (V : dV) (T : dT) (p1 : Int32) (p2 : Int32) : Int32 × Int64 × (Nat → Int64) × (Nat → Int64) × dT := (if (fX1_has S p1) = 0 then ((-1), B.2.2.1, S.2.2.2.1, V.2.2.2.1, T) else (if (fX3_isThing B p2) = 0 then ((-1), B.2.2.1, S.2.2.2.1, V.2.2.2.1, T) else (zw_l (fX2_opensCall T) (fun q3 => (if q3.1 = 0 then ((-2), B.2.2.1, S.2.2.2.1, V.2.2.2.1, q3.2) else (zw_l ((zA B.2.2.2.1 B.2.2.2.2.1 S.1 S.2.1 S.2.2.1 V.1 V.2.1 V.2.2.1 73).1 (S.2.2.2.1, V.2.2.2.1, q3.2) p1 p2) (fun q6 => (if (fX2_hasFailure q6.2.2.2) = 0 then (1, q6.1, q6.2.1, q6.2.2.1, q6.2.2.2) else (zw_l (fX2_endFailedCall q6.2.2.2) (fun q9 => (q9.1, B.2.2.1, q6.2.1, q6.2.2.1, q9.2)))))))))))
set_option maxHeartbeats 4000000 in
set_option maxRecDepth 100000 in
theorem kX3_tell {l : Launch} {D : va_G} {cI cL : ClassId} {a : Nat → Nat} {B : dB} {S : dS} {V : dV} {O : dO} {G : dG} {F : dF} {T : dT} {p1 : Int32} {p2 : Int32} {q : Int32 × Int64 × (Nat → Int64) × (Nat → Int64) × dT} {nt k sn vn on : Nat} {rs rv ro : Nat → Nat} (hy1 : dz_B B nt k) (hy2 : dz_K S V O sn vn on rs rv ro) (hF : fX3_tell B S V T p1 p2 = q) : zw_Mi l yX3_tell cX3_tell 5 .int D (zw_tys cI cL) (zw_rm 153 4604) [.ref (a 0), .int p1, .int p2] (wD cI cL a B S V O G F T) (wD cI cL a (B.1, B.2.1, q.2.1, B.2.2.2.1, B.2.2.2.2.1, B.2.2.2.2.2.1, B.2.2.2.2.2.2) (S.1, S.2.1, S.2.2.1, q.2.2.1, S.2.2.2.2) (V.1, V.2.1, V.2.2.1, q.2.2.2.1, V.2.2.2.2) O G F q.2.2.2.2) q.1 := by
  unfold fX3_tell at hF
  refine zw_Mi_of (own := RX3) (by decide) rfl (Nat.le_of_ble_eq_true rfl) ?_
  intro p e s m args below meth c A C hr hlk
  refine zw_eq (lv2 := [(0, .ref (a 0)), (1, .int p1), (2, .int p2)]) rfl rfl rfl ?_
  refine zw_aload_n C dX3_tell_0 0 rfl rfl ?_
  refine zw_get C FX3 0 6 (v := .ref (a 5)) rfl (by decide) lkX3_33 rfl dX3_tell_1 ?_
  refine zw_iload_n C dX3_tell_4 1 rfl rfl ?_
  refine zw_calli C kvX3_100 (kX1_has_S rfl) ⟨rfl, rfl, ⟨by decide, by decide⟩, by decide, by decide⟩ FX1 5 (As := [.int p1]) (rest := []) rfl rfl rfl (Nat.le_of_ble_eq_true rfl) dX3_tell_5 ?_
  refine zw_if_eq C 19 dX3_tell_8 (by decide) (fun h1 => ?_) (fun h1 => ?_)
  · rw [if_pos h1] at hF
    refine zw_iconst C (v := (-1)) dX3_tell_19 (by decide) ?_
    subst hF
    exact zw_ireturn C hr hlk dX3_tell_20 rfl rfl
  · rw [if_neg h1] at hF
    refine zw_aload_n C dX3_tell_11 0 rfl rfl ?_
    refine zw_iload_n C dX3_tell_12 2 rfl rfl ?_
    refine zw_calli C kvX3_68 (kX3_isThing rfl) ⟨rfl, rfl, ⟨by decide, by decide⟩, by decide, by decide⟩ FX3 0 (As := [.int p2]) (rest := []) rfl rfl rfl (Nat.le_of_ble_eq_true rfl) dX3_tell_13 ?_
    refine zw_if_ne C 21 dX3_tell_16 (by decide) (fun h2 => ?_) (fun h2 => ?_)
    · rw [if_neg h2] at hF
      refine zw_aload_n C dX3_tell_21 0 rfl rfl ?_
      refine zw_get C FX3 0 11 (v := .ref (a 30)) rfl (by decide) lkX3_56 rfl dX3_tell_22 ?_
      obtain ⟨q3, e4⟩ : ∃ z, fX2_opensCall T = z := ⟨_, rfl⟩
      rw [zw_l_eq e4] at hF
      refine zw_calli C kvX3_103 (kX2_opensCall e4) ⟨rfl, rfl, ⟨by decide, by decide⟩, by decide, by decide⟩ FX2 30 (As := []) (rest := []) rfl rfl rfl (Nat.le_of_ble_eq_true rfl) dX3_tell_25 ?_
      refine zw_if_ne C 34 dX3_tell_28 (by decide) (fun h5 => ?_) (fun h5 => ?_)
      · rw [if_neg h5] at hF
        refine zw_aload_n C dX3_tell_34 0 rfl rfl ?_
        refine zw_iload_n C dX3_tell_35 1 rfl rfl ?_
        refine zw_iload_n C dX3_tell_36 2 rfl rfl ?_
        obtain ⟨q6, e7⟩ : ∃ z, (zA B.2.2.2.1 B.2.2.2.2.1 S.1 S.2.1 S.2.2.1 V.1 V.2.1 V.2.2.1 73).1 (S.2.2.2.1, V.2.2.2.1, q3.2) p1 p2 = z := ⟨_, rfl⟩
        rw [zw_l_eq e7] at hF
        refine zw_calll C kvX3_106 (kAS hy2 hy1.1 (S.2.2.2.1, V.2.2.2.1, q3.2) p1 p2 _ (dz_hasIn (by assumption) hy2.2.2.2.1 hy2.1) (dz_thingIn (by assumption) hy1.2.2.1 hy1.1) e7) ⟨rfl, rfl, ⟨by decide, by decide⟩, by decide, by decide⟩ FX3 0 (As := [.int p1, .int p2]) (rest := []) rfl rfl rfl (Nat.le_of_ble_eq_true rfl) dX3_tell_37 ?_
        refine zw_lstore_n C dX3_tell_40 rfl (by decide) rfl ?_
        refine zw_aload_n C dX3_tell_41 1 rfl rfl ?_
        refine zw_get C FX3 0 11 (v := .ref (a 30)) rfl (by decide) lkX3_56 rfl dX3_tell_42 ?_
        refine zw_calli C kvX3_110 (kX2_hasFailure rfl) ⟨rfl, rfl, ⟨by decide, by decide⟩, by decide, by decide⟩ FX2 30 (As := []) (rest := []) rfl rfl rfl (Nat.le_of_ble_eq_true rfl) dX3_tell_45 ?_
        refine zw_if_eq C 59 dX3_tell_48 (by decide) (fun h8 => ?_) (fun h8 => ?_)
        · rw [if_pos h8] at hF
          refine zw_aload_n C dX3_tell_59 1 rfl rfl ?_
          refine zw_lload_n C dX3_tell_60 0 rfl rfl ?_
          refine zw_put C FX3 GX3 0 12 (v := .long q6.1) (ws2 := (wD cI cL a (B.1, B.2.1, q6.1, B.2.2.2.1, B.2.2.2.2.1, B.2.2.2.2.2.1, B.2.2.2.2.2.2) (S.1, S.2.1, S.2.2.1, q6.2.1, S.2.2.2.2) (V.1, V.2.1, V.2.2.1, q6.2.2.1, V.2.2.2.2) O G F q6.2.2.2)) rfl (by decide) lkX3_60 rfl rfl rfl (Nat.le_of_ble_eq_true rfl) rfl dX3_tell_61 ?_
          refine zw_iconst C (v := 1) dX3_tell_64 (by decide) ?_
          subst hF
          exact zw_ireturn C hr hlk dX3_tell_65 rfl rfl
        · rw [if_neg h8] at hF
          refine zw_aload_n C dX3_tell_51 1 rfl rfl ?_
          refine zw_get C FX3 0 11 (v := .ref (a 30)) rfl (by decide) lkX3_56 rfl dX3_tell_52 ?_
          obtain ⟨q9, e10⟩ : ∃ z, fX2_endFailedCall q6.2.2.2 = z := ⟨_, rfl⟩
          rw [zw_l_eq e10] at hF
          refine zw_calli C kvX3_113 (kX2_endFailedCall e10) ⟨rfl, rfl, ⟨by decide, by decide⟩, by decide, by decide⟩ FX2 30 (As := []) (rest := []) rfl rfl rfl (Nat.le_of_ble_eq_true rfl) dX3_tell_55 ?_
          subst hF
          exact zw_ireturn C hr hlk dX3_tell_58 rfl rfl
      · rw [if_pos h5] at hF
        refine zw_bipush C (v := (-2)) dX3_tell_31 (by decide) ?_
        subst hF
        exact zw_ireturn C hr hlk dX3_tell_33 rfl rfl
    · rw [if_pos h2] at hF
      refine zw_iconst C (v := (-1)) dX3_tell_19 (by decide) ?_
      subst hF
      exact zw_ireturn C hr hlk dX3_tell_20 rfl rfl
def fX3_takeDraft (B5 : (Nat → Int32)) (B6 : (Nat → Int32)) (p1 : Int32) : Int32 × (Nat → Int32) := (p1, va_cpy B6 B5 (0 : Int32).toNatClampNeg (0 : Int32).toNatClampNeg p1.toNatClampNeg)
set_option maxHeartbeats 4000000 in
set_option maxRecDepth 100000 in
theorem kX3_takeDraft {l : Launch} {D : va_G} {cI cL : ClassId} {a : Nat → Nat} {B : dB} {S : dS} {V : dV} {O : dO} {G : dG} {F : dF} {T : dT} {p1 : Int32} {q : Int32 × (Nat → Int32)} {B5 B6 : Nat → Int32} (hy1 : zw_le p1 40) (hF : fX3_takeDraft B5 B6 p1 = q) : zw_Mv l yX3_takeDraft cX3_takeDraft 2 D (zw_tys cI cL) (zw_rm 1 60) [.ref (a 0), .int p1] (wD cI cL a (B.1, B.2.1, B.2.2.1, B.2.2.2.1, B.2.2.2.2.1, B5, B6) S V O G F T) (wD cI cL a (B.1, q.1, B.2.2.1, B.2.2.2.1, B.2.2.2.2.1, q.2, B6) S V O G F T) := by
  unfold fX3_takeDraft at hF
  refine zw_Mv_of (own := RX3) (by decide) rfl (Nat.le_of_ble_eq_true rfl) ?_
  intro p e s m args below meth c A C hr hlk
  refine zw_eq (lv2 := [(0, .ref (a 0)), (1, .int p1)]) rfl rfl rfl ?_
  refine zw_aload_n C dX3_takeDraft_0 0 rfl rfl ?_
  refine zw_get C FX3 0 4 (v := .ref (a 4)) rfl (by decide) lkX3_24 rfl dX3_takeDraft_1 ?_
  refine zw_iconst C (v := 0) dX3_takeDraft_4 (by decide) ?_
  refine zw_aload_n C dX3_takeDraft_5 0 rfl rfl ?_
  refine zw_get C FX3 0 3 (v := .ref (a 3)) rfl (by decide) lkX3_20 rfl dX3_takeDraft_6 ?_
  refine zw_iconst C (v := 0) dX3_takeDraft_9 (by decide) ?_
  refine zw_iload_n C dX3_takeDraft_10 1 rfl rfl ?_
  refine zw_copyi C 4 3 lkmX3_125 (f := B6) (g := B5) (ws2 := (wD cI cL a (B.1, B.2.1, B.2.2.1, B.2.2.2.1, B.2.2.2.2.1, va_cpy B6 B5 (0 : Int32).toNatClampNeg (0 : Int32).toNatClampNeg p1.toNatClampNeg, B6) S V O G F T)) rfl rfl rfl (by decide) (by decide) (dz_cp hy1) (by decide) (by decide) (Nat.le_of_ble_eq_true rfl) rfl dX3_takeDraft_11 ?_
  refine zw_aload_n C dX3_takeDraft_14 0 rfl rfl ?_
  refine zw_iload_n C dX3_takeDraft_15 1 rfl rfl ?_
  refine zw_put C FX3 GX3 0 5 (v := .int p1) (ws2 := (wD cI cL a (B.1, p1, B.2.2.1, B.2.2.2.1, B.2.2.2.2.1, va_cpy B6 B5 (0 : Int32).toNatClampNeg (0 : Int32).toNatClampNeg p1.toNatClampNeg, B6) S V O G F T)) rfl (by decide) lkX3_27 rfl rfl rfl (Nat.le_of_ble_eq_true rfl) rfl dX3_takeDraft_16 ?_
  subst hF
  exact zw_return C hr hlk dX3_takeDraft_19 rfl
end
section
theorem dz_can8 {B : dB} {S : dS} {V : dV} {x y z : Int32} (h : ¬ fX3_canMakeScale B S V x y z = 0) (hx : x = 8) : vp_in y 8 := by
  subst hx
  refine dz_placeI (fun h2 => h ?_)
  unfold fX3_canMakeScale
  rw [if_neg (by decide), if_neg (by decide), if_neg (by decide), if_neg (by decide), if_neg (by decide), if_neg (by decide), if_neg (by decide), if_neg (by decide), if_pos rfl]
  exact h2
theorem dz_can9 {B : dB} {S : dS} {V : dV} {x y z : Int32} (h : ¬ fX3_canMakeScale B S V x y z = 0) (hx : x = 9) : (¬ fX1_has S y = 0) ∧ ¬ fX3_isThing B z = 0 := by
  subst hx
  unfold fX3_canMakeScale at h
  rw [if_neg (by decide), if_neg (by decide), if_neg (by decide), if_neg (by decide), if_neg (by decide), if_neg (by decide), if_neg (by decide), if_neg (by decide), if_neg (by decide), if_pos rfl] at h
  by_cases h1 : fX1_has S y = 0
  · rw [if_pos h1] at h; exact absurd rfl h
  · rw [if_neg h1] at h
    by_cases h2 : fX3_isThing B z = 0
    · rw [if_pos h2] at h; exact absurd rfl h
    · exact ⟨h1, h2⟩
theorem dz_pl {B : dB} {nt k : Nat} {x : Int32} (hB : dz_B B nt k) (h : ∃ j : Nat, j ≤ k ∧ x = nI j) : zw_le x 40 := by
  obtain ⟨j, hj, ej⟩ := h
  exact ⟨j, by have := hB.1; have := hB.2.1; omega, ej⟩
theorem dz_lt1 {x y : Int32} {i n : Nat} (hy : y = nI n) (e : x = nI i) (h : ¬ y ≤ x) (hi : i ≤ n) (hn : n ≤ 40) : i + 1 ≤ n := by
  rcases Nat.lt_or_ge i n with h1 | h1
  · exact h1
  · exact absurd (by rw [hy, e]; exact nI_le h1 (by omega)) h
theorem dz_dr {B : dB} {nt k : Nat} {x : Int32} {f : Nat → Int32} (hB : dz_B B nt k) (h : ∃ i : Nat, i < k ∧ x = nI i) (hd : ∀ j, j < k → vp_in (f j) nt) : vp_in (f x.toNatClampNeg) nt := by
  obtain ⟨i, hi, rfl⟩ := h
  rw [nI_clamp (by have := hB.1; have := hB.2.1; omega)]
  exact hd i hi
theorem dz_up {nt k i : Nat} {f : Nat → Int32} {v : Int32} (hd : ∀ j, j < k → vp_in (f j) nt) (hv : vp_in v nt) : ∀ j, j < k → vp_in (upd f i v j) nt := by
  intro j hj
  by_cases h : j = i
  · subst h; rw [pk_us]; exact hv
  · rw [pk_un h]; exact hd j hj
theorem dz_ix40 {B : dB} {nt k : Nat} {x : Int32} (hB : dz_B B nt k) (h : ∃ i : Nat, i < k ∧ x = nI i) : vp_in x 40 := by
  obtain ⟨i, hi, rfl⟩ := h
  exact vp_in_nI (by have := hB.1; have := hB.2.1; omega) (by decide)
theorem dz_ix40p {B : dB} {nt k : Nat} {x : Int32} {P : Prop} (hB : dz_B B nt k) (h : ∃ i : Nat, x = nI i ∧ i < k ∧ P) : vp_in x 40 := by
  obtain ⟨i, e, hi, -⟩ := h
  exact dz_ix40 hB ⟨i, hi, e⟩
end
section
def fX3_all_loop (B : dB) : Nat → (Nat → Int32) → Int32 → (Nat → Int32)
  | 0, B5, _ => B5
  | n + 1, B5, x1 => (if B.1 ≤ x1 then B5 else fX3_all_loop B n (upd B5 x1.toNatClampNeg x1) (x1 + 1))
set_option maxHeartbeats 4000000 in
set_option maxRecDepth 100000 in
theorem kX3_all_loop {p : Program} {l : Launch} {e : Env} {s : State} {m : MethodId} {args : Array Value} {below : List Frame} {meth : Method} {c : Code} {A : Nat → Prop} {Q : State → Prop} {D : va_G} {cI cL : ClassId} {a : Nat → Nat} {B : dB} {S : dS} {V : dV} {O : dO} {G : dG} {F : dF} {T : dT} {nt : Nat} (C : zw_C p s m args c D (zw_tys cI cL) A RX3 cX3_all 2) (g1 : nt ≤ 40) (g2 : B.1 = nI nt) : ∀ (n : Nat) (B5 : (Nat → Int32)) (x1 : Int32) (q : (Nat → Int32)), (∃ i : Nat, x1 = nI i ∧ i ≤ nt ∧ nt < i + n) → fX3_all_loop B n B5 x1 = q → (zw_W p l e (zw_rm 0 0) s m args below meth c D A 2 Q 0 0 (wD cI cL a (B.1, B.2.1, B.2.2.1, B.2.2.2.1, B.2.2.2.2.1, q, B.2.2.2.2.2.2) S V O G F T) 23 [(0, .ref (a 0))] []) → zw_W p l e (zw_rm 0 0) s m args below meth c D A 2 Q 0 0 (wD cI cL a (B.1, B.2.1, B.2.2.1, B.2.2.2.1, B.2.2.2.2.1, B5, B.2.2.2.2.2.2) S V O G F T) 2 [(0, .ref (a 0)), (1, .int x1)] [] := by
  intro n
  induction n with
  | zero =>
    intro B5 x1 q hI hF kx
    obtain ⟨i, -, h3, h4⟩ := hI; exact absurd h4 (by omega)
  | succ n ih =>
    intro B5 x1 q hI hF kx
    obtain ⟨i, z1, hi, hn⟩ := hI
    rw [fX3_all_loop] at hF
    refine zw_iload_n C dX3_all_2 1 rfl rfl ?_
    refine zw_aload_n C dX3_all_3 0 rfl rfl ?_
    refine zw_get C FX3 0 1 (v := .int B.1) rfl (by decide) lkX3_13 rfl dX3_all_4 ?_
    refine zw_icmp_ge C 23 dX3_all_7 (by decide) (fun h1 => ?_) (fun h1 => ?_)
    · rw [if_pos h1] at hF
      subst hF
      exact zw_locals [0] rfl kx
    · rw [if_neg h1] at hF
      refine zw_aload_n C dX3_all_10 0 rfl rfl ?_
      refine zw_get C FX3 0 3 (v := .ref (a 3)) rfl (by decide) lkX3_20 rfl dX3_all_11 ?_
      refine zw_iload_n C dX3_all_14 1 rfl rfl ?_
      refine zw_iload_n C dX3_all_15 1 rfl rfl ?_
      refine zw_iast C 3 0 (f := B5) (i := x1) (ws2 := (wD cI cL a (B.1, B.2.1, B.2.2.1, B.2.2.2.1, B.2.2.2.2.1, (upd B5 x1.toNatClampNeg x1), B.2.2.2.2.2.2) S V O G F T)) rfl rfl (by rw [z1]; exact vp_in_nI (by have := dz_lt1 g2 z1 (by assumption) hi g1; omega) (by decide)) rfl dX3_all_16 ?_
      refine zw_iinc C (j := 1) (v := x1 + 1) dX3_all_17 rfl rfl (by decide) rfl ?_
      refine zw_goto C 2 dX3_all_20 (by decide) ?_
      refine zw_locals [1, 0] (lv2 := [(0, .ref (a 0)), (1, .int (x1 + 1))]) rfl ?_
      exact ih (upd B5 x1.toNatClampNeg x1) (x1 + 1) q ⟨i + 1, by rw [z1]; exact nI_1 i, dz_lt1 g2 z1 (by assumption) hi g1, by omega⟩ hF kx
def fX3_all (B : dB) : Int32 × Int32 × (Nat → Int32) := (zw_l (fX3_all_loop B 41 B.2.2.2.2.2.1 0) (fun q1 => (B.1, B.1, q1)))
set_option maxHeartbeats 4000000 in
set_option maxRecDepth 100000 in
theorem kX3_all {l : Launch} {D : va_G} {cI cL : ClassId} {a : Nat → Nat} {B : dB} {S : dS} {V : dV} {O : dO} {G : dG} {F : dF} {T : dT} {q : Int32 × Int32 × (Nat → Int32)} {nt k : Nat} (hy1 : dz_B B nt k) (hF : fX3_all B = q) : zw_Mi l yX3_all cX3_all 2 .int D (zw_tys cI cL) (zw_rm 0 0) [.ref (a 0)] (wD cI cL a B S V O G F T) (wD cI cL a (B.1, q.2.1, B.2.2.1, B.2.2.2.1, B.2.2.2.2.1, q.2.2, B.2.2.2.2.2.2) S V O G F T) q.1 := by
  unfold fX3_all at hF
  refine zw_Mi_of (own := RX3) (by decide) rfl (Nat.le_of_ble_eq_true rfl) ?_
  intro p e s m args below meth c A C hr hlk
  refine zw_eq (lv2 := [(0, .ref (a 0))]) rfl rfl rfl ?_
  refine zw_iconst C (v := 0) dX3_all_0 (by decide) ?_
  refine zw_istore_n C dX3_all_1 rfl (by decide) rfl ?_
  obtain ⟨q1, e2⟩ : ∃ z, fX3_all_loop B 41 B.2.2.2.2.2.1 0 = z := ⟨_, rfl⟩
  rw [zw_l_eq e2] at hF
  refine zw_locals [1, 0] (lv2 := [(0, .ref (a 0)), (1, .int 0)]) rfl ?_
  refine kX3_all_loop C hy1.1 hy1.2.2.1 41 B.2.2.2.2.2.1 0 q1 ⟨0, rfl, Nat.zero_le _, by have := hy1.1; omega⟩ e2 ?_
  refine zw_aload_n C dX3_all_23 0 rfl rfl ?_
  refine zw_aload_n C dX3_all_24 0 rfl rfl ?_
  refine zw_get C FX3 0 1 (v := .int B.1) rfl (by decide) lkX3_13 rfl dX3_all_25 ?_
  refine zw_put C FX3 GX3 0 5 (v := .int B.1) (ws2 := (wD cI cL a (B.1, B.1, B.2.2.1, B.2.2.2.1, B.2.2.2.2.1, q1, B.2.2.2.2.2.2) S V O G F T)) rfl (by decide) lkX3_27 rfl rfl rfl (Nat.le_of_ble_eq_true rfl) rfl dX3_all_28 ?_
  refine zw_aload_n C dX3_all_31 0 rfl rfl ?_
  refine zw_get C FX3 0 5 (v := .int B.1) rfl (by decide) lkX3_27 rfl dX3_all_32 ?_
  subst hF
  exact zw_ireturn C hr hlk dX3_all_35 rfl rfl
def fX3_sum_loop (B : dB) (S : dS) (V : dV) (p1 : Int32) : Nat → (Nat → Int64) → (Nat → Int64) → dT → Int64 → Int32 → (Nat → Int64) × (Nat → Int64) × dT × Int64
  | 0, S3, V3, T, x2, _ => (S3, V3, T, x2)
  | n + 1, S3, V3, T, x2, x4 => (if B.2.1 ≤ x4 then (S3, V3, T, x2) else (if (fX2_hasFailure T) = 0 then (zw_l ((zA B.2.2.2.1 B.2.2.2.2.1 S.1 S.2.1 S.2.2.1 V.1 V.2.1 V.2.2.1 73).1 (S3, V3, T) p1 (B.2.2.2.2.2.1 x4.toNatClampNeg)) (fun q3 => fX3_sum_loop B S V p1 n q3.2.1 q3.2.2.1 q3.2.2.2 (x2 + q3.1) (x4 + 1))) else (S3, V3, T, x2)))
set_option maxHeartbeats 4000000 in
set_option maxRecDepth 100000 in
theorem kX3_sum_loop {p : Program} {l : Launch} {e : Env} {s : State} {m : MethodId} {args : Array Value} {below : List Frame} {meth : Method} {c : Code} {A : Nat → Prop} {Q : State → Prop} {D : va_G} {cI cL : ClassId} {a : Nat → Nat} {B : dB} {S : dS} {V : dV} {O : dO} {G : dG} {F : dF} {p1 : Int32} {nt k sn vn on : Nat} {rs rv ro : Nat → Nat} (C : zw_C p s m args c D (zw_tys cI cL) A RX3 cX3_sum 5) (hy1 : dz_B B nt k) (hy2 : dz_K S V O sn vn on rs rv ro) (hp : vp_in p1 sn) : ∀ (n : Nat) (S3 : (Nat → Int64)) (V3 : (Nat → Int64)) (T : dT) (x2 : Int64) (x4 : Int32) (q : (Nat → Int64) × (Nat → Int64) × dT × Int64), (∃ i : Nat, x4 = nI i ∧ i ≤ k ∧ k < i + n) → fX3_sum_loop B S V p1 n S3 V3 T x2 x4 = q → (zw_W p l e (zw_rm 153 4604) s m args below meth c D A 5 Q 0 0 (wD cI cL a B (S.1, S.2.1, S.2.2.1, q.1, S.2.2.2.2) (V.1, V.2.1, V.2.2.1, q.2.1, V.2.2.2.2) O G F q.2.2.1) 71 [(0, .ref (a 0)), (1, .int p1), (2, .long q.2.2.2)] []) → zw_W p l e (zw_rm 153 4604) s m args below meth c D A 5 Q 0 0 (wD cI cL a B (S.1, S.2.1, S.2.2.1, S3, S.2.2.2.2) (V.1, V.2.1, V.2.2.1, V3, V.2.2.2.2) O G F T) 31 [(0, .ref (a 0)), (1, .int p1), (2, .long x2), (4, .int x4)] [] := by
  intro n
  induction n with
  | zero =>
    intro S3 V3 T x2 x4 q hI hF kx
    obtain ⟨i, -, h3, h4⟩ := hI; exact absurd h4 (by omega)
  | succ n ih =>
    intro S3 V3 T x2 x4 q hI hF kx
    obtain ⟨i, z4, hi, hn⟩ := hI
    rw [fX3_sum_loop] at hF
    refine zw_iload C dX3_sum_31 3 rfl ?_
    refine zw_aload_n C dX3_sum_33 0 rfl rfl ?_
    refine zw_get C FX3 0 5 (v := .int B.2.1) rfl (by decide) lkX3_27 rfl dX3_sum_34 ?_
    refine zw_icmp_ge C 71 dX3_sum_37 (by decide) (fun h1 => ?_) (fun h1 => ?_)
    · rw [if_pos h1] at hF
      subst hF
      exact zw_locals [0, 1, 2] rfl kx
    · rw [if_neg h1] at hF
      refine zw_aload_n C dX3_sum_40 0 rfl rfl ?_
      refine zw_get C FX3 0 11 (v := .ref (a 30)) rfl (by decide) lkX3_56 rfl dX3_sum_41 ?_
      refine zw_calli C kvX3_110 (kX2_hasFailure rfl) ⟨rfl, rfl, ⟨by decide, by decide⟩, by decide, by decide⟩ FX2 30 (As := []) (rest := []) rfl rfl rfl (Nat.le_of_ble_eq_true rfl) dX3_sum_44 ?_
      refine zw_if_ne C 71 dX3_sum_47 (by decide) (fun h2 => ?_) (fun h2 => ?_)
      · rw [if_neg h2] at hF
        subst hF
        exact zw_locals [0, 1, 2] rfl kx
      · rw [if_pos h2] at hF
        refine zw_lload_n C dX3_sum_50 2 rfl rfl ?_
        refine zw_aload_n C dX3_sum_51 0 rfl rfl ?_
        refine zw_iload_n C dX3_sum_52 1 rfl rfl ?_
        refine zw_aload_n C dX3_sum_53 0 rfl rfl ?_
        refine zw_get C FX3 0 3 (v := .ref (a 3)) rfl (by decide) lkX3_20 rfl dX3_sum_54 ?_
        refine zw_iload C dX3_sum_57 3 rfl ?_
        refine zw_iald C 3 0 (f := B.2.2.2.2.2.1) (i := x4) rfl rfl (dz_ixl hy1 z4 hi (by assumption)) dX3_sum_59 ?_
        obtain ⟨q3, e4⟩ : ∃ z, (zA B.2.2.2.1 B.2.2.2.2.1 S.1 S.2.1 S.2.2.1 V.1 V.2.1 V.2.2.1 73).1 (S3, V3, T) p1 (B.2.2.2.2.2.1 x4.toNatClampNeg) = z := ⟨_, rfl⟩
        rw [zw_l_eq e4] at hF
        refine zw_calll C kvX3_106 (kAS hy2 hy1.1 (S3, V3, T) p1 (B.2.2.2.2.2.1 x4.toNatClampNeg) _ hp (dz_li hy1 z4 hi (by assumption)) e4) ⟨rfl, rfl, ⟨by decide, by decide⟩, by decide, by decide⟩ FX3 0 (As := [.int p1, .int (B.2.2.2.2.2.1 x4.toNatClampNeg)]) (rest := [.long x2]) rfl rfl rfl (Nat.le_of_ble_eq_true rfl) dX3_sum_60 ?_
        refine zw_ladd C dX3_sum_63 ?_
        refine zw_lstore_n C dX3_sum_64 rfl (by decide) rfl ?_
        refine zw_iinc C (j := 3) (v := x4 + 1) dX3_sum_65 rfl rfl (by decide) rfl ?_
        refine zw_goto C 31 dX3_sum_68 (by decide) ?_
        refine zw_locals [2, 3, 1, 0] (lv2 := [(0, .ref (a 0)), (1, .int p1), (2, .long (x2 + q3.1)), (4, .int (x4 + 1))]) rfl ?_
        exact ih q3.2.1 q3.2.2.1 q3.2.2.2 (x2 + q3.1) (x4 + 1) q ⟨i + 1, by rw [z4]; exact nI_1 i, dz_lk hy1 z4 (by assumption) hi, by omega⟩ hF kx
def fX3_sum (B : dB) (S : dS) (V : dV) (T : dT) (p1 : Int32) : Int32 × Int64 × (Nat → Int64) × (Nat → Int64) × dT := (if (fX1_has S p1) = 0 then ((-1), B.2.2.1, S.2.2.2.1, V.2.2.2.1, T) else (zw_l (fX2_opensCall T) (fun q2 => (if q2.1 = 0 then ((-2), B.2.2.1, S.2.2.2.1, V.2.2.2.1, q2.2) else (zw_l (fX3_sum_loop B S V p1 41 S.2.2.2.1 V.2.2.2.1 q2.2 0 0) (fun q5 => (if (fX2_hasFailure q5.2.2.1) = 0 then (1, q5.2.2.2, q5.1, q5.2.1, q5.2.2.1) else (zw_l (fX2_endFailedCall q5.2.2.1) (fun q8 => (q8.1, B.2.2.1, q5.1, q5.2.1, q8.2))))))))))
set_option maxHeartbeats 4000000 in
set_option maxRecDepth 100000 in
theorem kX3_sum {l : Launch} {D : va_G} {cI cL : ClassId} {a : Nat → Nat} {B : dB} {S : dS} {V : dV} {O : dO} {G : dG} {F : dF} {T : dT} {p1 : Int32} {q : Int32 × Int64 × (Nat → Int64) × (Nat → Int64) × dT} {nt k sn vn on : Nat} {rs rv ro : Nat → Nat} (hy1 : dz_B B nt k) (hy2 : dz_K S V O sn vn on rs rv ro) (hF : fX3_sum B S V T p1 = q) : zw_Mi l yX3_sum cX3_sum 5 .int D (zw_tys cI cL) (zw_rm 153 4604) [.ref (a 0), .int p1] (wD cI cL a B S V O G F T) (wD cI cL a (B.1, B.2.1, q.2.1, B.2.2.2.1, B.2.2.2.2.1, B.2.2.2.2.2.1, B.2.2.2.2.2.2) (S.1, S.2.1, S.2.2.1, q.2.2.1, S.2.2.2.2) (V.1, V.2.1, V.2.2.1, q.2.2.2.1, V.2.2.2.2) O G F q.2.2.2.2) q.1 := by
  unfold fX3_sum at hF
  refine zw_Mi_of (own := RX3) (by decide) rfl (Nat.le_of_ble_eq_true rfl) ?_
  intro p e s m args below meth c A C hr hlk
  refine zw_eq (lv2 := [(0, .ref (a 0)), (1, .int p1)]) rfl rfl rfl ?_
  refine zw_aload_n C dX3_sum_0 0 rfl rfl ?_
  refine zw_get C FX3 0 6 (v := .ref (a 5)) rfl (by decide) lkX3_33 rfl dX3_sum_1 ?_
  refine zw_iload_n C dX3_sum_4 1 rfl rfl ?_
  refine zw_calli C kvX3_100 (kX1_has_S rfl) ⟨rfl, rfl, ⟨by decide, by decide⟩, by decide, by decide⟩ FX1 5 (As := [.int p1]) (rest := []) rfl rfl rfl (Nat.le_of_ble_eq_true rfl) dX3_sum_5 ?_
  refine zw_if_ne C 13 dX3_sum_8 (by decide) (fun h1 => ?_) (fun h1 => ?_)
  · rw [if_neg h1] at hF
    refine zw_aload_n C dX3_sum_13 0 rfl rfl ?_
    refine zw_get C FX3 0 11 (v := .ref (a 30)) rfl (by decide) lkX3_56 rfl dX3_sum_14 ?_
    obtain ⟨q2, e3⟩ : ∃ z, fX2_opensCall T = z := ⟨_, rfl⟩
    rw [zw_l_eq e3] at hF
    refine zw_calli C kvX3_103 (kX2_opensCall e3) ⟨rfl, rfl, ⟨by decide, by decide⟩, by decide, by decide⟩ FX2 30 (As := []) (rest := []) rfl rfl rfl (Nat.le_of_ble_eq_true rfl) dX3_sum_17 ?_
    refine zw_if_ne C 26 dX3_sum_20 (by decide) (fun h4 => ?_) (fun h4 => ?_)
    · rw [if_neg h4] at hF
      refine zw_lconst C (v := 0) dX3_sum_26 (by decide) ?_
      refine zw_lstore_n C dX3_sum_27 rfl (by decide) rfl ?_
      refine zw_iconst C (v := 0) dX3_sum_28 (by decide) ?_
      refine zw_istore C dX3_sum_29 (by decide) rfl ?_
      obtain ⟨q5, e6⟩ : ∃ z, fX3_sum_loop B S V p1 41 S.2.2.2.1 V.2.2.2.1 q2.2 0 0 = z := ⟨_, rfl⟩
      rw [zw_l_eq e6] at hF
      refine zw_locals [2, 3, 1, 0] (lv2 := [(0, .ref (a 0)), (1, .int p1), (2, .long 0), (4, .int 0)]) rfl ?_
      refine kX3_sum_loop C hy1 hy2 (dz_hasIn (by assumption) hy2.2.2.2.1 hy2.1) 41 S.2.2.2.1 V.2.2.2.1 q2.2 0 0 q5 ⟨0, rfl, Nat.zero_le _, by have := hy1.1; have := hy1.2.1; omega⟩ e6 ?_
      refine zw_aload_n C dX3_sum_71 0 rfl rfl ?_
      refine zw_get C FX3 0 11 (v := .ref (a 30)) rfl (by decide) lkX3_56 rfl dX3_sum_72 ?_
      refine zw_calli C kvX3_110 (kX2_hasFailure rfl) ⟨rfl, rfl, ⟨by decide, by decide⟩, by decide, by decide⟩ FX2 30 (As := []) (rest := []) rfl rfl rfl (Nat.le_of_ble_eq_true rfl) dX3_sum_75 ?_
      refine zw_if_eq C 89 dX3_sum_78 (by decide) (fun h7 => ?_) (fun h7 => ?_)
      · rw [if_pos h7] at hF
        refine zw_aload_n C dX3_sum_89 0 rfl rfl ?_
        refine zw_lload_n C dX3_sum_90 2 rfl rfl ?_
        refine zw_put C FX3 GX3 0 12 (v := .long q5.2.2.2) (ws2 := (wD cI cL a (B.1, B.2.1, q5.2.2.2, B.2.2.2.1, B.2.2.2.2.1, B.2.2.2.2.2.1, B.2.2.2.2.2.2) (S.1, S.2.1, S.2.2.1, q5.1, S.2.2.2.2) (V.1, V.2.1, V.2.2.1, q5.2.1, V.2.2.2.2) O G F q5.2.2.1)) rfl (by decide) lkX3_60 rfl rfl rfl (Nat.le_of_ble_eq_true rfl) rfl dX3_sum_91 ?_
        refine zw_iconst C (v := 1) dX3_sum_94 (by decide) ?_
        subst hF
        exact zw_ireturn C hr hlk dX3_sum_95 rfl rfl
      · rw [if_neg h7] at hF
        refine zw_aload_n C dX3_sum_81 0 rfl rfl ?_
        refine zw_get C FX3 0 11 (v := .ref (a 30)) rfl (by decide) lkX3_56 rfl dX3_sum_82 ?_
        obtain ⟨q8, e9⟩ : ∃ z, fX2_endFailedCall q5.2.2.1 = z := ⟨_, rfl⟩
        rw [zw_l_eq e9] at hF
        refine zw_calli C kvX3_113 (kX2_endFailedCall e9) ⟨rfl, rfl, ⟨by decide, by decide⟩, by decide, by decide⟩ FX2 30 (As := []) (rest := []) rfl rfl rfl (Nat.le_of_ble_eq_true rfl) dX3_sum_85 ?_
        subst hF
        exact zw_ireturn C hr hlk dX3_sum_88 rfl rfl
    · rw [if_pos h4] at hF
      refine zw_bipush C (v := (-2)) dX3_sum_23 (by decide) ?_
      subst hF
      exact zw_ireturn C hr hlk dX3_sum_25 rfl rfl
  · rw [if_pos h1] at hF
    refine zw_iconst C (v := (-1)) dX3_sum_11 (by decide) ?_
    subst hF
    exact zw_ireturn C hr hlk dX3_sum_12 rfl rfl
def fX3_sift_loop (B : dB) (S : dS) (V : dV) (p1 : Int32) : Nat → (Nat → Int32) → (Nat → Int64) → (Nat → Int64) → dT → Int32 → Int32 → (Nat → Int32) × (Nat → Int64) × (Nat → Int64) × dT × Int32
  | 0, B6, S3, V3, T, x2, _ => (B6, S3, V3, T, x2)
  | n + 1, B6, S3, V3, T, x2, x3 => (if B.2.1 ≤ x3 then (B6, S3, V3, T, x2) else (if (fX2_hasFailure T) = 0 then (zw_l ((zA B.2.2.2.1 B.2.2.2.2.1 S.1 S.2.1 S.2.2.1 V.1 V.2.1 V.2.2.1 73).2 (S3, V3, T) p1 (B.2.2.2.2.2.1 x3.toNatClampNeg)) (fun q3 => (if q3.1 = 0 then fX3_sift_loop B S V p1 n B6 q3.2.1 q3.2.2.1 q3.2.2.2 x2 (x3 + 1) else fX3_sift_loop B S V p1 n (upd B6 x2.toNatClampNeg (B.2.2.2.2.2.1 x3.toNatClampNeg)) q3.2.1 q3.2.2.1 q3.2.2.2 (x2 + 1) (x3 + 1)))) else (B6, S3, V3, T, x2)))
set_option maxHeartbeats 4000000 in
set_option maxRecDepth 100000 in
theorem kX3_sift_loop {p : Program} {l : Launch} {e : Env} {s : State} {m : MethodId} {args : Array Value} {below : List Frame} {meth : Method} {c : Code} {A : Nat → Prop} {Q : State → Prop} {D : va_G} {cI cL : ClassId} {a : Nat → Nat} {B : dB} {S : dS} {V : dV} {O : dO} {G : dG} {F : dF} {p1 : Int32} {nt k sn vn on : Nat} {rs rv ro : Nat → Nat} (C : zw_C p s m args c D (zw_tys cI cL) A RX3 cX3_sift 4) (hy1 : dz_B B nt k) (hy2 : dz_K S V O sn vn on rs rv ro) (hp : vp_in p1 vn) : ∀ (n : Nat) (B6 : (Nat → Int32)) (S3 : (Nat → Int64)) (V3 : (Nat → Int64)) (T : dT) (x2 : Int32) (x3 : Int32) (q : (Nat → Int32) × (Nat → Int64) × (Nat → Int64) × dT × Int32), (∃ i j : Nat, x3 = nI i ∧ x2 = nI j ∧ j ≤ i ∧ i ≤ k ∧ k < i + n) → fX3_sift_loop B S V p1 n B6 S3 V3 T x2 x3 = q → ((∃ j : Nat, j ≤ k ∧ q.2.2.2.2 = nI j) → zw_W p l e (zw_rm 153 4604) s m args below meth c D A 4 Q 0 0 (wD cI cL a (B.1, B.2.1, B.2.2.1, B.2.2.2.1, B.2.2.2.2.1, B.2.2.2.2.2.1, q.1) (S.1, S.2.1, S.2.2.1, q.2.1, S.2.2.2.2) (V.1, V.2.1, V.2.2.1, q.2.2.1, V.2.2.2.2) O G F q.2.2.2.1) 83 [(0, .ref (a 0)), (1, .int p1), (2, .int q.2.2.2.2)] []) → zw_W p l e (zw_rm 153 4604) s m args below meth c D A 4 Q 0 0 (wD cI cL a (B.1, B.2.1, B.2.2.1, B.2.2.2.1, B.2.2.2.2.1, B.2.2.2.2.2.1, B6) (S.1, S.2.1, S.2.2.1, S3, S.2.2.2.2) (V.1, V.2.1, V.2.2.1, V3, V.2.2.2.2) O G F T) 30 [(0, .ref (a 0)), (1, .int p1), (2, .int x2), (3, .int x3)] [] := by
  intro n
  induction n with
  | zero =>
    intro B6 S3 V3 T x2 x3 q hI hF kx
    obtain ⟨i, j, -, -, -, h3, h4⟩ := hI; exact absurd h4 (by omega)
  | succ n ih =>
    intro B6 S3 V3 T x2 x3 q hI hF kx
    obtain ⟨i, j, z3, z2, hj, hi, hn⟩ := hI
    rw [fX3_sift_loop] at hF
    refine zw_iload_n C dX3_sift_30 3 rfl rfl ?_
    refine zw_aload_n C dX3_sift_31 0 rfl rfl ?_
    refine zw_get C FX3 0 5 (v := .int B.2.1) rfl (by decide) lkX3_27 rfl dX3_sift_32 ?_
    refine zw_icmp_ge C 83 dX3_sift_35 (by decide) (fun h1 => ?_) (fun h1 => ?_)
    · rw [if_pos h1] at hF
      subst hF
      exact zw_locals [0, 1, 2] rfl (kx ⟨j, by omega, z2⟩)
    · rw [if_neg h1] at hF
      refine zw_aload_n C dX3_sift_38 0 rfl rfl ?_
      refine zw_get C FX3 0 11 (v := .ref (a 30)) rfl (by decide) lkX3_56 rfl dX3_sift_39 ?_
      refine zw_calli C kvX3_110 (kX2_hasFailure rfl) ⟨rfl, rfl, ⟨by decide, by decide⟩, by decide, by decide⟩ FX2 30 (As := []) (rest := []) rfl rfl rfl (Nat.le_of_ble_eq_true rfl) dX3_sift_42 ?_
      refine zw_if_ne C 83 dX3_sift_45 (by decide) (fun h2 => ?_) (fun h2 => ?_)
      · rw [if_neg h2] at hF
        subst hF
        exact zw_locals [0, 1, 2] rfl (kx ⟨j, by omega, z2⟩)
      · rw [if_pos h2] at hF
        refine zw_aload_n C dX3_sift_48 0 rfl rfl ?_
        refine zw_iload_n C dX3_sift_49 1 rfl rfl ?_
        refine zw_aload_n C dX3_sift_50 0 rfl rfl ?_
        refine zw_get C FX3 0 3 (v := .ref (a 3)) rfl (by decide) lkX3_20 rfl dX3_sift_51 ?_
        refine zw_iload_n C dX3_sift_54 3 rfl rfl ?_
        refine zw_iald C 3 0 (f := B.2.2.2.2.2.1) (i := x3) rfl rfl (dz_ixl hy1 z3 hi (by assumption)) dX3_sift_55 ?_
        obtain ⟨q3, e4⟩ : ∃ z, (zA B.2.2.2.1 B.2.2.2.2.1 S.1 S.2.1 S.2.2.1 V.1 V.2.1 V.2.2.1 73).2 (S3, V3, T) p1 (B.2.2.2.2.2.1 x3.toNatClampNeg) = z := ⟨_, rfl⟩
        rw [zw_l_eq e4] at hF
        refine zw_calli C kvX3_117 (kAV hy2 hy1.1 (S3, V3, T) p1 (B.2.2.2.2.2.1 x3.toNatClampNeg) _ hp (dz_li hy1 z3 hi (by assumption)) e4) ⟨rfl, rfl, ⟨by decide, by decide⟩, by decide, by decide⟩ FX3 0 (As := [.int p1, .int (B.2.2.2.2.2.1 x3.toNatClampNeg)]) (rest := []) rfl rfl rfl (Nat.le_of_ble_eq_true rfl) dX3_sift_56 ?_
        refine zw_if_eq C 77 dX3_sift_59 (by decide) (fun h5 => ?_) (fun h5 => ?_)
        · rw [if_pos h5] at hF
          refine zw_iinc C (j := 3) (v := x3 + 1) dX3_sift_77 rfl rfl (by decide) rfl ?_
          refine zw_goto C 30 dX3_sift_80 (by decide) ?_
          refine zw_locals [1, 2, 3, 0] (lv2 := [(0, .ref (a 0)), (1, .int p1), (2, .int x2), (3, .int (x3 + 1))]) rfl ?_
          exact ih B6 q3.2.1 q3.2.2.1 q3.2.2.2 x2 (x3 + 1) q ⟨i + 1, j, by rw [z3]; exact nI_1 i, z2, by omega, dz_lk hy1 z3 (by assumption) hi, by omega⟩ hF kx
        · rw [if_neg h5] at hF
          refine zw_aload_n C dX3_sift_62 0 rfl rfl ?_
          refine zw_get C FX3 0 4 (v := .ref (a 4)) rfl (by decide) lkX3_24 rfl dX3_sift_63 ?_
          refine zw_iload_n C dX3_sift_66 2 rfl rfl ?_
          refine zw_aload_n C dX3_sift_67 0 rfl rfl ?_
          refine zw_get C FX3 0 3 (v := .ref (a 3)) rfl (by decide) lkX3_20 rfl dX3_sift_68 ?_
          refine zw_iload_n C dX3_sift_71 3 rfl rfl ?_
          refine zw_iald C 3 0 (f := B.2.2.2.2.2.1) (i := x3) rfl rfl (dz_ixl hy1 z3 hi (by assumption)) dX3_sift_72 ?_
          refine zw_iast C 4 0 (f := B6) (i := x2) (ws2 := (wD cI cL a (B.1, B.2.1, B.2.2.1, B.2.2.2.1, B.2.2.2.2.1, B.2.2.2.2.2.1, (upd B6 x2.toNatClampNeg (B.2.2.2.2.2.1 x3.toNatClampNeg))) (S.1, S.2.1, S.2.2.1, q3.2.1, S.2.2.2.2) (V.1, V.2.1, V.2.2.1, q3.2.2.1, V.2.2.2.2) O G F q3.2.2.2)) rfl rfl (dz_ixd hy1 z3 hi (by assumption) z2 hj) rfl dX3_sift_73 ?_
          refine zw_iinc C (j := 2) (v := x2 + 1) dX3_sift_74 rfl rfl (by decide) rfl ?_
          refine zw_iinc C (j := 3) (v := x3 + 1) dX3_sift_77 rfl rfl (by decide) rfl ?_
          refine zw_goto C 30 dX3_sift_80 (by decide) ?_
          refine zw_locals [2, 3, 1, 0] (lv2 := [(0, .ref (a 0)), (1, .int p1), (2, .int (x2 + 1)), (3, .int (x3 + 1))]) rfl ?_
          exact ih (upd B6 x2.toNatClampNeg (B.2.2.2.2.2.1 x3.toNatClampNeg)) q3.2.1 q3.2.2.1 q3.2.2.2 (x2 + 1) (x3 + 1) q ⟨i + 1, j + 1, by rw [z3]; exact nI_1 i, by rw [z2]; exact nI_1 j, by omega, dz_lk hy1 z3 (by assumption) hi, by omega⟩ hF kx
def fX3_sift (B : dB) (S : dS) (V : dV) (T : dT) (p1 : Int32) : Int32 × Int32 × (Nat → Int32) × (Nat → Int32) × (Nat → Int64) × (Nat → Int64) × dT := (if (fX1_has V p1) = 0 then ((-1), B.2.1, B.2.2.2.2.2.1, B.2.2.2.2.2.2, S.2.2.2.1, V.2.2.2.1, T) else (zw_l (fX2_opensCall T) (fun q2 => (if q2.1 = 0 then ((-2), B.2.1, B.2.2.2.2.2.1, B.2.2.2.2.2.2, S.2.2.2.1, V.2.2.2.1, q2.2) else (zw_l (fX3_sift_loop B S V p1 41 B.2.2.2.2.2.2 S.2.2.2.1 V.2.2.2.1 q2.2 0 0) (fun q5 => (if (fX2_hasFailure q5.2.2.2.1) = 0 then (zw_l (fX3_takeDraft B.2.2.2.2.2.1 q5.1 q5.2.2.2.2) (fun q8 => (q5.2.2.2.2, q8.1, q8.2, q5.1, q5.2.1, q5.2.2.1, q5.2.2.2.1))) else (zw_l (fX2_endFailedCall q5.2.2.2.1) (fun q10 => (q10.1, B.2.1, B.2.2.2.2.2.1, q5.1, q5.2.1, q5.2.2.1, q10.2))))))))))
set_option maxHeartbeats 4000000 in
set_option maxRecDepth 100000 in
theorem kX3_sift {l : Launch} {D : va_G} {cI cL : ClassId} {a : Nat → Nat} {B : dB} {S : dS} {V : dV} {O : dO} {G : dG} {F : dF} {T : dT} {p1 : Int32} {q : Int32 × Int32 × (Nat → Int32) × (Nat → Int32) × (Nat → Int64) × (Nat → Int64) × dT} {nt k sn vn on : Nat} {rs rv ro : Nat → Nat} (hy1 : dz_B B nt k) (hy2 : dz_K S V O sn vn on rs rv ro) (hF : fX3_sift B S V T p1 = q) : zw_Mi l yX3_sift cX3_sift 4 .int D (zw_tys cI cL) (zw_rm 153 4604) [.ref (a 0), .int p1] (wD cI cL a B S V O G F T) (wD cI cL a (B.1, q.2.1, B.2.2.1, B.2.2.2.1, B.2.2.2.2.1, q.2.2.1, q.2.2.2.1) (S.1, S.2.1, S.2.2.1, q.2.2.2.2.1, S.2.2.2.2) (V.1, V.2.1, V.2.2.1, q.2.2.2.2.2.1, V.2.2.2.2) O G F q.2.2.2.2.2.2) q.1 := by
  unfold fX3_sift at hF
  refine zw_Mi_of (own := RX3) (by decide) rfl (Nat.le_of_ble_eq_true rfl) ?_
  intro p e s m args below meth c A C hr hlk
  refine zw_eq (lv2 := [(0, .ref (a 0)), (1, .int p1)]) rfl rfl rfl ?_
  refine zw_aload_n C dX3_sift_0 0 rfl rfl ?_
  refine zw_get C FX3 0 7 (v := .ref (a 10)) rfl (by decide) lkX3_37 rfl dX3_sift_1 ?_
  refine zw_iload_n C dX3_sift_4 1 rfl rfl ?_
  refine zw_calli C kvX3_100 (kX1_has_V rfl) ⟨rfl, rfl, ⟨by decide, by decide⟩, by decide, by decide⟩ FX1 10 (As := [.int p1]) (rest := []) rfl rfl rfl (Nat.le_of_ble_eq_true rfl) dX3_sift_5 ?_
  refine zw_if_ne C 13 dX3_sift_8 (by decide) (fun h1 => ?_) (fun h1 => ?_)
  · rw [if_neg h1] at hF
    refine zw_aload_n C dX3_sift_13 0 rfl rfl ?_
    refine zw_get C FX3 0 11 (v := .ref (a 30)) rfl (by decide) lkX3_56 rfl dX3_sift_14 ?_
    obtain ⟨q2, e3⟩ : ∃ z, fX2_opensCall T = z := ⟨_, rfl⟩
    rw [zw_l_eq e3] at hF
    refine zw_calli C kvX3_103 (kX2_opensCall e3) ⟨rfl, rfl, ⟨by decide, by decide⟩, by decide, by decide⟩ FX2 30 (As := []) (rest := []) rfl rfl rfl (Nat.le_of_ble_eq_true rfl) dX3_sift_17 ?_
    refine zw_if_ne C 26 dX3_sift_20 (by decide) (fun h4 => ?_) (fun h4 => ?_)
    · rw [if_neg h4] at hF
      refine zw_iconst C (v := 0) dX3_sift_26 (by decide) ?_
      refine zw_istore_n C dX3_sift_27 rfl (by decide) rfl ?_
      refine zw_iconst C (v := 0) dX3_sift_28 (by decide) ?_
      refine zw_istore_n C dX3_sift_29 rfl (by decide) rfl ?_
      obtain ⟨q5, e6⟩ : ∃ z, fX3_sift_loop B S V p1 41 B.2.2.2.2.2.2 S.2.2.2.1 V.2.2.2.1 q2.2 0 0 = z := ⟨_, rfl⟩
      rw [zw_l_eq e6] at hF
      refine zw_locals [2, 3, 1, 0] (lv2 := [(0, .ref (a 0)), (1, .int p1), (2, .int 0), (3, .int 0)]) rfl ?_
      refine kX3_sift_loop C hy1 hy2 (dz_hasIn (by assumption) hy2.2.2.2.2.1 hy2.2.1) 41 B.2.2.2.2.2.2 S.2.2.2.1 V.2.2.2.1 q2.2 0 0 q5 ⟨0, 0, rfl, rfl, Nat.le_refl _, Nat.zero_le _, by have := hy1.1; have := hy1.2.1; omega⟩ e6 (fun e6p => ?_)
      refine zw_aload_n C dX3_sift_83 0 rfl rfl ?_
      refine zw_get C FX3 0 11 (v := .ref (a 30)) rfl (by decide) lkX3_56 rfl dX3_sift_84 ?_
      refine zw_calli C kvX3_110 (kX2_hasFailure rfl) ⟨rfl, rfl, ⟨by decide, by decide⟩, by decide, by decide⟩ FX2 30 (As := []) (rest := []) rfl rfl rfl (Nat.le_of_ble_eq_true rfl) dX3_sift_87 ?_
      refine zw_if_eq C 101 dX3_sift_90 (by decide) (fun h7 => ?_) (fun h7 => ?_)
      · rw [if_pos h7] at hF
        refine zw_aload_n C dX3_sift_101 0 rfl rfl ?_
        refine zw_iload_n C dX3_sift_102 2 rfl rfl ?_
        obtain ⟨q8, e9⟩ : ∃ z, fX3_takeDraft B.2.2.2.2.2.1 q5.1 q5.2.2.2.2 = z := ⟨_, rfl⟩
        rw [zw_l_eq e9] at hF
        refine zw_callv C kvX3_121 (kX3_takeDraft (dz_pl hy1 (by assumption)) e9) ⟨rfl, rfl, ⟨by decide, by decide⟩, by decide, by decide⟩ FX3 0 (As := [.int q5.2.2.2.2]) (rest := []) rfl rfl rfl (Nat.le_of_ble_eq_true rfl) dX3_sift_103 ?_
        refine zw_iload_n C dX3_sift_106 2 rfl rfl ?_
        subst hF
        exact zw_ireturn C hr hlk dX3_sift_107 rfl rfl
      · rw [if_neg h7] at hF
        refine zw_aload_n C dX3_sift_93 0 rfl rfl ?_
        refine zw_get C FX3 0 11 (v := .ref (a 30)) rfl (by decide) lkX3_56 rfl dX3_sift_94 ?_
        obtain ⟨q10, e11⟩ : ∃ z, fX2_endFailedCall q5.2.2.2.1 = z := ⟨_, rfl⟩
        rw [zw_l_eq e11] at hF
        refine zw_calli C kvX3_113 (kX2_endFailedCall e11) ⟨rfl, rfl, ⟨by decide, by decide⟩, by decide, by decide⟩ FX2 30 (As := []) (rest := []) rfl rfl rfl (Nat.le_of_ble_eq_true rfl) dX3_sift_97 ?_
        subst hF
        exact zw_ireturn C hr hlk dX3_sift_100 rfl rfl
    · rw [if_pos h4] at hF
      refine zw_bipush C (v := (-2)) dX3_sift_23 (by decide) ?_
      subst hF
      exact zw_ireturn C hr hlk dX3_sift_25 rfl rfl
  · rw [if_pos h1] at hF
    refine zw_iconst C (v := (-1)) dX3_sift_11 (by decide) ?_
    subst hF
    exact zw_ireturn C hr hlk dX3_sift_12 rfl rfl
end
section
def fX3_makeNow (B : dB) (S : dS) (V : dV) (T : dT) (p1 : Int32) (p2 : Int32) : Int32 × dS × (Nat → Int64) × dT := (zw_l (fX2_opensCall T) (fun q1 => (if q1.1 = 0 then ((-2), S, V.2.2.2.1, q1.2) else (zw_l ((zA B.2.2.2.1 B.2.2.2.2.1 S.1 S.2.1 S.2.2.1 V.1 V.2.1 V.2.2.1 73).1 (S.2.2.2.1, V.2.2.2.1, q1.2) p1 p2) (fun q4 => (if (fX2_hasFailure q4.2.2.2) = 0 then (zw_l (fX1_make (S.1, S.2.1, S.2.2.1, q4.2.1, S.2.2.2.2) 9 p1 p2 q4.1) (fun q7 => (q7.1, q7.2, q4.2.2.1, q4.2.2.2))) else (zw_l (fX2_endFailedCall q4.2.2.2) (fun q9 => (q9.1, (S.1, S.2.1, S.2.2.1, q4.2.1, S.2.2.2.2), q4.2.2.1, q9.2)))))))))
set_option maxHeartbeats 4000000 in
set_option maxRecDepth 100000 in
theorem kX3_makeNow {l : Launch} {D : va_G} {cI cL : ClassId} {a : Nat → Nat} {B : dB} {S : dS} {V : dV} {O : dO} {G : dG} {F : dF} {T : dT} {p1 : Int32} {p2 : Int32} {q : Int32 × dS × (Nat → Int64) × dT} {nt k sn vn on : Nat} {rs rv ro : Nat → Nat} (hy1 : dz_B B nt k) (hy2 : dz_K S V O sn vn on rs rv ro) (hy3 : vp_in p1 sn) (hy4 : vp_in p2 nt) (hy5 : vp_in S.2.2.2.2 24) (hF : fX3_makeNow B S V T p1 p2 = q) : zw_Mi l yX3_makeNow cX3_makeNow 5 .int D (zw_tys cI cL) (zw_rm 153 4604) [.ref (a 0), .int p1, .int p2] (wD cI cL a B S V O G F T) (wD cI cL a B q.2.1 (V.1, V.2.1, V.2.2.1, q.2.2.1, V.2.2.2.2) O G F q.2.2.2) q.1 := by
  unfold fX3_makeNow at hF
  refine zw_Mi_of (own := RX3) (by decide) rfl (Nat.le_of_ble_eq_true rfl) ?_
  intro p e s m args below meth c A C hr hlk
  refine zw_eq (lv2 := [(0, .ref (a 0)), (1, .int p1), (2, .int p2)]) rfl rfl rfl ?_
  refine zw_aload_n C dX3_makeNow_0 0 rfl rfl ?_
  refine zw_get C FX3 0 11 (v := .ref (a 30)) rfl (by decide) lkX3_56 rfl dX3_makeNow_1 ?_
  obtain ⟨q1, e2⟩ : ∃ z, fX2_opensCall T = z := ⟨_, rfl⟩
  rw [zw_l_eq e2] at hF
  refine zw_calli C kvX3_103 (kX2_opensCall e2) ⟨rfl, rfl, ⟨by decide, by decide⟩, by decide, by decide⟩ FX2 30 (As := []) (rest := []) rfl rfl rfl (Nat.le_of_ble_eq_true rfl) dX3_makeNow_4 ?_
  refine zw_if_ne C 13 dX3_makeNow_7 (by decide) (fun h3 => ?_) (fun h3 => ?_)
  · rw [if_neg h3] at hF
    refine zw_aload_n C dX3_makeNow_13 0 rfl rfl ?_
    refine zw_iload_n C dX3_makeNow_14 1 rfl rfl ?_
    refine zw_iload_n C dX3_makeNow_15 2 rfl rfl ?_
    obtain ⟨q4, e5⟩ : ∃ z, (zA B.2.2.2.1 B.2.2.2.2.1 S.1 S.2.1 S.2.2.1 V.1 V.2.1 V.2.2.1 73).1 (S.2.2.2.1, V.2.2.2.1, q1.2) p1 p2 = z := ⟨_, rfl⟩
    rw [zw_l_eq e5] at hF
    refine zw_calll C kvX3_106 (kAS hy2 hy1.1 (S.2.2.2.1, V.2.2.2.1, q1.2) p1 p2 _ hy3 hy4 e5) ⟨rfl, rfl, ⟨by decide, by decide⟩, by decide, by decide⟩ FX3 0 (As := [.int p1, .int p2]) (rest := []) rfl rfl rfl (Nat.le_of_ble_eq_true rfl) dX3_makeNow_16 ?_
    refine zw_lstore_n C dX3_makeNow_19 rfl (by decide) rfl ?_
    refine zw_aload_n C dX3_makeNow_20 1 rfl rfl ?_
    refine zw_get C FX3 0 11 (v := .ref (a 30)) rfl (by decide) lkX3_56 rfl dX3_makeNow_21 ?_
    refine zw_calli C kvX3_110 (kX2_hasFailure rfl) ⟨rfl, rfl, ⟨by decide, by decide⟩, by decide, by decide⟩ FX2 30 (As := []) (rest := []) rfl rfl rfl (Nat.le_of_ble_eq_true rfl) dX3_makeNow_24 ?_
    refine zw_if_eq C 38 dX3_makeNow_27 (by decide) (fun h6 => ?_) (fun h6 => ?_)
    · rw [if_pos h6] at hF
      refine zw_aload_n C dX3_makeNow_38 1 rfl rfl ?_
      refine zw_get C FX3 0 6 (v := .ref (a 5)) rfl (by decide) lkX3_33 rfl dX3_makeNow_39 ?_
      refine zw_bipush C (v := 9) dX3_makeNow_42 (by decide) ?_
      refine zw_iload_n C dX3_makeNow_44 2 rfl rfl ?_
      refine zw_iload_n C dX3_makeNow_45 3 rfl rfl ?_
      refine zw_lload_n C dX3_makeNow_46 0 rfl rfl ?_
      obtain ⟨q7, e8⟩ : ∃ z, fX1_make (S.1, S.2.1, S.2.2.1, q4.2.1, S.2.2.2.2) 9 p1 p2 q4.1 = z := ⟨_, rfl⟩
      rw [zw_l_eq e8] at hF
      refine zw_calli C kvX3_90 (kX1_make_S hy5 e8) ⟨rfl, rfl, ⟨by decide, by decide⟩, by decide, by decide⟩ FX1 5 (As := [.int 9, .int p1, .int p2, .long q4.1]) (rest := []) rfl rfl rfl (Nat.le_of_ble_eq_true rfl) dX3_makeNow_47 ?_
      subst hF
      exact zw_ireturn C hr hlk dX3_makeNow_50 rfl rfl
    · rw [if_neg h6] at hF
      refine zw_aload_n C dX3_makeNow_30 1 rfl rfl ?_
      refine zw_get C FX3 0 11 (v := .ref (a 30)) rfl (by decide) lkX3_56 rfl dX3_makeNow_31 ?_
      obtain ⟨q9, e10⟩ : ∃ z, fX2_endFailedCall q4.2.2.2 = z := ⟨_, rfl⟩
      rw [zw_l_eq e10] at hF
      refine zw_calli C kvX3_113 (kX2_endFailedCall e10) ⟨rfl, rfl, ⟨by decide, by decide⟩, by decide, by decide⟩ FX2 30 (As := []) (rest := []) rfl rfl rfl (Nat.le_of_ble_eq_true rfl) dX3_makeNow_34 ?_
      subst hF
      exact zw_ireturn C hr hlk dX3_makeNow_37 rfl rfl
  · rw [if_pos h3] at hF
    refine zw_bipush C (v := (-2)) dX3_makeNow_10 (by decide) ?_
    subst hF
    exact zw_ireturn C hr hlk dX3_makeNow_12 rfl rfl
def fX3_scale (B : dB) (S : dS) (V : dV) (T : dT) (p1 : Int32) (p2 : Int32) (p3 : Int32) : Int32 × dS × (Nat → Int64) × dT := (if (fX3_canMakeScale B S V p1 p2 p3) = 0 then ((-1), S, V.2.2.2.1, T) else (if (fX1_isFull S) = 0 then (if p1 = 9 then (zw_l (fX3_makeNow B S V T p2 p3) (fun q9 => (q9.1, q9.2.1, q9.2.2.1, q9.2.2.2))) else (if p1 = 8 then (zw_l (fX1_make S p1 p2 p3 (B.2.2.2.2.1 p2.toNatClampNeg)) (fun q7 => (q7.1, q7.2, V.2.2.2.1, T))) else (zw_l (fX1_make S p1 p2 p3 0) (fun q5 => (q5.1, q5.2, V.2.2.2.1, T))))) else ((-2), S, V.2.2.2.1, T)))
set_option maxHeartbeats 4000000 in
set_option maxRecDepth 100000 in
theorem kX3_scale {l : Launch} {D : va_G} {cI cL : ClassId} {a : Nat → Nat} {B : dB} {S : dS} {V : dV} {O : dO} {G : dG} {F : dF} {T : dT} {p1 : Int32} {p2 : Int32} {p3 : Int32} {q : Int32 × dS × (Nat → Int64) × dT} {nt k sn vn on : Nat} {rs rv ro : Nat → Nat} (hy1 : dz_B B nt k) (hy2 : dz_K S V O sn vn on rs rv ro) (hF : fX3_scale B S V T p1 p2 p3 = q) : zw_Mi l yX3_scale cX3_scale 4 .int D (zw_tys cI cL) (zw_rm 154 4628) [.ref (a 0), .int p1, .int p2, .int p3] (wD cI cL a B S V O G F T) (wD cI cL a B q.2.1 (V.1, V.2.1, V.2.2.1, q.2.2.1, V.2.2.2.2) O G F q.2.2.2) q.1 := by
  unfold fX3_scale at hF
  refine zw_Mi_of (own := RX3) (by decide) rfl (Nat.le_of_ble_eq_true rfl) ?_
  intro p e s m args below meth c A C hr hlk
  refine zw_eq (lv2 := [(0, .ref (a 0)), (1, .int p1), (2, .int p2), (3, .int p3)]) rfl rfl rfl ?_
  refine zw_aload_n C dX3_scale_0 0 rfl rfl ?_
  refine zw_iload_n C dX3_scale_1 1 rfl rfl ?_
  refine zw_iload_n C dX3_scale_2 2 rfl rfl ?_
  refine zw_iload_n C dX3_scale_3 3 rfl rfl ?_
  refine zw_calli C kvX3_79 (kX3_canMakeScale rfl) ⟨rfl, rfl, ⟨by decide, by decide⟩, by decide, by decide⟩ FX3 0 (As := [.int p1, .int p2, .int p3]) (rest := []) rfl rfl rfl (Nat.le_of_ble_eq_true rfl) dX3_scale_4 ?_
  refine zw_if_ne C 12 dX3_scale_7 (by decide) (fun h1 => ?_) (fun h1 => ?_)
  · rw [if_neg h1] at hF
    refine zw_aload_n C dX3_scale_12 0 rfl rfl ?_
    refine zw_get C FX3 0 6 (v := .ref (a 5)) rfl (by decide) lkX3_33 rfl dX3_scale_13 ?_
    refine zw_calli C kvX3_83 (kX1_isFull_S rfl) ⟨rfl, rfl, ⟨by decide, by decide⟩, by decide, by decide⟩ FX1 5 (As := []) (rest := []) rfl rfl rfl (Nat.le_of_ble_eq_true rfl) dX3_scale_16 ?_
    refine zw_if_eq C 25 dX3_scale_19 (by decide) (fun h2 => ?_) (fun h2 => ?_)
    · rw [if_pos h2] at hF
      refine zw_iload_n C dX3_scale_25 1 rfl rfl ?_
      refine zw_bipush C (v := 9) dX3_scale_26 (by decide) ?_
      refine zw_icmp_ne C 38 dX3_scale_28 (by decide) (fun h3 => ?_) (fun h3 => ?_)
      · rw [if_neg h3] at hF
        refine zw_aload_n C dX3_scale_38 0 rfl rfl ?_
        refine zw_get C FX3 0 6 (v := .ref (a 5)) rfl (by decide) lkX3_33 rfl dX3_scale_39 ?_
        refine zw_iload_n C dX3_scale_42 1 rfl rfl ?_
        refine zw_iload_n C dX3_scale_43 2 rfl rfl ?_
        refine zw_iload_n C dX3_scale_44 3 rfl rfl ?_
        refine zw_iload_n C dX3_scale_45 1 rfl rfl ?_
        refine zw_bipush C (v := 8) dX3_scale_46 (by decide) ?_
        refine zw_icmp_ne C 60 dX3_scale_48 (by decide) (fun h4 => ?_) (fun h4 => ?_)
        · rw [if_neg h4] at hF
          refine zw_lconst C (v := 0) dX3_scale_60 (by decide) ?_
          obtain ⟨q5, e6⟩ : ∃ z, fX1_make S p1 p2 p3 0 = z := ⟨_, rfl⟩
          rw [zw_l_eq e6] at hF
          refine zw_calli C kvX3_90 (kX1_make_S (dz_notFull (by assumption) hy2.2.2.2.1 hy2.1).2 e6) ⟨rfl, rfl, ⟨by decide, by decide⟩, by decide, by decide⟩ FX1 5 (As := [.int p1, .int p2, .int p3, .long 0]) (rest := []) rfl rfl rfl (Nat.le_of_ble_eq_true rfl) dX3_scale_61 ?_
          subst hF
          exact zw_ireturn C hr hlk dX3_scale_64 rfl rfl
        · rw [if_pos h4] at hF
          refine zw_aload_n C dX3_scale_51 0 rfl rfl ?_
          refine zw_get C FX3 0 2 (v := .ref (a 2)) rfl (by decide) lkX3_17 rfl dX3_scale_52 ?_
          refine zw_iload_n C dX3_scale_55 2 rfl rfl ?_
          refine zw_lald C 2 1 (f := B.2.2.2.2.1) (i := p2) rfl rfl (dz_can8 (by assumption) (by assumption)) dX3_scale_56 ?_
          refine zw_goto C 61 dX3_scale_57 (by decide) ?_
          obtain ⟨q7, e8⟩ : ∃ z, fX1_make S p1 p2 p3 (B.2.2.2.2.1 p2.toNatClampNeg) = z := ⟨_, rfl⟩
          rw [zw_l_eq e8] at hF
          refine zw_calli C kvX3_90 (kX1_make_S (dz_notFull (by assumption) hy2.2.2.2.1 hy2.1).2 e8) ⟨rfl, rfl, ⟨by decide, by decide⟩, by decide, by decide⟩ FX1 5 (As := [.int p1, .int p2, .int p3, .long (B.2.2.2.2.1 p2.toNatClampNeg)]) (rest := []) rfl rfl rfl (Nat.le_of_ble_eq_true rfl) dX3_scale_61 ?_
          subst hF
          exact zw_ireturn C hr hlk dX3_scale_64 rfl rfl
      · rw [if_pos h3] at hF
        refine zw_aload_n C dX3_scale_31 0 rfl rfl ?_
        refine zw_iload_n C dX3_scale_32 2 rfl rfl ?_
        refine zw_iload_n C dX3_scale_33 3 rfl rfl ?_
        obtain ⟨q9, e10⟩ : ∃ z, fX3_makeNow B S V T p2 p3 = z := ⟨_, rfl⟩
        rw [zw_l_eq e10] at hF
        refine zw_calli C kvX3_87 (kX3_makeNow hy1 hy2 (dz_hasIn (dz_can9 (by assumption) (by assumption)).1 hy2.2.2.2.1 hy2.1) (dz_thingIn (dz_can9 (by assumption) (by assumption)).2 hy1.2.2.1 hy1.1) (dz_notFull (by assumption) hy2.2.2.2.1 hy2.1).2 e10) ⟨rfl, rfl, ⟨by decide, by decide⟩, by decide, by decide⟩ FX3 0 (As := [.int p2, .int p3]) (rest := []) rfl rfl rfl (Nat.le_of_ble_eq_true rfl) dX3_scale_34 ?_
        subst hF
        exact zw_ireturn C hr hlk dX3_scale_37 rfl rfl
    · rw [if_neg h2] at hF
      refine zw_bipush C (v := (-2)) dX3_scale_22 (by decide) ?_
      subst hF
      exact zw_ireturn C hr hlk dX3_scale_24 rfl rfl
  · rw [if_pos h1] at hF
    refine zw_iconst C (v := (-1)) dX3_scale_10 (by decide) ?_
    subst hF
    exact zw_ireturn C hr hlk dX3_scale_11 rfl rfl
end
section
def fX3_moveForward_loop (B : dB) (S : dS) (V : dV) (O : dO) (p1 x3 : Int32) : Nat → (Nat → Int32) → (Nat → Int64) → (Nat → Int64) → dT → Int32 → (Nat → Int32) × (Nat → Int64) × (Nat → Int64) × dT × Int32
  | 0, B6, S3, V3, T, x4 => (B6, S3, V3, T, x4)
  | n + 1, B6, S3, V3, T, x4 => (if x4 ≤ 0 then (B6, S3, V3, T, x4) else (zw_l (zO B.2.2.2.1 B.2.2.2.2.1 S.1 S.2.1 S.2.2.1 V.1 V.2.1 V.2.2.1 O.1 O.2.1 O.2.2.1 73 (S3, V3, T) p1 (B6 (x4 - 1).toNatClampNeg) x3) (fun q2 => (if q2.1 = 1 then fX3_moveForward_loop B S V O p1 x3 n (upd B6 x4.toNatClampNeg (B6 (x4 - 1).toNatClampNeg)) q2.2.1 q2.2.2.1 q2.2.2.2 (x4 + (-1)) else (B6, q2.2.1, q2.2.2.1, q2.2.2.2, x4)))))
set_option maxHeartbeats 4000000 in
set_option maxRecDepth 100000 in
theorem kX3_moveForward_loop {p : Program} {l : Launch} {e : Env} {s : State} {m : MethodId} {args : Array Value} {below : List Frame} {meth : Method} {c : Code} {A : Nat → Prop} {Q : State → Prop} {D : va_G} {cI cL : ClassId} {a : Nat → Nat} {B : dB} {S : dS} {V : dV} {O : dO} {G : dG} {F : dF} {x3 : Int32} {p1 p2 : Int32} {nt k sn vn on : Nat} {rs rv ro : Nat → Nat} (C : zw_C p s m args c D (zw_tys cI cL) A RX3 cX3_moveForward 5) (hy1 : dz_B B nt k) (hy2 : dz_K S V O sn vn on rs rv ro) (hp : vp_in p1 on) (h3 : vp_in x3 nt) : ∀ (n : Nat) (B6 : (Nat → Int32)) (S3 : (Nat → Int64)) (V3 : (Nat → Int64)) (T : dT) (x4 : Int32) (q : (Nat → Int32) × (Nat → Int64) × (Nat → Int64) × dT × Int32), (∃ i : Nat, x4 = nI i ∧ i < k ∧ i < n ∧ ∀ j, j < k → vp_in (B6 j) nt) → fX3_moveForward_loop B S V O p1 x3 n B6 S3 V3 T x4 = q → ((∃ i : Nat, q.2.2.2.2 = nI i ∧ i < k ∧ ∀ j, j < k → vp_in (q.1 j) nt) → zw_W p l e (zw_rm 153 4605) s m args below meth c D A 5 Q 0 0 (wD cI cL a (B.1, B.2.1, B.2.2.1, B.2.2.2.1, B.2.2.2.2.1, B.2.2.2.2.2.1, q.1) (S.1, S.2.1, S.2.2.1, q.2.1, S.2.2.2.2) (V.1, V.2.1, V.2.2.1, q.2.2.1, V.2.2.2.2) O G F q.2.2.2.1) 56 [(0, .ref (a 0)), (1, .int p1), (2, .int p2), (3, .int x3), (4, .int q.2.2.2.2)] []) → zw_W p l e (zw_rm 153 4605) s m args below meth c D A 5 Q 0 0 (wD cI cL a (B.1, B.2.1, B.2.2.1, B.2.2.2.1, B.2.2.2.2.1, B.2.2.2.2.2.1, B6) (S.1, S.2.1, S.2.2.1, S3, S.2.2.2.2) (V.1, V.2.1, V.2.2.1, V3, V.2.2.2.2) O G F T) 10 [(0, .ref (a 0)), (1, .int p1), (2, .int p2), (3, .int x3), (4, .int x4)] [] := by
  intro n
  induction n with
  | zero =>
    intro B6 S3 V3 T x4 q hI hF kx
    obtain ⟨i, -, -, h4, -⟩ := hI; exact absurd h4 (by omega)
  | succ n ih =>
    intro B6 S3 V3 T x4 q hI hF kx
    obtain ⟨i, z4, hi, hn, hd⟩ := hI
    rw [fX3_moveForward_loop] at hF
    refine zw_iload C dX3_moveForward_10 4 rfl ?_
    refine zw_if_le C 56 dX3_moveForward_12 (by decide) (fun h1 => ?_) (fun h1 => ?_)
    · rw [if_pos h1] at hF
      subst hF
      exact zw_locals [0, 1, 2, 3, 4] rfl (kx ⟨i, z4, hi, hd⟩)
    · rw [if_neg h1] at hF
      refine zw_aload_n C dX3_moveForward_15 0 rfl rfl ?_
      refine zw_iload_n C dX3_moveForward_16 1 rfl rfl ?_
      refine zw_aload_n C dX3_moveForward_17 0 rfl rfl ?_
      refine zw_get C FX3 0 4 (v := .ref (a 4)) rfl (by decide) lkX3_24 rfl dX3_moveForward_18 ?_
      refine zw_iload C dX3_moveForward_21 4 rfl ?_
      refine zw_iconst C (v := 1) dX3_moveForward_23 (by decide) ?_
      refine zw_isub C dX3_moveForward_24 ?_
      refine zw_iald C 4 0 (f := B6) (i := (x4 - 1)) rfl rfl (by obtain ⟨m, em, e5, -⟩ := dz_pred z4 (by have := hy1.1; have := hy1.2.1; omega) (by assumption); rw [e5]; exact vp_in_nI (by have := hy1.1; have := hy1.2.1; omega) (by decide)) dX3_moveForward_25 ?_
      refine zw_iload_n C dX3_moveForward_26 3 rfl rfl ?_
      obtain ⟨q2, e3⟩ : ∃ z, zO B.2.2.2.1 B.2.2.2.2.1 S.1 S.2.1 S.2.2.1 V.1 V.2.1 V.2.2.1 O.1 O.2.1 O.2.2.1 73 (S3, V3, T) p1 (B6 (x4 - 1).toNatClampNeg) x3 = z := ⟨_, rfl⟩
      rw [zw_l_eq e3] at hF
      refine zw_calli C kvX3_165 (kAO hy2 hy1.1 (S3, V3, T) p1 (B6 (x4 - 1).toNatClampNeg) x3 _ hp (by obtain ⟨m, em, e5, -⟩ := dz_pred z4 (by have := hy1.1; have := hy1.2.1; omega) (by assumption); rw [e5, nI_clamp (by have := hy1.1; have := hy1.2.1; omega)]; exact hd m (by omega)) h3 e3) ⟨rfl, rfl, ⟨by decide, by decide⟩, by decide, by decide⟩ FX3 0 (As := [.int p1, .int (B6 (x4 - 1).toNatClampNeg), .int x3]) (rest := []) rfl rfl rfl (Nat.le_of_ble_eq_true rfl) dX3_moveForward_27 ?_
      refine zw_iconst C (v := 1) dX3_moveForward_30 (by decide) ?_
      refine zw_icmp_ne C 56 dX3_moveForward_31 (by decide) (fun h4 => ?_) (fun h4 => ?_)
      · rw [if_neg h4] at hF
        subst hF
        exact zw_locals [0, 1, 2, 3, 4] rfl (kx ⟨i, z4, hi, hd⟩)
      · rw [if_pos h4] at hF
        refine zw_aload_n C dX3_moveForward_34 0 rfl rfl ?_
        refine zw_get C FX3 0 4 (v := .ref (a 4)) rfl (by decide) lkX3_24 rfl dX3_moveForward_35 ?_
        refine zw_iload C dX3_moveForward_38 4 rfl ?_
        refine zw_aload_n C dX3_moveForward_40 0 rfl rfl ?_
        refine zw_get C FX3 0 4 (v := .ref (a 4)) rfl (by decide) lkX3_24 rfl dX3_moveForward_41 ?_
        refine zw_iload C dX3_moveForward_44 4 rfl ?_
        refine zw_iconst C (v := 1) dX3_moveForward_46 (by decide) ?_
        refine zw_isub C dX3_moveForward_47 ?_
        refine zw_iald C 4 0 (f := B6) (i := (x4 - 1)) rfl rfl (by obtain ⟨m, em, e5, -⟩ := dz_pred z4 (by have := hy1.1; have := hy1.2.1; omega) (by assumption); rw [e5]; exact vp_in_nI (by have := hy1.1; have := hy1.2.1; omega) (by decide)) dX3_moveForward_48 ?_
        refine zw_iast C 4 0 (f := B6) (i := x4) (ws2 := (wD cI cL a (B.1, B.2.1, B.2.2.1, B.2.2.2.1, B.2.2.2.2.1, B.2.2.2.2.2.1, (upd B6 x4.toNatClampNeg (B6 (x4 - 1).toNatClampNeg))) (S.1, S.2.1, S.2.2.1, q2.2.1, S.2.2.2.2) (V.1, V.2.1, V.2.2.1, q2.2.2.1, V.2.2.2.2) O G F q2.2.2.2)) rfl rfl (by rw [z4]; exact vp_in_nI (by have := hy1.1; have := hy1.2.1; omega) (by decide)) rfl dX3_moveForward_49 ?_
        refine zw_iinc C (j := 4) (v := x4 + (-1)) dX3_moveForward_50 rfl rfl (by decide) rfl ?_
        refine zw_goto C 10 dX3_moveForward_53 (by decide) ?_
        refine zw_locals [1, 2, 3, 4, 0] (lv2 := [(0, .ref (a 0)), (1, .int p1), (2, .int p2), (3, .int x3), (4, .int (x4 + (-1)))]) rfl ?_
        exact ih (upd B6 x4.toNatClampNeg (B6 (x4 - 1).toNatClampNeg)) q2.2.1 q2.2.2.1 q2.2.2.2 (x4 + (-1)) q (by obtain ⟨m, em, e5, e6⟩ := dz_pred z4 (by have := hy1.1; have := hy1.2.1; omega) (by assumption); exact ⟨m, e6, by omega, by omega, dz_up hd (by obtain ⟨m2, em2, e7, -⟩ := dz_pred z4 (by have := hy1.1; have := hy1.2.1; omega) (by assumption); rw [e7, nI_clamp (by have := hy1.1; have := hy1.2.1; omega)]; exact hd m2 (by omega))⟩) hF kx
def fX3_moveForward (B : dB) (S : dS) (V : dV) (O : dO) (B6 : (Nat → Int32)) (S3 : (Nat → Int64)) (V3 : (Nat → Int64)) (T : dT) (p1 : Int32) (p2 : Int32) : Int32 × (Nat → Int32) × (Nat → Int64) × (Nat → Int64) × dT := (zw_l (fX3_moveForward_loop B S V O p1 (B6 p2.toNatClampNeg) 41 B6 S3 V3 T p2) (fun q1 => (p2 - q1.2.2.2.2, (upd q1.1 q1.2.2.2.2.toNatClampNeg (B6 p2.toNatClampNeg)), q1.2.1, q1.2.2.1, q1.2.2.2.1)))
set_option maxHeartbeats 4000000 in
set_option maxRecDepth 100000 in
theorem kX3_moveForward {l : Launch} {D : va_G} {cI cL : ClassId} {a : Nat → Nat} {B : dB} {S : dS} {V : dV} {O : dO} {G : dG} {F : dF} {T : dT} {p1 : Int32} {p2 : Int32} {q : Int32 × (Nat → Int32) × (Nat → Int64) × (Nat → Int64) × dT} {B6 : Nat → Int32} {S3 V3 : Nat → Int64} {nt k sn vn on : Nat} {rs rv ro : Nat → Nat} (hy1 : dz_B B nt k) (hy2 : dz_K S V O sn vn on rs rv ro) (hy3 : ∃ i : Nat, i < k ∧ p2 = nI i) (hy4 : vp_in p1 on) (hy5 : ∀ j, j < k → vp_in (B6 j) nt) (hF : fX3_moveForward B S V O B6 S3 V3 T p1 p2 = q) : zw_Mi l yX3_moveForward cX3_moveForward 5 .int D (zw_tys cI cL) (zw_rm 153 4605) [.ref (a 0), .int p1, .int p2] (wD cI cL a (B.1, B.2.1, B.2.2.1, B.2.2.2.1, B.2.2.2.2.1, B.2.2.2.2.2.1, B6) (S.1, S.2.1, S.2.2.1, S3, S.2.2.2.2) (V.1, V.2.1, V.2.2.1, V3, V.2.2.2.2) O G F T) (wD cI cL a (B.1, B.2.1, B.2.2.1, B.2.2.2.1, B.2.2.2.2.1, B.2.2.2.2.2.1, q.2.1) (S.1, S.2.1, S.2.2.1, q.2.2.1, S.2.2.2.2) (V.1, V.2.1, V.2.2.1, q.2.2.2.1, V.2.2.2.2) O G F q.2.2.2.2) q.1 := by
  unfold fX3_moveForward at hF
  refine zw_Mi_of (own := RX3) (by decide) rfl (Nat.le_of_ble_eq_true rfl) ?_
  intro p e s m args below meth c A C hr hlk
  refine zw_eq (lv2 := [(0, .ref (a 0)), (1, .int p1), (2, .int p2)]) rfl rfl rfl ?_
  refine zw_aload_n C dX3_moveForward_0 0 rfl rfl ?_
  refine zw_get C FX3 0 4 (v := .ref (a 4)) rfl (by decide) lkX3_24 rfl dX3_moveForward_1 ?_
  refine zw_iload_n C dX3_moveForward_4 2 rfl rfl ?_
  refine zw_iald C 4 0 (f := B6) (i := p2) rfl rfl (dz_ix40 hy1 hy3) dX3_moveForward_5 ?_
  refine zw_istore_n C dX3_moveForward_6 rfl (by decide) rfl ?_
  refine zw_iload_n C dX3_moveForward_7 3 rfl rfl ?_
  refine zw_istore C dX3_moveForward_8 (by decide) rfl ?_
  obtain ⟨q1, e2⟩ : ∃ z, fX3_moveForward_loop B S V O p1 (B6 p2.toNatClampNeg) 41 B6 S3 V3 T p2 = z := ⟨_, rfl⟩
  rw [zw_l_eq e2] at hF
  refine zw_locals [2, 3, 4, 1, 0] (lv2 := [(0, .ref (a 0)), (1, .int p1), (2, .int p2), (3, .int (B6 p2.toNatClampNeg)), (4, .int p2)]) rfl ?_
  refine kX3_moveForward_loop C hy1 hy2 hy4 (dz_dr hy1 hy3 hy5) 41 B6 S3 V3 T p2 q1 (by obtain ⟨i, hi, ei⟩ := hy3; exact ⟨i, ei, hi, by have := hy1.1; have := hy1.2.1; omega, hy5⟩) e2 (fun e2p => ?_)
  refine zw_aload_n C dX3_moveForward_56 0 rfl rfl ?_
  refine zw_get C FX3 0 4 (v := .ref (a 4)) rfl (by decide) lkX3_24 rfl dX3_moveForward_57 ?_
  refine zw_iload C dX3_moveForward_60 4 rfl ?_
  refine zw_iload_n C dX3_moveForward_62 3 rfl rfl ?_
  refine zw_iast C 4 0 (f := q1.1) (i := q1.2.2.2.2) (ws2 := (wD cI cL a (B.1, B.2.1, B.2.2.1, B.2.2.2.1, B.2.2.2.2.1, B.2.2.2.2.2.1, (upd q1.1 q1.2.2.2.2.toNatClampNeg (B6 p2.toNatClampNeg))) (S.1, S.2.1, S.2.2.1, q1.2.1, S.2.2.2.2) (V.1, V.2.1, V.2.2.1, q1.2.2.1, V.2.2.2.2) O G F q1.2.2.2.1)) rfl rfl (dz_ix40p hy1 (by assumption)) rfl dX3_moveForward_63 ?_
  refine zw_iload_n C dX3_moveForward_64 2 rfl rfl ?_
  refine zw_iload C dX3_moveForward_65 4 rfl ?_
  refine zw_isub C dX3_moveForward_67 ?_
  subst hF
  exact zw_ireturn C hr hlk dX3_moveForward_68 rfl rfl
end
section
/-! moving ahead keeps the draft within the things -/
theorem mf_loop {B : dB} {S : dS} {V : dV} {O : dO} {p1 x3 : Int32} {nt k : Nat} (hk : k ≤ 40) : ∀ (n : Nat) (B6 : Nat → Int32) (S3 V3 : Nat → Int64) (T : dT) (x4 : Int32), (∀ j, j < k → vp_in (B6 j) nt) → (∃ i : Nat, x4 = nI i ∧ i < k) → (∀ j, j < k → vp_in ((fX3_moveForward_loop B S V O p1 x3 n B6 S3 V3 T x4).1 j) nt) := by
  intro n
  induction n with
  | zero => intro B6 S3 V3 T x4 h _; exact h
  | succ n ih =>
    intro B6 S3 V3 T x4 h hx
    obtain ⟨i, e, hi⟩ := hx
    rw [fX3_moveForward_loop]
    by_cases h1 : x4 ≤ 0
    · rw [if_pos h1]; exact h
    · rw [if_neg h1]
      unfold zw_l
      dsimp only
      obtain ⟨m, em, e5, e6⟩ := dz_pred e (by omega) h1
      split
      · refine ih _ _ _ _ _ (dz_up h ?_) ⟨m, e6, by omega⟩
        rw [e5, nI_clamp (by omega)]
        exact h m (by omega)
      · exact h
theorem mf_post {B : dB} {S : dS} {V : dV} {O : dO} {p1 p2 : Int32} {nt k : Nat} {B6 : Nat → Int32} {S3 V3 : Nat → Int64} {T : dT} (hk : k ≤ 40) (h : ∀ j, j < k → vp_in (B6 j) nt) (hp : ∃ i : Nat, i < k ∧ p2 = nI i) : ∀ j, j < k → vp_in ((fX3_moveForward B S V O B6 S3 V3 T p1 p2).2.1 j) nt := by
  obtain ⟨i, hi, e⟩ := hp
  unfold fX3_moveForward zw_l
  dsimp only
  refine dz_up (mf_loop hk 41 B6 S3 V3 T p2 h ⟨i, e, hi⟩) ?_
  rw [e, nI_clamp (by omega)]
  exact h i hi
theorem mf_q {B : dB} {S : dS} {V : dV} {O : dO} {p1 p2 : Int32} {nt k : Nat} {B6 : Nat → Int32} {S3 V3 : Nat → Int64} {T : dT} {q : Int32 × (Nat → Int32) × (Nat → Int64) × (Nat → Int64) × dT} (hk : k ≤ 40) (h : ∀ j, j < k → vp_in (B6 j) nt) (hp : ∃ i : Nat, i < k ∧ p2 = nI i) (e : fX3_moveForward B S V O B6 S3 V3 T p1 p2 = q) : ∀ j, j < k → vp_in (q.2.1 j) nt := by
  subst e; exact mf_post hk h hp
theorem dz_cpd {B : dB} {nt k : Nat} {g : Nat → Int32} (hB : dz_B B nt k) : ∀ j, j < k → vp_in (va_cpy B.2.2.2.2.2.1 g (0 : Int32).toNatClampNeg (0 : Int32).toNatClampNeg B.2.1.toNatClampNeg j) nt := by
  intro j hj
  have hk : k < 2 ^ 31 := by have := hB.1; have := hB.2.1; omega
  rw [hB.2.2.2.1, nI_clamp hk, show (0 : Int32).toNatClampNeg = 0 from rfl, pk_cpy_in (Nat.zero_le _) (by omega), Nat.zero_add, Nat.sub_zero]
  obtain ⟨t, ht, e⟩ := hB.2.2.2.2 j hj
  rw [e]; exact vp_in_nI ht (by have := hB.1; omega)
theorem dz_lk2 {B : dB} {nt k i : Nat} {x : Int32} (hB : dz_B B nt k) (e : x = nI i) (h : ¬ B.2.1 ≤ x) (hi : i ≤ k + 1) : i < k := by
  rcases Nat.lt_or_ge i k with h1 | h1
  · exact h1
  · exact absurd (by rw [hB.2.2.2.1, e]; exact nI_le h1 (by have := hB.1; have := hB.2.1; omega)) h
end
section
def fX3_sort_loop (B : dB) (S : dS) (V : dV) (O : dO) (p1 : Int32) : Nat → (Nat → Int32) → (Nat → Int64) → (Nat → Int64) → dT → Int32 → Int32 → (Nat → Int32) × (Nat → Int64) × (Nat → Int64) × dT × Int32
  | 0, B6, S3, V3, T, x2, _ => (B6, S3, V3, T, x2)
  | n + 1, B6, S3, V3, T, x2, x3 => (if B.2.1 ≤ x3 then (B6, S3, V3, T, x2) else (if (fX2_hasFailure T) = 0 then (zw_l (fX3_moveForward B S V O B6 S3 V3 T p1 x3) (fun q3 => fX3_sort_loop B S V O p1 n q3.2.1 q3.2.2.1 q3.2.2.2.1 q3.2.2.2.2 (x2 + q3.1) (x3 + 1))) else (B6, S3, V3, T, x2)))
set_option maxHeartbeats 4000000 in
set_option maxRecDepth 100000 in
theorem kX3_sort_loop {p : Program} {l : Launch} {e : Env} {s : State} {m : MethodId} {args : Array Value} {below : List Frame} {meth : Method} {c : Code} {A : Nat → Prop} {Q : State → Prop} {D : va_G} {cI cL : ClassId} {a : Nat → Nat} {B : dB} {S : dS} {V : dV} {O : dO} {G : dG} {F : dF} {p1 : Int32} {nt k sn vn on : Nat} {rs rv ro : Nat → Nat} (C : zw_C p s m args c D (zw_tys cI cL) A RX3 cX3_sort 4) (hy1 : dz_B B nt k) (hy2 : dz_K S V O sn vn on rs rv ro) (hp : vp_in p1 on) : ∀ (n : Nat) (B6 : (Nat → Int32)) (S3 : (Nat → Int64)) (V3 : (Nat → Int64)) (T : dT) (x2 : Int32) (x3 : Int32) (q : (Nat → Int32) × (Nat → Int64) × (Nat → Int64) × dT × Int32), (∃ i : Nat, x3 = nI i ∧ i ≤ k + 1 ∧ k + 1 < i + n ∧ ∀ j, j < k → vp_in (B6 j) nt) → fX3_sort_loop B S V O p1 n B6 S3 V3 T x2 x3 = q → (zw_W p l e (zw_rm 154 4629) s m args below meth c D A 4 Q 0 0 (wD cI cL a (B.1, B.2.1, B.2.2.1, B.2.2.2.1, B.2.2.2.2.1, B.2.2.2.2.2.1, q.1) (S.1, S.2.1, S.2.2.1, q.2.1, S.2.2.2.2) (V.1, V.2.1, V.2.2.1, q.2.2.1, V.2.2.2.2) O G F q.2.2.2.1) 80 [(0, .ref (a 0)), (1, .int p1), (2, .int q.2.2.2.2)] []) → zw_W p l e (zw_rm 154 4629) s m args below meth c D A 4 Q 0 0 (wD cI cL a (B.1, B.2.1, B.2.2.1, B.2.2.2.1, B.2.2.2.2.1, B.2.2.2.2.2.1, B6) (S.1, S.2.1, S.2.2.1, S3, S.2.2.2.2) (V.1, V.2.1, V.2.2.1, V3, V.2.2.2.2) O G F T) 47 [(0, .ref (a 0)), (1, .int p1), (2, .int x2), (3, .int x3)] [] := by
  intro n
  induction n with
  | zero =>
    intro B6 S3 V3 T x2 x3 q hI hF kx
    obtain ⟨i, -, h3, h4, -⟩ := hI; exact absurd h4 (by omega)
  | succ n ih =>
    intro B6 S3 V3 T x2 x3 q hI hF kx
    obtain ⟨i, z3, hi, hn, hd⟩ := hI
    rw [fX3_sort_loop] at hF
    refine zw_iload_n C dX3_sort_47 3 rfl rfl ?_
    refine zw_aload_n C dX3_sort_48 0 rfl rfl ?_
    refine zw_get C FX3 0 5 (v := .int B.2.1) rfl (by decide) lkX3_27 rfl dX3_sort_49 ?_
    refine zw_icmp_ge C 80 dX3_sort_52 (by decide) (fun h1 => ?_) (fun h1 => ?_)
    · rw [if_pos h1] at hF
      subst hF
      exact zw_locals [0, 1, 2] rfl kx
    · rw [if_neg h1] at hF
      refine zw_aload_n C dX3_sort_55 0 rfl rfl ?_
      refine zw_get C FX3 0 11 (v := .ref (a 30)) rfl (by decide) lkX3_56 rfl dX3_sort_56 ?_
      refine zw_calli C kvX3_110 (kX2_hasFailure rfl) ⟨rfl, rfl, ⟨by decide, by decide⟩, by decide, by decide⟩ FX2 30 (As := []) (rest := []) rfl rfl rfl (Nat.le_of_ble_eq_true rfl) dX3_sort_59 ?_
      refine zw_if_ne C 80 dX3_sort_62 (by decide) (fun h2 => ?_) (fun h2 => ?_)
      · rw [if_neg h2] at hF
        subst hF
        exact zw_locals [0, 1, 2] rfl kx
      · rw [if_pos h2] at hF
        refine zw_iload_n C dX3_sort_65 2 rfl rfl ?_
        refine zw_aload_n C dX3_sort_66 0 rfl rfl ?_
        refine zw_iload_n C dX3_sort_67 1 rfl rfl ?_
        refine zw_iload_n C dX3_sort_68 3 rfl rfl ?_
        obtain ⟨q3, e4⟩ : ∃ z, fX3_moveForward B S V O B6 S3 V3 T p1 x3 = z := ⟨_, rfl⟩
        rw [zw_l_eq e4] at hF
        refine zw_calli C kvX3_131 (kX3_moveForward hy1 hy2 ⟨i, dz_lk2 hy1 z3 (by assumption) hi, z3⟩ hp hd e4) ⟨rfl, rfl, ⟨by decide, by decide⟩, by decide, by decide⟩ FX3 0 (As := [.int p1, .int x3]) (rest := [.int x2]) rfl rfl rfl (Nat.le_of_ble_eq_true rfl) dX3_sort_69 ?_
        refine zw_iadd C dX3_sort_72 ?_
        refine zw_istore_n C dX3_sort_73 rfl (by decide) rfl ?_
        refine zw_iinc C (j := 3) (v := x3 + 1) dX3_sort_74 rfl rfl (by decide) rfl ?_
        refine zw_goto C 47 dX3_sort_77 (by decide) ?_
        refine zw_locals [2, 3, 1, 0] (lv2 := [(0, .ref (a 0)), (1, .int p1), (2, .int (x2 + q3.1)), (3, .int (x3 + 1))]) rfl ?_
        exact ih q3.2.1 q3.2.2.1 q3.2.2.2.1 q3.2.2.2.2 (x2 + q3.1) (x3 + 1) q ⟨i + 1, by rw [z3]; exact nI_1 i, by have := dz_lk2 hy1 z3 (by assumption) hi; omega, by omega, mf_q (by have := hy1.1; have := hy1.2.1; omega) hd ⟨i, dz_lk2 hy1 z3 (by assumption) hi, z3⟩ (by assumption)⟩ hF kx
def fX3_sort (B : dB) (S : dS) (V : dV) (O : dO) (T : dT) (p1 : Int32) : Int32 × Int32 × (Nat → Int32) × (Nat → Int32) × (Nat → Int64) × (Nat → Int64) × dT := (if (fX1_has O p1) = 0 then ((-1), B.2.1, B.2.2.2.2.2.1, B.2.2.2.2.2.2, S.2.2.2.1, V.2.2.2.1, T) else (zw_l (fX2_opensCall T) (fun q2 => (if q2.1 = 0 then ((-2), B.2.1, B.2.2.2.2.2.1, B.2.2.2.2.2.2, S.2.2.2.1, V.2.2.2.1, q2.2) else (zw_l (fX3_sort_loop B S V O p1 41 (va_cpy B.2.2.2.2.2.1 B.2.2.2.2.2.2 (0 : Int32).toNatClampNeg (0 : Int32).toNatClampNeg B.2.1.toNatClampNeg) S.2.2.2.1 V.2.2.2.1 q2.2 0 1) (fun q5 => (if (fX2_hasFailure q5.2.2.2.1) = 0 then (zw_l (fX3_takeDraft B.2.2.2.2.2.1 q5.1 B.2.1) (fun q8 => (q5.2.2.2.2, q8.1, q8.2, q5.1, q5.2.1, q5.2.2.1, q5.2.2.2.1))) else (zw_l (fX2_endFailedCall q5.2.2.2.1) (fun q10 => (q10.1, B.2.1, B.2.2.2.2.2.1, q5.1, q5.2.1, q5.2.2.1, q10.2))))))))))
set_option maxHeartbeats 4000000 in
set_option maxRecDepth 100000 in
theorem kX3_sort {l : Launch} {D : va_G} {cI cL : ClassId} {a : Nat → Nat} {B : dB} {S : dS} {V : dV} {O : dO} {G : dG} {F : dF} {T : dT} {p1 : Int32} {q : Int32 × Int32 × (Nat → Int32) × (Nat → Int32) × (Nat → Int64) × (Nat → Int64) × dT} {nt k sn vn on : Nat} {rs rv ro : Nat → Nat} (hy1 : dz_B B nt k) (hy2 : dz_K S V O sn vn on rs rv ro) (hF : fX3_sort B S V O T p1 = q) : zw_Mi l yX3_sort cX3_sort 4 .int D (zw_tys cI cL) (zw_rm 154 4629) [.ref (a 0), .int p1] (wD cI cL a B S V O G F T) (wD cI cL a (B.1, q.2.1, B.2.2.1, B.2.2.2.1, B.2.2.2.2.1, q.2.2.1, q.2.2.2.1) (S.1, S.2.1, S.2.2.1, q.2.2.2.2.1, S.2.2.2.2) (V.1, V.2.1, V.2.2.1, q.2.2.2.2.2.1, V.2.2.2.2) O G F q.2.2.2.2.2.2) q.1 := by
  unfold fX3_sort at hF
  refine zw_Mi_of (own := RX3) (by decide) rfl (Nat.le_of_ble_eq_true rfl) ?_
  intro p e s m args below meth c A C hr hlk
  refine zw_eq (lv2 := [(0, .ref (a 0)), (1, .int p1)]) rfl rfl rfl ?_
  refine zw_aload_n C dX3_sort_0 0 rfl rfl ?_
  refine zw_get C FX3 0 8 (v := .ref (a 15)) rfl (by decide) lkX3_40 rfl dX3_sort_1 ?_
  refine zw_iload_n C dX3_sort_4 1 rfl rfl ?_
  refine zw_calli C kvX3_100 (kX1_has_O rfl) ⟨rfl, rfl, ⟨by decide, by decide⟩, by decide, by decide⟩ FX1 15 (As := [.int p1]) (rest := []) rfl rfl rfl (Nat.le_of_ble_eq_true rfl) dX3_sort_5 ?_
  refine zw_if_ne C 13 dX3_sort_8 (by decide) (fun h1 => ?_) (fun h1 => ?_)
  · rw [if_neg h1] at hF
    refine zw_aload_n C dX3_sort_13 0 rfl rfl ?_
    refine zw_get C FX3 0 11 (v := .ref (a 30)) rfl (by decide) lkX3_56 rfl dX3_sort_14 ?_
    obtain ⟨q2, e3⟩ : ∃ z, fX2_opensCall T = z := ⟨_, rfl⟩
    rw [zw_l_eq e3] at hF
    refine zw_calli C kvX3_103 (kX2_opensCall e3) ⟨rfl, rfl, ⟨by decide, by decide⟩, by decide, by decide⟩ FX2 30 (As := []) (rest := []) rfl rfl rfl (Nat.le_of_ble_eq_true rfl) dX3_sort_17 ?_
    refine zw_if_ne C 26 dX3_sort_20 (by decide) (fun h4 => ?_) (fun h4 => ?_)
    · rw [if_neg h4] at hF
      refine zw_aload_n C dX3_sort_26 0 rfl rfl ?_
      refine zw_get C FX3 0 3 (v := .ref (a 3)) rfl (by decide) lkX3_20 rfl dX3_sort_27 ?_
      refine zw_iconst C (v := 0) dX3_sort_30 (by decide) ?_
      refine zw_aload_n C dX3_sort_31 0 rfl rfl ?_
      refine zw_get C FX3 0 4 (v := .ref (a 4)) rfl (by decide) lkX3_24 rfl dX3_sort_32 ?_
      refine zw_iconst C (v := 0) dX3_sort_35 (by decide) ?_
      refine zw_aload_n C dX3_sort_36 0 rfl rfl ?_
      refine zw_get C FX3 0 5 (v := .int B.2.1) rfl (by decide) lkX3_27 rfl dX3_sort_37 ?_
      refine zw_copyi C 3 4 lkmX3_125 (f := B.2.2.2.2.2.1) (g := B.2.2.2.2.2.2) (ws2 := (wD cI cL a (B.1, B.2.1, B.2.2.1, B.2.2.2.1, B.2.2.2.2.1, B.2.2.2.2.2.1, va_cpy B.2.2.2.2.2.1 B.2.2.2.2.2.2 (0 : Int32).toNatClampNeg (0 : Int32).toNatClampNeg B.2.1.toNatClampNeg) S V O G F q2.2)) rfl rfl rfl (by decide) (by decide) (dz_cp (dz_le hy1)) (by decide) (by decide) (Nat.le_of_ble_eq_true rfl) rfl dX3_sort_40 ?_
      refine zw_iconst C (v := 0) dX3_sort_43 (by decide) ?_
      refine zw_istore_n C dX3_sort_44 rfl (by decide) rfl ?_
      refine zw_iconst C (v := 1) dX3_sort_45 (by decide) ?_
      refine zw_istore_n C dX3_sort_46 rfl (by decide) rfl ?_
      obtain ⟨q5, e6⟩ : ∃ z, fX3_sort_loop B S V O p1 41 (va_cpy B.2.2.2.2.2.1 B.2.2.2.2.2.2 (0 : Int32).toNatClampNeg (0 : Int32).toNatClampNeg B.2.1.toNatClampNeg) S.2.2.2.1 V.2.2.2.1 q2.2 0 1 = z := ⟨_, rfl⟩
      rw [zw_l_eq e6] at hF
      refine zw_locals [2, 3, 1, 0] (lv2 := [(0, .ref (a 0)), (1, .int p1), (2, .int 0), (3, .int 1)]) rfl ?_
      refine kX3_sort_loop C hy1 hy2 (dz_hasIn (by assumption) hy2.2.2.2.2.2.1 hy2.2.2.1) 41 (va_cpy B.2.2.2.2.2.1 B.2.2.2.2.2.2 (0 : Int32).toNatClampNeg (0 : Int32).toNatClampNeg B.2.1.toNatClampNeg) S.2.2.2.1 V.2.2.2.1 q2.2 0 1 q5 ⟨1, rfl, by omega, by have := hy1.1; have := hy1.2.1; omega, dz_cpd hy1⟩ e6 ?_
      refine zw_aload_n C dX3_sort_80 0 rfl rfl ?_
      refine zw_get C FX3 0 11 (v := .ref (a 30)) rfl (by decide) lkX3_56 rfl dX3_sort_81 ?_
      refine zw_calli C kvX3_110 (kX2_hasFailure rfl) ⟨rfl, rfl, ⟨by decide, by decide⟩, by decide, by decide⟩ FX2 30 (As := []) (rest := []) rfl rfl rfl (Nat.le_of_ble_eq_true rfl) dX3_sort_84 ?_
      refine zw_if_eq C 98 dX3_sort_87 (by decide) (fun h7 => ?_) (fun h7 => ?_)
      · rw [if_pos h7] at hF
        refine zw_aload_n C dX3_sort_98 0 rfl rfl ?_
        refine zw_aload_n C dX3_sort_99 0 rfl rfl ?_
        refine zw_get C FX3 0 5 (v := .int B.2.1) rfl (by decide) lkX3_27 rfl dX3_sort_100 ?_
        obtain ⟨q8, e9⟩ : ∃ z, fX3_takeDraft B.2.2.2.2.2.1 q5.1 B.2.1 = z := ⟨_, rfl⟩
        rw [zw_l_eq e9] at hF
        refine zw_callv C kvX3_121 (kX3_takeDraft (dz_le hy1) e9) ⟨rfl, rfl, ⟨by decide, by decide⟩, by decide, by decide⟩ FX3 0 (As := [.int B.2.1]) (rest := []) rfl rfl rfl (Nat.le_of_ble_eq_true rfl) dX3_sort_103 ?_
        refine zw_iload_n C dX3_sort_106 2 rfl rfl ?_
        subst hF
        exact zw_ireturn C hr hlk dX3_sort_107 rfl rfl
      · rw [if_neg h7] at hF
        refine zw_aload_n C dX3_sort_90 0 rfl rfl ?_
        refine zw_get C FX3 0 11 (v := .ref (a 30)) rfl (by decide) lkX3_56 rfl dX3_sort_91 ?_
        obtain ⟨q10, e11⟩ : ∃ z, fX2_endFailedCall q5.2.2.2.1 = z := ⟨_, rfl⟩
        rw [zw_l_eq e11] at hF
        refine zw_calli C kvX3_113 (kX2_endFailedCall e11) ⟨rfl, rfl, ⟨by decide, by decide⟩, by decide, by decide⟩ FX2 30 (As := []) (rest := []) rfl rfl rfl (Nat.le_of_ble_eq_true rfl) dX3_sort_94 ?_
        subst hF
        exact zw_ireturn C hr hlk dX3_sort_97 rfl rfl
    · rw [if_pos h4] at hF
      refine zw_bipush C (v := (-2)) dX3_sort_23 (by decide) ?_
      subst hF
      exact zw_ireturn C hr hlk dX3_sort_25 rfl rfl
  · rw [if_pos h1] at hF
    refine zw_iconst C (v := (-1)) dX3_sort_11 (by decide) ?_
    subst hF
    exact zw_ireturn C hr hlk dX3_sort_12 rfl rfl
end
section
def fX0_placeOf_loop (F : dF) (p1 : Int64) : Nat → Int32 → Int32
  | 0, _ => 0
  | n + 1, x3 => (if F.2.2.2.2 ≤ x3 then F.2.2.2.2 else (if (lg_cmp (F.1 x3.toNatClampNeg) p1) = 0 then x3 else fX0_placeOf_loop F p1 n (x3 + 1)))
set_option maxHeartbeats 4000000 in
set_option maxRecDepth 100000 in
theorem kX0_placeOf_loop {p : Program} {l : Launch} {e : Env} {s : State} {m : MethodId} {args : Array Value} {below : List Frame} {meth : Method} {c : Code} {A : Nat → Prop} {D : va_G} {cI cL : ClassId} {a : Nat → Nat} {B : dB} {S : dS} {V : dV} {O : dO} {G : dG} {F : dF} {T : dT} {p1 : Int64} {g : Nat} (C : zw_C p s m args c D (zw_tys cI cL) A RX0 cX0_placeOf 4) (hr : meth.sig.returnType = some .int) (hlk : meth.locks = false) (g1 : g ≤ 40) (g2 : F.2.2.2.2 = nI g) : ∀ (n : Nat) (x3 : Int32) (q : Int32), (∃ i : Nat, x3 = nI i ∧ i ≤ g ∧ g < i + n) → fX0_placeOf_loop F p1 n x3 = q → zw_W p l e (zw_rm 0 0) s m args below meth c D A 4 (zw_Qi D A (wD cI cL a B S V O G F T) q below args s) 0 0 (wD cI cL a B S V O G F T) 2 [(0, .ref (a 25)), (1, .long p1), (3, .int x3)] [] := by
  intro n
  induction n with
  | zero =>
    intro x3 q hI hF
    obtain ⟨i, -, h3, h4⟩ := hI; exact absurd h4 (by omega)
  | succ n ih =>
    intro x3 q hI hF
    obtain ⟨i, z3, hi, hn⟩ := hI
    rw [fX0_placeOf_loop] at hF
    refine zw_iload_n C dX0_placeOf_2 2 rfl rfl ?_
    refine zw_aload_n C dX0_placeOf_3 0 rfl rfl ?_
    refine zw_get C FX0 25 4 (v := .int F.2.2.2.2) rfl (by decide) lkX0_25 rfl dX0_placeOf_4 ?_
    refine zw_icmp_ge C 29 dX0_placeOf_7 (by decide) (fun h1 => ?_) (fun h1 => ?_)
    · rw [if_pos h1] at hF
      refine zw_aload_n C dX0_placeOf_29 0 rfl rfl ?_
      refine zw_get C FX0 25 4 (v := .int F.2.2.2.2) rfl (by decide) lkX0_25 rfl dX0_placeOf_30 ?_
      subst hF
      exact zw_ireturn C hr hlk dX0_placeOf_33 rfl rfl
    · rw [if_neg h1] at hF
      refine zw_aload_n C dX0_placeOf_10 0 rfl rfl ?_
      refine zw_get C FX0 25 0 (v := .ref (a 26)) rfl (by decide) lkX0_9 rfl dX0_placeOf_11 ?_
      refine zw_iload_n C dX0_placeOf_14 2 rfl rfl ?_
      refine zw_lald C 26 1 (f := F.1) (i := x3) rfl rfl (by rw [z3]; exact vp_in_nI (by have := dz_lt1 g2 z3 (by assumption) hi g1; omega) (by decide)) dX0_placeOf_15 ?_
      refine zw_lload_n C dX0_placeOf_16 1 rfl rfl ?_
      refine zw_lcmp C dX0_placeOf_17 ?_
      refine zw_if_ne C 23 dX0_placeOf_18 (by decide) (fun h2 => ?_) (fun h2 => ?_)
      · rw [if_neg h2] at hF
        refine zw_iinc C (j := 2) (v := x3 + 1) dX0_placeOf_23 rfl rfl (by decide) rfl ?_
        refine zw_goto C 2 dX0_placeOf_26 (by decide) ?_
        refine zw_locals [1, 2, 0] (lv2 := [(0, .ref (a 25)), (1, .long p1), (3, .int (x3 + 1))]) rfl ?_
        exact ih (x3 + 1) q ⟨i + 1, by rw [z3]; exact nI_1 i, dz_lt1 g2 z3 (by assumption) hi g1, by omega⟩ hF
      · rw [if_pos h2] at hF
        refine zw_iload_n C dX0_placeOf_21 2 rfl rfl ?_
        subst hF
        exact zw_ireturn C hr hlk dX0_placeOf_22 rfl rfl
def fX0_placeOf (F : dF) (p1 : Int64) : Int32 := fX0_placeOf_loop F p1 41 0
set_option maxHeartbeats 4000000 in
set_option maxRecDepth 100000 in
theorem kX0_placeOf_F {l : Launch} {D : va_G} {cI cL : ClassId} {a : Nat → Nat} {B : dB} {S : dS} {V : dV} {O : dO} {G : dG} {F : dF} {T : dT} {p1 : Int64} {q : Int32} {g : Nat} (hy1 : g ≤ 40) (hy2 : F.2.2.2.2 = nI g) (hF : fX0_placeOf F p1 = q) : zw_Mi l yX0_placeOf cX0_placeOf 4 .int D (zw_tys cI cL) (zw_rm 0 0) [.ref (a 25), .long p1] (wD cI cL a B S V O G F T) (wD cI cL a B S V O G F T) q := by
  unfold fX0_placeOf at hF
  refine zw_Mi_of (own := RX0) (by decide) rfl (Nat.le_of_ble_eq_true rfl) ?_
  intro p e s m args below meth c A C hr hlk
  refine zw_eq (lv2 := [(0, .ref (a 25)), (1, .long p1)]) rfl rfl rfl ?_
  refine zw_iconst C (v := 0) dX0_placeOf_0 (by decide) ?_
  refine zw_istore_n C dX0_placeOf_1 rfl (by decide) rfl ?_
  refine zw_locals [1, 2, 0] (lv2 := [(0, .ref (a 25)), (1, .long p1), (3, .int 0)]) rfl ?_
  exact kX0_placeOf_loop C hr hlk (by assumption) (by assumption) 41 0 q ⟨0, rfl, Nat.zero_le _, by omega⟩ hF
theorem po_loop {F : dF} {p1 : Int64} {g : Nat} (g1 : g ≤ 40) (g2 : F.2.2.2.2 = nI g) : ∀ (n : Nat) (x3 : Int32), (∃ i : Nat, x3 = nI i ∧ i ≤ g ∧ g < i + n) → ∃ m : Nat, m ≤ g ∧ fX0_placeOf_loop F p1 n x3 = nI m := by
  intro n
  induction n with
  | zero => intro x3 hI; obtain ⟨i, -, h3, h4⟩ := hI; exact absurd h4 (by omega)
  | succ n ih =>
    intro x3 hI
    obtain ⟨i, z3, hi, hn⟩ := hI
    rw [fX0_placeOf_loop]
    by_cases h1 : F.2.2.2.2 ≤ x3
    · rw [if_pos h1]; exact ⟨g, Nat.le_refl _, g2⟩
    · rw [if_neg h1]
      have h2 := dz_lt1 g2 z3 h1 hi g1
      split
      · exact ⟨i, by omega, z3⟩
      · exact ih _ ⟨i + 1, by rw [z3]; exact nI_1 i, h2, by omega⟩
theorem po_in {F : dF} {p1 : Int64} {g : Nat} (g1 : g ≤ 39) (g2 : F.2.2.2.2 = nI g) : vp_in (fX0_placeOf F p1) 40 := by
  obtain ⟨m, hm, e⟩ := po_loop (p1 := p1) (by omega) g2 41 0 ⟨0, rfl, Nat.zero_le _, by omega⟩
  unfold fX0_placeOf
  rw [e]; exact vp_in_nI (by omega) (by decide)
def fX0_add (F : dF) (p1 : Int64) (p2 : Int64) (p3 : Int32) : dF := (if (fX0_placeOf F p1) = F.2.2.2.2 then ((vp_updL F.1 (fX0_placeOf F p1).toNatClampNeg p1), (upd (upd F.2.1 (fX0_placeOf F p1).toNatClampNeg 0) (fX0_placeOf F p1).toNatClampNeg (((upd F.2.1 (fX0_placeOf F p1).toNatClampNeg 0) (fX0_placeOf F p1).toNatClampNeg) + 1)), (vp_updL (vp_updL F.2.2.1 (fX0_placeOf F p1).toNatClampNeg 0) (fX0_placeOf F p1).toNatClampNeg (((vp_updL F.2.2.1 (fX0_placeOf F p1).toNatClampNeg 0) (fX0_placeOf F p1).toNatClampNeg) + p2)), (upd F.2.2.2.1 (fX0_placeOf F p1).toNatClampNeg p3), F.2.2.2.2 + 1) else (F.1, (upd F.2.1 (fX0_placeOf F p1).toNatClampNeg ((F.2.1 (fX0_placeOf F p1).toNatClampNeg) + 1)), (vp_updL F.2.2.1 (fX0_placeOf F p1).toNatClampNeg ((F.2.2.1 (fX0_placeOf F p1).toNatClampNeg) + p2)), F.2.2.2.1, F.2.2.2.2))
set_option maxHeartbeats 4000000 in
set_option maxRecDepth 100000 in
theorem kX0_add_F {l : Launch} {D : va_G} {cI cL : ClassId} {a : Nat → Nat} {B : dB} {S : dS} {V : dV} {O : dO} {G : dG} {F : dF} {T : dT} {p1 : Int64} {p2 : Int64} {p3 : Int32} {q : dF} {g : Nat} (hy1 : g ≤ 39) (hy2 : F.2.2.2.2 = nI g) (hF : fX0_add F p1 p2 p3 = q) : zw_Mv l yX0_add cX0_add 7 D (zw_tys cI cL) (zw_rm 1 23) [.ref (a 25), .long p1, .long p2, .int p3] (wD cI cL a B S V O G F T) (wD cI cL a B S V O G q T) := by
  unfold fX0_add at hF
  refine zw_Mv_of (own := RX0) (by decide) rfl (Nat.le_of_ble_eq_true rfl) ?_
  intro p e s m args below meth c A C hr hlk
  refine zw_eq (lv2 := [(0, .ref (a 25)), (1, .long p1), (3, .long p2), (5, .int p3)]) rfl rfl rfl ?_
  refine zw_aload_n C dX0_add_0 0 rfl rfl ?_
  refine zw_lload_n C dX0_add_1 1 rfl rfl ?_
  refine zw_calli C kvX0_29 (kX0_placeOf_F (by omega : g ≤ 40) hy2 rfl) ⟨rfl, rfl, ⟨by decide, by decide⟩, by decide, by decide⟩ FX0 25 (As := [.long p1]) (rest := []) rfl rfl rfl (Nat.le_of_ble_eq_true rfl) dX0_add_2 ?_
  refine zw_istore C dX0_add_5 (by decide) rfl ?_
  refine zw_iload C dX0_add_7 0 rfl ?_
  refine zw_aload_n C dX0_add_9 1 rfl rfl ?_
  refine zw_get C FX0 25 4 (v := .int F.2.2.2.2) rfl (by decide) lkX0_25 rfl dX0_add_10 ?_
  refine zw_icmp_ne C 59 dX0_add_13 (by decide) (fun h1 => ?_) (fun h1 => ?_)
  · rw [if_neg h1] at hF
    refine zw_aload_n C dX0_add_59 1 rfl rfl ?_
    refine zw_get C FX0 25 1 (v := .ref (a 27)) rfl (by decide) lkX0_15 rfl dX0_add_60 ?_
    refine zw_iload C dX0_add_63 0 rfl ?_
    refine zw_dup2_11 C dX0_add_65 rfl rfl ?_
    refine zw_iald C 27 0 (f := F.2.1) (i := (fX0_placeOf F p1)) rfl rfl (po_in hy1 hy2) dX0_add_66 ?_
    refine zw_iconst C (v := 1) dX0_add_67 (by decide) ?_
    refine zw_iadd C dX0_add_68 ?_
    refine zw_iast C 27 0 (f := F.2.1) (i := (fX0_placeOf F p1)) (ws2 := (wD cI cL a B S V O G (F.1, (upd F.2.1 (fX0_placeOf F p1).toNatClampNeg ((F.2.1 (fX0_placeOf F p1).toNatClampNeg) + 1)), F.2.2.1, F.2.2.2.1, F.2.2.2.2) T)) rfl rfl (po_in hy1 hy2) rfl dX0_add_69 ?_
    refine zw_aload_n C dX0_add_70 1 rfl rfl ?_
    refine zw_get C FX0 25 2 (v := .ref (a 28)) rfl (by decide) lkX0_19 rfl dX0_add_71 ?_
    refine zw_iload C dX0_add_74 0 rfl ?_
    refine zw_dup2_11 C dX0_add_76 rfl rfl ?_
    refine zw_lald C 28 1 (f := F.2.2.1) (i := (fX0_placeOf F p1)) rfl rfl (po_in hy1 hy2) dX0_add_77 ?_
    refine zw_lload_n C dX0_add_78 3 rfl rfl ?_
    refine zw_ladd C dX0_add_79 ?_
    refine zw_last C 28 1 (f := F.2.2.1) (i := (fX0_placeOf F p1)) (ws2 := (wD cI cL a B S V O G (F.1, (upd F.2.1 (fX0_placeOf F p1).toNatClampNeg ((F.2.1 (fX0_placeOf F p1).toNatClampNeg) + 1)), (vp_updL F.2.2.1 (fX0_placeOf F p1).toNatClampNeg ((F.2.2.1 (fX0_placeOf F p1).toNatClampNeg) + p2)), F.2.2.2.1, F.2.2.2.2) T)) rfl rfl (po_in hy1 hy2) rfl dX0_add_80 ?_
    subst hF
    exact zw_return C hr hlk dX0_add_81 rfl
  · rw [if_pos h1] at hF
    refine zw_aload_n C dX0_add_16 1 rfl rfl ?_
    refine zw_get C FX0 25 0 (v := .ref (a 26)) rfl (by decide) lkX0_9 rfl dX0_add_17 ?_
    refine zw_iload C dX0_add_20 0 rfl ?_
    refine zw_lload_n C dX0_add_22 2 rfl rfl ?_
    refine zw_last C 26 1 (f := F.1) (i := (fX0_placeOf F p1)) (ws2 := (wD cI cL a B S V O G ((vp_updL F.1 (fX0_placeOf F p1).toNatClampNeg p1), F.2.1, F.2.2.1, F.2.2.2.1, F.2.2.2.2) T)) rfl rfl (po_in hy1 hy2) rfl dX0_add_23 ?_
    refine zw_aload_n C dX0_add_24 1 rfl rfl ?_
    refine zw_get C FX0 25 1 (v := .ref (a 27)) rfl (by decide) lkX0_15 rfl dX0_add_25 ?_
    refine zw_iload C dX0_add_28 0 rfl ?_
    refine zw_iconst C (v := 0) dX0_add_30 (by decide) ?_
    refine zw_iast C 27 0 (f := F.2.1) (i := (fX0_placeOf F p1)) (ws2 := (wD cI cL a B S V O G ((vp_updL F.1 (fX0_placeOf F p1).toNatClampNeg p1), (upd F.2.1 (fX0_placeOf F p1).toNatClampNeg 0), F.2.2.1, F.2.2.2.1, F.2.2.2.2) T)) rfl rfl (po_in hy1 hy2) rfl dX0_add_31 ?_
    refine zw_aload_n C dX0_add_32 1 rfl rfl ?_
    refine zw_get C FX0 25 2 (v := .ref (a 28)) rfl (by decide) lkX0_19 rfl dX0_add_33 ?_
    refine zw_iload C dX0_add_36 0 rfl ?_
    refine zw_lconst C (v := 0) dX0_add_38 (by decide) ?_
    refine zw_last C 28 1 (f := F.2.2.1) (i := (fX0_placeOf F p1)) (ws2 := (wD cI cL a B S V O G ((vp_updL F.1 (fX0_placeOf F p1).toNatClampNeg p1), (upd F.2.1 (fX0_placeOf F p1).toNatClampNeg 0), (vp_updL F.2.2.1 (fX0_placeOf F p1).toNatClampNeg 0), F.2.2.2.1, F.2.2.2.2) T)) rfl rfl (po_in hy1 hy2) rfl dX0_add_39 ?_
    refine zw_aload_n C dX0_add_40 1 rfl rfl ?_
    refine zw_get C FX0 25 3 (v := .ref (a 29)) rfl (by decide) lkX0_22 rfl dX0_add_41 ?_
    refine zw_iload C dX0_add_44 0 rfl ?_
    refine zw_iload C dX0_add_46 4 rfl ?_
    refine zw_iast C 29 0 (f := F.2.2.2.1) (i := (fX0_placeOf F p1)) (ws2 := (wD cI cL a B S V O G ((vp_updL F.1 (fX0_placeOf F p1).toNatClampNeg p1), (upd F.2.1 (fX0_placeOf F p1).toNatClampNeg 0), (vp_updL F.2.2.1 (fX0_placeOf F p1).toNatClampNeg 0), (upd F.2.2.2.1 (fX0_placeOf F p1).toNatClampNeg p3), F.2.2.2.2) T)) rfl rfl (po_in hy1 hy2) rfl dX0_add_48 ?_
    refine zw_aload_n C dX0_add_49 1 rfl rfl ?_
    refine zw_dup C dX0_add_50 rfl ?_
    refine zw_get C FX0 25 4 (v := .int F.2.2.2.2) rfl (by decide) lkX0_25 rfl dX0_add_51 ?_
    refine zw_iconst C (v := 1) dX0_add_54 (by decide) ?_
    refine zw_iadd C dX0_add_55 ?_
    refine zw_put C FX0 GX0 25 4 (v := .int (F.2.2.2.2 + 1)) (ws2 := (wD cI cL a B S V O G ((vp_updL F.1 (fX0_placeOf F p1).toNatClampNeg p1), (upd F.2.1 (fX0_placeOf F p1).toNatClampNeg 0), (vp_updL F.2.2.1 (fX0_placeOf F p1).toNatClampNeg 0), (upd F.2.2.2.1 (fX0_placeOf F p1).toNatClampNeg p3), F.2.2.2.2 + 1) T)) rfl (by decide) lkX0_25 rfl rfl rfl (Nat.le_of_ble_eq_true rfl) rfl dX0_add_56 ?_
    refine zw_aload_n C dX0_add_59 1 rfl rfl ?_
    refine zw_get C FX0 25 1 (v := .ref (a 27)) rfl (by decide) lkX0_15 rfl dX0_add_60 ?_
    refine zw_iload C dX0_add_63 0 rfl ?_
    refine zw_dup2_11 C dX0_add_65 rfl rfl ?_
    refine zw_iald C 27 0 (f := (upd F.2.1 (fX0_placeOf F p1).toNatClampNeg 0)) (i := (fX0_placeOf F p1)) rfl rfl (po_in hy1 hy2) dX0_add_66 ?_
    refine zw_iconst C (v := 1) dX0_add_67 (by decide) ?_
    refine zw_iadd C dX0_add_68 ?_
    refine zw_iast C 27 0 (f := (upd F.2.1 (fX0_placeOf F p1).toNatClampNeg 0)) (i := (fX0_placeOf F p1)) (ws2 := (wD cI cL a B S V O G ((vp_updL F.1 (fX0_placeOf F p1).toNatClampNeg p1), (upd (upd F.2.1 (fX0_placeOf F p1).toNatClampNeg 0) (fX0_placeOf F p1).toNatClampNeg (((upd F.2.1 (fX0_placeOf F p1).toNatClampNeg 0) (fX0_placeOf F p1).toNatClampNeg) + 1)), (vp_updL F.2.2.1 (fX0_placeOf F p1).toNatClampNeg 0), (upd F.2.2.2.1 (fX0_placeOf F p1).toNatClampNeg p3), F.2.2.2.2 + 1) T)) rfl rfl (po_in hy1 hy2) rfl dX0_add_69 ?_
    refine zw_aload_n C dX0_add_70 1 rfl rfl ?_
    refine zw_get C FX0 25 2 (v := .ref (a 28)) rfl (by decide) lkX0_19 rfl dX0_add_71 ?_
    refine zw_iload C dX0_add_74 0 rfl ?_
    refine zw_dup2_11 C dX0_add_76 rfl rfl ?_
    refine zw_lald C 28 1 (f := (vp_updL F.2.2.1 (fX0_placeOf F p1).toNatClampNeg 0)) (i := (fX0_placeOf F p1)) rfl rfl (po_in hy1 hy2) dX0_add_77 ?_
    refine zw_lload_n C dX0_add_78 3 rfl rfl ?_
    refine zw_ladd C dX0_add_79 ?_
    refine zw_last C 28 1 (f := (vp_updL F.2.2.1 (fX0_placeOf F p1).toNatClampNeg 0)) (i := (fX0_placeOf F p1)) (ws2 := (wD cI cL a B S V O G ((vp_updL F.1 (fX0_placeOf F p1).toNatClampNeg p1), (upd (upd F.2.1 (fX0_placeOf F p1).toNatClampNeg 0) (fX0_placeOf F p1).toNatClampNeg (((upd F.2.1 (fX0_placeOf F p1).toNatClampNeg 0) (fX0_placeOf F p1).toNatClampNeg) + 1)), (vp_updL (vp_updL F.2.2.1 (fX0_placeOf F p1).toNatClampNeg 0) (fX0_placeOf F p1).toNatClampNeg (((vp_updL F.2.2.1 (fX0_placeOf F p1).toNatClampNeg 0) (fX0_placeOf F p1).toNatClampNeg) + p2)), (upd F.2.2.2.1 (fX0_placeOf F p1).toNatClampNeg p3), F.2.2.2.2 + 1) T)) rfl rfl (po_in hy1 hy2) rfl dX0_add_80 ?_
    subst hF
    exact zw_return C hr hlk dX0_add_81 rfl
theorem ga_size {F : dF} {x y : Int64} {t : Int32} {g : Nat} {q : dF} (h : fX0_add F x y t = q) (g2 : F.2.2.2.2 = nI g) : ∃ m : Nat, m ≤ g + 1 ∧ q.2.2.2.2 = nI m := by
  subst h
  unfold fX0_add
  split
  · exact ⟨g + 1, Nat.le_refl _, by show F.2.2.2.2 + 1 = _; rw [g2]; exact nI_1 g⟩
  · exact ⟨g, by omega, g2⟩
end
section
/-! the two groupings change places: the world is the same cells in another order -/
def dsw (a : Nat → Nat) : Nat → Nat := fun k => if 20 ≤ k ∧ k < 25 then a (k + 5) else if 25 ≤ k ∧ k < 30 then a (k - 5) else a k
def dsa (b : Bool) (a : Nat → Nat) : Nat → Nat := match b with
  | true => dsw a
  | false => a
section ZP
variable {p : Program} {l : Launch} {e : Env} {R : Room} {s : State} {m : MethodId} {args : Array Value} {below : List Frame} {meth : Method} {c : Code} {D : va_G} {A : Nat → Prop} {nL : Nat} {Q : State → Prop} {nc ns : Nat} {ws : va_W} {pc : Nat} {lv : List (Nat × Value)} {st : List Value}
theorem zw_perm {ws2 : va_W} (is : List Nat) (h1 : is.filterMap (fun i => ws[i]?) = ws2) (h2 : va_nd is = true) (h3 : is.map (fun i => ws[i]?) = ws2.map some) (k : zw_W p l e R s m args below meth c D A nL Q nc ns ws2 pc lv st) : zw_W p l e R s m args below meth c D A nL Q nc ns ws pc lv st := fun H locs ls hP hD hS hl => k H locs ls (hP.sub is h1) (hD.sub is h2 h3) hS hl
end ZP
end
section
def fX3_group_loop (B : dB) (S : dS) (V : dV) (p1 p2 : Int32) : Nat → dF → (Nat → Int64) → (Nat → Int64) → dT → Int32 → dF × (Nat → Int64) × (Nat → Int64) × dT
  | 0, F, S3, V3, T, _ => (F, S3, V3, T)
  | n + 1, F, S3, V3, T, x3 => (if B.2.1 ≤ x3 then (F, S3, V3, T) else (if (fX2_hasFailure T) = 0 then (zw_l ((zA B.2.2.2.1 B.2.2.2.2.1 S.1 S.2.1 S.2.2.1 V.1 V.2.1 V.2.2.1 73).1 (S3, V3, T) p1 (B.2.2.2.2.2.1 x3.toNatClampNeg)) (fun q3 => (zw_l ((zA B.2.2.2.1 B.2.2.2.2.1 S.1 S.2.1 S.2.2.1 V.1 V.2.1 V.2.2.1 73).1 q3.2 p2 (B.2.2.2.2.2.1 x3.toNatClampNeg)) (fun q5 => (zw_l (fX0_add F q3.1 q5.1 (B.2.2.2.2.2.1 x3.toNatClampNeg)) (fun q7 => fX3_group_loop B S V p1 p2 n q7 q5.2.1 q5.2.2.1 q5.2.2.2 (x3 + 1))))))) else (F, S3, V3, T)))
set_option maxHeartbeats 4000000 in
set_option maxRecDepth 100000 in
theorem kX3_group_loop {p : Program} {l : Launch} {e : Env} {s : State} {m : MethodId} {args : Array Value} {below : List Frame} {meth : Method} {c : Code} {A : Nat → Prop} {Q : State → Prop} {D : va_G} {cI cL : ClassId} {a : Nat → Nat} {B : dB} {S : dS} {V : dV} {O : dO} {G : dG} {p1 p2 : Int32} {nt k sn vn on : Nat} {rs rv ro : Nat → Nat} (C : zw_C p s m args c D (zw_tys cI cL) A RX3 cX3_group 6) (hy1 : dz_B B nt k) (hy2 : dz_K S V O sn vn on rs rv ro) (hp : vp_in p1 sn) (hp2 : vp_in p2 sn) : ∀ (n : Nat) (F : dF) (S3 : (Nat → Int64)) (V3 : (Nat → Int64)) (T : dT) (x3 : Int32) (q : dF × (Nat → Int64) × (Nat → Int64) × dT), (∃ i g : Nat, x3 = nI i ∧ F.2.2.2.2 = nI g ∧ g ≤ i ∧ i ≤ k ∧ k < i + n) → fX3_group_loop B S V p1 p2 n F S3 V3 T x3 = q → (zw_W p l e (zw_rm 153 4604) s m args below meth c D A 6 Q 0 0 (wD cI cL a B (S.1, S.2.1, S.2.2.1, q.2.1, S.2.2.2.2) (V.1, V.2.1, V.2.2.1, q.2.2.1, V.2.2.2.2) O G q.1 q.2.2.2) 109 [(0, .ref (a 0)), (1, .int p1), (2, .int p2)] []) → zw_W p l e (zw_rm 153 4604) s m args below meth c D A 6 Q 0 0 (wD cI cL a B (S.1, S.2.1, S.2.2.1, S3, S.2.2.2.2) (V.1, V.2.1, V.2.2.1, V3, V.2.2.2.2) O G F T) 46 [(0, .ref (a 0)), (1, .int p1), (2, .int p2), (3, .int x3)] [] := by
  intro n
  induction n with
  | zero =>
    intro F S3 V3 T x3 q hI hF kx
    obtain ⟨i, g, -, -, -, h3, h4⟩ := hI; exact absurd h4 (by omega)
  | succ n ih =>
    intro F S3 V3 T x3 q hI hF kx
    obtain ⟨i, g, z3, zg, hg, hi, hn⟩ := hI
    rw [fX3_group_loop] at hF
    refine zw_iload_n C dX3_group_46 3 rfl rfl ?_
    refine zw_aload_n C dX3_group_47 0 rfl rfl ?_
    refine zw_get C FX3 0 5 (v := .int B.2.1) rfl (by decide) lkX3_27 rfl dX3_group_48 ?_
    refine zw_icmp_ge C 109 dX3_group_51 (by decide) (fun h1 => ?_) (fun h1 => ?_)
    · rw [if_pos h1] at hF
      subst hF
      exact zw_locals [0, 1, 2] rfl kx
    · rw [if_neg h1] at hF
      refine zw_aload_n C dX3_group_54 0 rfl rfl ?_
      refine zw_get C FX3 0 11 (v := .ref (a 30)) rfl (by decide) lkX3_56 rfl dX3_group_55 ?_
      refine zw_calli C kvX3_110 (kX2_hasFailure rfl) ⟨rfl, rfl, ⟨by decide, by decide⟩, by decide, by decide⟩ FX2 30 (As := []) (rest := []) rfl rfl rfl (Nat.le_of_ble_eq_true rfl) dX3_group_58 ?_
      refine zw_if_ne C 109 dX3_group_61 (by decide) (fun h2 => ?_) (fun h2 => ?_)
      · rw [if_neg h2] at hF
        subst hF
        exact zw_locals [0, 1, 2] rfl kx
      · rw [if_pos h2] at hF
        refine zw_aload_n C dX3_group_64 0 rfl rfl ?_
        refine zw_iload_n C dX3_group_65 1 rfl rfl ?_
        refine zw_aload_n C dX3_group_66 0 rfl rfl ?_
        refine zw_get C FX3 0 3 (v := .ref (a 3)) rfl (by decide) lkX3_20 rfl dX3_group_67 ?_
        refine zw_iload_n C dX3_group_70 3 rfl rfl ?_
        refine zw_iald C 3 0 (f := B.2.2.2.2.2.1) (i := x3) rfl rfl (dz_ixl hy1 z3 hi (by assumption)) dX3_group_71 ?_
        obtain ⟨q3, e4⟩ : ∃ z, (zA B.2.2.2.1 B.2.2.2.2.1 S.1 S.2.1 S.2.2.1 V.1 V.2.1 V.2.2.1 73).1 (S3, V3, T) p1 (B.2.2.2.2.2.1 x3.toNatClampNeg) = z := ⟨_, rfl⟩
        rw [zw_l_eq e4] at hF
        refine zw_calll C kvX3_106 (kAS hy2 hy1.1 (S3, V3, T) p1 (B.2.2.2.2.2.1 x3.toNatClampNeg) _ hp (dz_li hy1 z3 hi (by assumption)) e4) ⟨rfl, rfl, ⟨by decide, by decide⟩, by decide, by decide⟩ FX3 0 (As := [.int p1, .int (B.2.2.2.2.2.1 x3.toNatClampNeg)]) (rest := []) rfl rfl rfl (Nat.le_of_ble_eq_true rfl) dX3_group_72 ?_
        refine zw_lstore C dX3_group_75 (by decide) rfl ?_
        refine zw_aload_n C dX3_group_77 1 rfl rfl ?_
        refine zw_get C FX3 0 10 (v := .ref (a 25)) rfl (by decide) lkX3_50 rfl dX3_group_78 ?_
        refine zw_lload C dX3_group_81 0 rfl ?_
        refine zw_aload_n C dX3_group_83 1 rfl rfl ?_
        refine zw_iload_n C dX3_group_84 3 rfl rfl ?_
        refine zw_aload_n C dX3_group_85 1 rfl rfl ?_
        refine zw_get C FX3 0 3 (v := .ref (a 3)) rfl (by decide) lkX3_20 rfl dX3_group_86 ?_
        refine zw_iload_n C dX3_group_89 4 rfl rfl ?_
        refine zw_iald C 3 0 (f := B.2.2.2.2.2.1) (i := x3) rfl rfl (dz_ixl hy1 z3 hi (by assumption)) dX3_group_90 ?_
        obtain ⟨q5, e6⟩ : ∃ z, (zA B.2.2.2.1 B.2.2.2.2.1 S.1 S.2.1 S.2.2.1 V.1 V.2.1 V.2.2.1 73).1 q3.2 p2 (B.2.2.2.2.2.1 x3.toNatClampNeg) = z := ⟨_, rfl⟩
        rw [zw_l_eq e6] at hF
        refine zw_calll C kvX3_106 (kAS hy2 hy1.1 q3.2 p2 (B.2.2.2.2.2.1 x3.toNatClampNeg) _ hp2 (dz_li hy1 z3 hi (by assumption)) e6) ⟨rfl, rfl, ⟨by decide, by decide⟩, by decide, by decide⟩ FX3 0 (As := [.int p2, .int (B.2.2.2.2.2.1 x3.toNatClampNeg)]) (rest := [.long q3.1, .ref (a 25)]) rfl rfl rfl (Nat.le_of_ble_eq_true rfl) dX3_group_91 ?_
        refine zw_aload_n C dX3_group_94 1 rfl rfl ?_
        refine zw_get C FX3 0 3 (v := .ref (a 3)) rfl (by decide) lkX3_20 rfl dX3_group_95 ?_
        refine zw_iload_n C dX3_group_98 4 rfl rfl ?_
        refine zw_iald C 3 0 (f := B.2.2.2.2.2.1) (i := x3) rfl rfl (dz_ixl hy1 z3 hi (by assumption)) dX3_group_99 ?_
        obtain ⟨q7, e8⟩ : ∃ z, fX0_add F q3.1 q5.1 (B.2.2.2.2.2.1 x3.toNatClampNeg) = z := ⟨_, rfl⟩
        rw [zw_l_eq e8] at hF
        refine zw_callv C kvX3_137 (kX0_add_F (by have := dz_lk hy1 z3 (by assumption) hi; have := hy1.1; have := hy1.2.1; omega) zg e8) ⟨rfl, rfl, ⟨by decide, by decide⟩, by decide, by decide⟩ FX0 25 (As := [.long q3.1, .long q5.1, .int (B.2.2.2.2.2.1 x3.toNatClampNeg)]) (rest := []) rfl rfl rfl (Nat.le_of_ble_eq_true rfl) dX3_group_100 ?_
        refine zw_iinc C (j := 4) (v := x3 + 1) dX3_group_103 rfl rfl (by decide) rfl ?_
        refine zw_goto C 46 dX3_group_106 (by decide) ?_
        refine zw_locals [2, 3, 4, 0] (lv2 := [(0, .ref (a 0)), (1, .int p1), (2, .int p2), (3, .int (x3 + 1))]) rfl ?_
        exact ih q7 q5.2.1 q5.2.2.1 q5.2.2.2 (x3 + 1) q (by obtain ⟨m, hm, em⟩ := ga_size (by assumption) zg; exact ⟨i + 1, m, by rw [z3]; exact nI_1 i, em, by omega, dz_lk hy1 z3 (by assumption) hi, by omega⟩) hF kx
def fX3_group (B : dB) (S : dS) (V : dV) (G : dG) (F : dF) (T : dT) (p1 : Int32) (p2 : Int32) : Int32 × Bool × dG × dF × (Nat → Int64) × (Nat → Int64) × dT := (if (fX1_has S p1) = 0 then ((-1), false, G, F, S.2.2.2.1, V.2.2.2.1, T) else (if (fX1_has S p2) = 0 then ((-1), false, G, F, S.2.2.2.1, V.2.2.2.1, T) else (zw_l (fX2_opensCall T) (fun q3 => (if q3.1 = 0 then ((-2), false, G, F, S.2.2.2.1, V.2.2.2.1, q3.2) else (zw_l (fX0_clear F) (fun q6 => (zw_l (fX3_group_loop B S V p1 p2 41 q6 S.2.2.2.1 V.2.2.2.1 q3.2 0) (fun q8 => (if (fX2_hasFailure q8.2.2.2) = 0 then (q8.1.2.2.2.2, true, q8.1, G, q8.2.1, q8.2.2.1, q8.2.2.2) else (zw_l (fX2_endFailedCall q8.2.2.2) (fun q11 => (q11.1, false, G, q8.1, q8.2.1, q8.2.2.1, q11.2)))))))))))))
set_option maxHeartbeats 4000000 in
set_option maxRecDepth 100000 in
theorem kX3_group {l : Launch} {D : va_G} {cI cL : ClassId} {a : Nat → Nat} {B : dB} {S : dS} {V : dV} {O : dO} {G : dG} {F : dF} {T : dT} {p1 : Int32} {p2 : Int32} {q : Int32 × Bool × dG × dF × (Nat → Int64) × (Nat → Int64) × dT} {nt k sn vn on : Nat} {rs rv ro : Nat → Nat} (hy1 : dz_B B nt k) (hy2 : dz_K S V O sn vn on rs rv ro) (hF : fX3_group B S V G F T p1 p2 = q) : zw_Mi l yX3_group cX3_group 6 .int D (zw_tys cI cL) (zw_rm 153 4604) [.ref (a 0), .int p1, .int p2] (wD cI cL a B S V O G F T) (wD cI cL (dsa q.2.1 a) B (S.1, S.2.1, S.2.2.1, q.2.2.2.2.1, S.2.2.2.2) (V.1, V.2.1, V.2.2.1, q.2.2.2.2.2.1, V.2.2.2.2) O q.2.2.1 q.2.2.2.1 q.2.2.2.2.2.2) q.1 := by
  unfold fX3_group at hF
  refine zw_Mi_of (own := RX3) (by decide) rfl (Nat.le_of_ble_eq_true rfl) ?_
  intro p e s m args below meth c A C hr hlk
  refine zw_eq (lv2 := [(0, .ref (a 0)), (1, .int p1), (2, .int p2)]) rfl rfl rfl ?_
  refine zw_aload_n C dX3_group_0 0 rfl rfl ?_
  refine zw_get C FX3 0 6 (v := .ref (a 5)) rfl (by decide) lkX3_33 rfl dX3_group_1 ?_
  refine zw_iload_n C dX3_group_4 1 rfl rfl ?_
  refine zw_calli C kvX3_100 (kX1_has_S rfl) ⟨rfl, rfl, ⟨by decide, by decide⟩, by decide, by decide⟩ FX1 5 (As := [.int p1]) (rest := []) rfl rfl rfl (Nat.le_of_ble_eq_true rfl) dX3_group_5 ?_
  refine zw_if_eq C 22 dX3_group_8 (by decide) (fun h1 => ?_) (fun h1 => ?_)
  · rw [if_pos h1] at hF
    refine zw_iconst C (v := (-1)) dX3_group_22 (by decide) ?_
    subst hF
    exact zw_ireturn C hr hlk dX3_group_23 rfl rfl
  · rw [if_neg h1] at hF
    refine zw_aload_n C dX3_group_11 0 rfl rfl ?_
    refine zw_get C FX3 0 6 (v := .ref (a 5)) rfl (by decide) lkX3_33 rfl dX3_group_12 ?_
    refine zw_iload_n C dX3_group_15 2 rfl rfl ?_
    refine zw_calli C kvX3_100 (kX1_has_S rfl) ⟨rfl, rfl, ⟨by decide, by decide⟩, by decide, by decide⟩ FX1 5 (As := [.int p2]) (rest := []) rfl rfl rfl (Nat.le_of_ble_eq_true rfl) dX3_group_16 ?_
    refine zw_if_ne C 24 dX3_group_19 (by decide) (fun h2 => ?_) (fun h2 => ?_)
    · rw [if_neg h2] at hF
      refine zw_aload_n C dX3_group_24 0 rfl rfl ?_
      refine zw_get C FX3 0 11 (v := .ref (a 30)) rfl (by decide) lkX3_56 rfl dX3_group_25 ?_
      obtain ⟨q3, e4⟩ : ∃ z, fX2_opensCall T = z := ⟨_, rfl⟩
      rw [zw_l_eq e4] at hF
      refine zw_calli C kvX3_103 (kX2_opensCall e4) ⟨rfl, rfl, ⟨by decide, by decide⟩, by decide, by decide⟩ FX2 30 (As := []) (rest := []) rfl rfl rfl (Nat.le_of_ble_eq_true rfl) dX3_group_28 ?_
      refine zw_if_ne C 37 dX3_group_31 (by decide) (fun h5 => ?_) (fun h5 => ?_)
      · rw [if_neg h5] at hF
        refine zw_aload_n C dX3_group_37 0 rfl rfl ?_
        refine zw_get C FX3 0 10 (v := .ref (a 25)) rfl (by decide) lkX3_50 rfl dX3_group_38 ?_
        obtain ⟨q6, e7⟩ : ∃ z, fX0_clear F = z := ⟨_, rfl⟩
        rw [zw_l_eq e7] at hF
        refine zw_callv C kvX3_134 (kX0_clear_F e7) ⟨rfl, rfl, ⟨by decide, by decide⟩, by decide, by decide⟩ FX0 25 (As := []) (rest := []) rfl rfl rfl (Nat.le_of_ble_eq_true rfl) dX3_group_41 ?_
        refine zw_iconst C (v := 0) dX3_group_44 (by decide) ?_
        refine zw_istore_n C dX3_group_45 rfl (by decide) rfl ?_
        obtain ⟨q8, e9⟩ : ∃ z, fX3_group_loop B S V p1 p2 41 q6 S.2.2.2.1 V.2.2.2.1 q3.2 0 = z := ⟨_, rfl⟩
        rw [zw_l_eq e9] at hF
        refine zw_locals [1, 2, 3, 0] (lv2 := [(0, .ref (a 0)), (1, .int p1), (2, .int p2), (3, .int 0)]) rfl ?_
        refine kX3_group_loop C hy1 hy2 (dz_hasIn (by assumption) hy2.2.2.2.1 hy2.1) (dz_hasIn (by assumption) hy2.2.2.2.1 hy2.1) 41 q6 S.2.2.2.1 V.2.2.2.1 q3.2 0 q8 ⟨0, 0, rfl, by subst_vars; rfl, Nat.le_refl _, Nat.zero_le _, by have := hy1.1; have := hy1.2.1; omega⟩ e9 ?_
        refine zw_aload_n C dX3_group_109 0 rfl rfl ?_
        refine zw_get C FX3 0 11 (v := .ref (a 30)) rfl (by decide) lkX3_56 rfl dX3_group_110 ?_
        refine zw_calli C kvX3_110 (kX2_hasFailure rfl) ⟨rfl, rfl, ⟨by decide, by decide⟩, by decide, by decide⟩ FX2 30 (As := []) (rest := []) rfl rfl rfl (Nat.le_of_ble_eq_true rfl) dX3_group_113 ?_
        refine zw_if_eq C 127 dX3_group_116 (by decide) (fun h10 => ?_) (fun h10 => ?_)
        · rw [if_pos h10] at hF
          refine zw_aload_n C dX3_group_127 0 rfl rfl ?_
          refine zw_get C FX3 0 9 (v := .ref (a 20)) rfl (by decide) lkX3_46 rfl dX3_group_128 ?_
          refine zw_astore_n C dX3_group_131 rfl (by decide) rfl ?_
          refine zw_aload_n C dX3_group_132 1 rfl rfl ?_
          refine zw_aload_n C dX3_group_133 1 rfl rfl ?_
          refine zw_get C FX3 0 10 (v := .ref (a 25)) rfl (by decide) lkX3_50 rfl dX3_group_134 ?_
          refine zw_put C FX3 GX3 0 9 (v := .ref (a 25)) (ws2 := (wD cI cL a B (S.1, S.2.1, S.2.2.1, q8.2.1, S.2.2.2.2) (V.1, V.2.1, V.2.2.1, q8.2.2.1, V.2.2.2.2) O G q8.1 q8.2.2.2).set 0 (a 0, .inr (3, [.ref (a 1), .int B.1, .ref (a 2), .ref (a 3), .ref (a 4), .int B.2.1, .ref (a 5), .ref (a 10), .ref (a 15), .ref (a 25), .ref (a 25), .ref (a 30), .long B.2.2.1]))) rfl (by decide) lkX3_46 rfl rfl rfl (Nat.le_of_ble_eq_true rfl) rfl dX3_group_137 ?_
          refine zw_aload_n C dX3_group_140 1 rfl rfl ?_
          refine zw_aload_n C dX3_group_141 0 rfl rfl ?_
          refine zw_put C FX3 GX3 0 10 (v := .ref (a 20)) (ws2 := (wD cI cL a B (S.1, S.2.1, S.2.2.1, q8.2.1, S.2.2.2.2) (V.1, V.2.1, V.2.2.1, q8.2.2.1, V.2.2.2.2) O G q8.1 q8.2.2.2).set 0 (a 0, .inr (3, [.ref (a 1), .int B.1, .ref (a 2), .ref (a 3), .ref (a 4), .int B.2.1, .ref (a 5), .ref (a 10), .ref (a 15), .ref (a 25), .ref (a 20), .ref (a 30), .long B.2.2.1]))) rfl (by decide) lkX3_50 rfl rfl rfl (Nat.le_of_ble_eq_true rfl) rfl dX3_group_142 ?_
          refine zw_perm (ws2 := (wD cI cL (dsw a) B (S.1, S.2.1, S.2.2.1, q8.2.1, S.2.2.2.2) (V.1, V.2.1, V.2.2.1, q8.2.2.1, V.2.2.2.2) O q8.1 G q8.2.2.2)) [0, 1, 2, 3, 4, 5, 6, 7, 8, 9, 10, 11, 12, 13, 14, 15, 16, 17, 18, 19, 25, 26, 27, 28, 29, 20, 21, 22, 23, 24, 30] rfl rfl rfl ?_
          refine zw_aload_n C dX3_group_145 1 rfl rfl ?_
          refine zw_get C FX3 0 9 (v := .ref (dsw a 20)) rfl (by decide) lkX3_46 rfl dX3_group_146 ?_
          refine zw_get C FX0 20 4 (v := .int q8.1.2.2.2.2) rfl (by decide) lkX3_141 rfl dX3_group_149 ?_
          subst hF
          exact zw_ireturn C hr hlk dX3_group_152 rfl rfl
        · rw [if_neg h10] at hF
          refine zw_aload_n C dX3_group_119 0 rfl rfl ?_
          refine zw_get C FX3 0 11 (v := .ref (a 30)) rfl (by decide) lkX3_56 rfl dX3_group_120 ?_
          obtain ⟨q11, e12⟩ : ∃ z, fX2_endFailedCall q8.2.2.2 = z := ⟨_, rfl⟩
          rw [zw_l_eq e12] at hF
          refine zw_calli C kvX3_113 (kX2_endFailedCall e12) ⟨rfl, rfl, ⟨by decide, by decide⟩, by decide, by decide⟩ FX2 30 (As := []) (rest := []) rfl rfl rfl (Nat.le_of_ble_eq_true rfl) dX3_group_123 ?_
          subst hF
          exact zw_ireturn C hr hlk dX3_group_126 rfl rfl
      · rw [if_pos h5] at hF
        refine zw_bipush C (v := (-2)) dX3_group_34 (by decide) ?_
        subst hF
        exact zw_ireturn C hr hlk dX3_group_36 rfl rfl
    · rw [if_pos h2] at hF
      refine zw_iconst C (v := (-1)) dX3_group_22 (by decide) ?_
      subst hF
      exact zw_ireturn C hr hlk dX3_group_23 rfl rfl
end
section
/-! the words of the reference and of the law -/
theorem lkX4_7 : Cond.fieldLink RX4 7 (TX4 1).1 (TX4 1).2.1 (TX4 1).2.2.1 ∈ zw_tbl := (zw_in2 113 rfl rfl)
theorem lkX4_13 : Cond.fieldLink RX4 13 (TX4 2).1 (TX4 2).2.1 (TX4 2).2.2.1 ∈ zw_tbl := (zw_in2 114 rfl rfl)
theorem lkX4_16 : Cond.fieldLink RX4 16 (TX4 4).1 (TX4 4).2.1 (TX4 4).2.2.1 ∈ zw_tbl := (zw_in2 116 rfl rfl)
theorem lkX4_20 : Cond.fieldLink RX4 20 (TX4 5).1 (TX4 5).2.1 (TX4 5).2.2.1 ∈ zw_tbl := (zw_in2 117 rfl rfl)
theorem lkX4_23 : Cond.fieldLink RX4 23 (TX4 6).1 (TX4 6).2.1 (TX4 6).2.2.1 ∈ zw_tbl := (zw_in2 118 rfl rfl)
theorem lkX4_26 : Cond.fieldLink RX4 26 (TX4 7).1 (TX4 7).2.1 (TX4 7).2.2.1 ∈ zw_tbl := (zw_in2 119 rfl rfl)
theorem lkX4_29 : Cond.fieldLink RX4 29 (TX4 8).1 (TX4 8).2.1 (TX4 8).2.2.1 ∈ zw_tbl := (zw_in2 120 rfl rfl)
theorem lkX4_32 : Cond.fieldLink RX4 32 (TX4 9).1 (TX4 9).2.1 (TX4 9).2.2.1 ∈ zw_tbl := (zw_in2 121 rfl rfl)
theorem lkX4_35 : Cond.fieldLink RX4 35 (TX4 10).1 (TX4 10).2.1 (TX4 10).2.2.1 ∈ zw_tbl := (zw_in2 122 rfl rfl)
theorem lkX4_38 : Cond.fieldLink RX4 38 (TX4 12).1 (TX4 12).2.1 (TX4 12).2.2.1 ∈ zw_tbl := (zw_in2 124 rfl rfl)
theorem lkX4_41 : Cond.fieldLink RX4 41 (TX4 13).1 (TX4 13).2.1 (TX4 13).2.2.1 ∈ zw_tbl := (zw_in2 125 rfl rfl)
theorem lkX4_44 : Cond.fieldLink RX4 44 (TX4 14).1 (TX4 14).2.1 (TX4 14).2.2.1 ∈ zw_tbl := (zw_in2 126 rfl rfl)
theorem lkX4_47 : Cond.fieldLink RX4 47 (TX4 15).1 (TX4 15).2.1 (TX4 15).2.2.1 ∈ zw_tbl := (zw_in2 127 rfl rfl)
theorem lkX4_50 : Cond.fieldLink RX4 50 (TX4 16).1 (TX4 16).2.1 (TX4 16).2.2.1 ∈ zw_tbl := (zw_in2 128 rfl rfl)
theorem lkX4_53 : Cond.fieldLink RX4 53 (TX4 27).1 (TX4 27).2.1 (TX4 27).2.2.1 ∈ zw_tbl := (zw_in2 139 rfl rfl)
theorem lkX4_56 : Cond.fieldLink RX4 56 (TX4 28).1 (TX4 28).2.1 (TX4 28).2.2.1 ∈ zw_tbl := (zw_in2 140 rfl rfl)
theorem lkX4_59 : Cond.fieldLink RX4 59 (TX4 29).1 (TX4 29).2.1 (TX4 29).2.2.1 ∈ zw_tbl := (zw_in2 141 rfl rfl)
theorem lkX4_62 : Cond.fieldLink RX4 62 (TX4 30).1 (TX4 30).2.1 (TX4 30).2.2.1 ∈ zw_tbl := (zw_in2 142 rfl rfl)
theorem lkX4_80 : Cond.fieldLink RX4 80 (TX4 0).1 (TX4 0).2.1 (TX4 0).2.2.1 ∈ zw_tbl := (zw_in2 112 rfl rfl)
theorem lkX4_88 : Cond.fieldLink RX4 88 (TX4 3).1 (TX4 3).2.1 (TX4 3).2.2.1 ∈ zw_tbl := (zw_in2 115 rfl rfl)
theorem lkX4_95 : Cond.fieldLink RX4 95 (TX4 19).1 (TX4 19).2.1 (TX4 19).2.2.1 ∈ zw_tbl := (zw_in2 131 rfl rfl)
theorem lkX4_98 : Cond.fieldLink RX4 98 (TX4 18).1 (TX4 18).2.1 (TX4 18).2.2.1 ∈ zw_tbl := (zw_in2 130 rfl rfl)
theorem lkX4_101 : Cond.fieldLink RX4 101 (TX4 21).1 (TX4 21).2.1 (TX4 21).2.2.1 ∈ zw_tbl := (zw_in2 133 rfl rfl)
theorem lkX4_104 : Cond.fieldLink RX4 104 (TX4 11).1 (TX4 11).2.1 (TX4 11).2.2.1 ∈ zw_tbl := (zw_in2 123 rfl rfl)
theorem lkX4_107 : Cond.fieldLink RX4 107 (TX4 17).1 (TX4 17).2.1 (TX4 17).2.2.1 ∈ zw_tbl := (zw_in2 129 rfl rfl)
theorem lkX4_127 : Cond.fieldLink RX4 127 (TX4 22).1 (TX4 22).2.1 (TX4 22).2.2.1 ∈ zw_tbl := (zw_in2 134 rfl rfl)
theorem lkX4_144 : Cond.fieldLink RX4 144 (TX4 20).1 (TX4 20).2.1 (TX4 20).2.2.1 ∈ zw_tbl := (zw_in2 132 rfl rfl)
theorem lkX4_147 : Cond.fieldLink RX4 147 (TX4 23).1 (TX4 23).2.1 (TX4 23).2.2.1 ∈ zw_tbl := (zw_in2 135 rfl rfl)
theorem lkX4_150 : Cond.fieldLink RX4 150 (TX4 24).1 (TX4 24).2.1 (TX4 24).2.2.1 ∈ zw_tbl := (zw_in2 136 rfl rfl)
theorem lkX4_172 : Cond.fieldLink RX4 172 (TX4 25).1 (TX4 25).2.1 (TX4 25).2.2.1 ∈ zw_tbl := (zw_in2 137 rfl rfl)
theorem lkX4_175 : Cond.fieldLink RX4 175 (TX4 26).1 (TX4 26).2.1 (TX4 26).2.2.1 ∈ zw_tbl := (zw_in2 138 rfl rfl)
theorem kvX4_84 : zw_KS RX4 84 yX4_in cX4_in 3 (some .boolean) 3 := ⟨(zw_in2 235 rfl rfl), ⟨(zw_in2 233 rfl rfl), (zw_in2 234 rfl rfl), (zw_in1 5 rfl rfl)⟩, ⟨rfl, by decide, by decide, by decide⟩⟩
theorem kvX4_91 : zw_KV RX4 91 RX4 yX4_isThing cX4_isThing 2 (some .boolean) 1 := ⟨(zw_in2 232 rfl rfl), ⟨(zw_in2 229 rfl rfl), (zw_in2 231 rfl rfl), (zw_inS 16 rfl rfl), (zw_in1 5 rfl rfl)⟩, ⟨rfl, by decide, by decide, by decide⟩⟩
theorem kvX4_111 : zw_KV RX4 111 RX4 yX4_tells cX4_tells 3 none 1 := ⟨(zw_in3 35 rfl rfl), ⟨(zw_in3 32 rfl rfl), (zw_in3 34 rfl rfl), (zw_inS 23 rfl rfl), (zw_in1 5 rfl rfl)⟩, ⟨rfl, by decide, by decide, by decide⟩⟩
theorem kvX4_115 : zw_KV RX4 115 RX4 yX4_begins cX4_begins 5 none 4 := ⟨(zw_in3 27 rfl rfl), ⟨(zw_in3 24 rfl rfl), (zw_in3 26 rfl rfl), (zw_inS 21 rfl rfl), (zw_in1 5 rfl rfl)⟩, ⟨rfl, by decide, by decide, by decide⟩⟩
theorem kvX4_121 : zw_KV RX4 121 RX4 yX4_both cX4_both 6 none 3 := ⟨(zw_in3 40 rfl rfl), ⟨(zw_in3 37 rfl rfl), (zw_in3 39 rfl rfl), (zw_inS 24 rfl rfl), (zw_in1 5 rfl rfl)⟩, ⟨rfl, by decide, by decide, by decide⟩⟩
theorem lkcX4_119 : Cond.constantLong RX4 119 (7) ∈ zw_tbl := (zw_in3 36 rfl rfl)
theorem lkcX4_125 : Cond.constantLong RX4 125 (-1) ∈ zw_tbl := (zw_in3 49 rfl rfl)
end
section
/-! THE REFERENCE: its cells. B: things, listed, answer, columns, row, list, next; K: many, kind, first, second, held; E: asked; M: waiting, which, one, other, stage, had, told, failure; U: askings, askings told, ever, met, failed calls, latest; G: groups, key, size, sums, firsts; N: the new ones. -/
def wM (cI cL : ClassId) (b : Nat → Nat) (B0 : Int32) (B1 : Int32) (B2 : Int64) (B3 : (Nat → Int64)) (B4 : (Nat → Int64)) (B5 : (Nat → Int32)) (B6 : (Nat → Int32)) (K0 : (Nat → Int32)) (K1 : (Nat → Int32)) (K2 : (Nat → Int32)) (K3 : (Nat → Int32)) (K4 : (Nat → Int64)) (E0 : (Nat → Int32)) (M0 : Int32) (M1 : (Nat → Int32)) (M2 : (Nat → Int32)) (M3 : (Nat → Int32)) (M4 : (Nat → Int32)) (M5 : (Nat → Int64)) (M6 : Int64) (M7 : Int32) (U0 : Int32) (U1 : Int32) (U2 : Int32) (U3 : Int32) (U4 : Int32) (U5 : Int32) (G0 : Int32) (G1 : (Nat → Int64)) (G2 : (Nat → Int32)) (G3 : (Nat → Int64)) (G4 : (Nat → Int32)) (N0 : (Nat → Int64)) (N1 : (Nat → Int32)) (N2 : (Nat → Int64)) (N3 : (Nat → Int32)) : va_W := [(b 0, .inr (4, [.int B0, .ref (b 1), .ref (b 2), .int B1, .ref (b 3), .ref (b 4), .ref (b 5), .ref (b 6), .ref (b 7), .ref (b 8), .ref (b 9), .int M0, .ref (b 10), .ref (b 11), .ref (b 12), .ref (b 13), .ref (b 14), .long M6, .int M7, .int U0, .int U1, .int U2, .int U3, .int U4, .int U5, .long B2, .int G0, .ref (b 15), .ref (b 16), .ref (b 17), .ref (b 18), .ref (b 19), .ref (b 20), .ref (b 21), .ref (b 22), .ref (b 23)])), (b 1, .inl (cL, 120, .inr (.inl B3))), (b 2, .inl (cL, 8, .inr (.inl B4))), (b 3, .inl (cI, 40, .inl B5)), (b 4, .inl (cI, 3, .inl K0)), (b 5, .inl (cI, 72, .inl K1)), (b 6, .inl (cI, 72, .inl K2)), (b 7, .inl (cI, 72, .inl K3)), (b 8, .inl (cL, 72, .inr (.inl K4))), (b 9, .inl (cI, 72, .inl E0)), (b 10, .inl (cI, 80, .inl M1)), (b 11, .inl (cI, 80, .inl M2)), (b 12, .inl (cI, 80, .inl M3)), (b 13, .inl (cI, 80, .inl M4)), (b 14, .inl (cL, 80, .inr (.inl M5))), (b 15, .inl (cL, 40, .inr (.inl G1))), (b 16, .inl (cI, 40, .inl G2)), (b 17, .inl (cL, 40, .inr (.inl G3))), (b 18, .inl (cI, 40, .inl G4)), (b 19, .inl (cI, 40, .inl B6)), (b 20, .inl (cL, 40, .inr (.inl N0))), (b 21, .inl (cI, 40, .inl N1)), (b 22, .inl (cL, 40, .inr (.inl N2))), (b 23, .inl (cI, 40, .inl N3))]
end
section
def fX4_in (p1 : Int32) (p2 : Int32) (p3 : Int32) : Int32 := (if p1 < p2 then 0 else (if p3 < p1 then 0 else 1))
set_option maxHeartbeats 4000000 in
set_option maxRecDepth 100000 in
theorem kX4_in {l : Launch} {D : va_G} {cI cL : ClassId} {b : Nat → Nat} {B0 : Int32} {B1 : Int32} {B2 : Int64} {B3 : (Nat → Int64)} {B4 : (Nat → Int64)} {B5 : (Nat → Int32)} {B6 : (Nat → Int32)} {K0 : (Nat → Int32)} {K1 : (Nat → Int32)} {K2 : (Nat → Int32)} {K3 : (Nat → Int32)} {K4 : (Nat → Int64)} {E0 : (Nat → Int32)} {M0 : Int32} {M1 : (Nat → Int32)} {M2 : (Nat → Int32)} {M3 : (Nat → Int32)} {M4 : (Nat → Int32)} {M5 : (Nat → Int64)} {M6 : Int64} {M7 : Int32} {U0 : Int32} {U1 : Int32} {U2 : Int32} {U3 : Int32} {U4 : Int32} {U5 : Int32} {G0 : Int32} {G1 : (Nat → Int64)} {G2 : (Nat → Int32)} {G3 : (Nat → Int64)} {G4 : (Nat → Int32)} {N0 : (Nat → Int64)} {N1 : (Nat → Int32)} {N2 : (Nat → Int64)} {N3 : (Nat → Int32)} {p1 : Int32} {p2 : Int32} {p3 : Int32} {q : Int32} (hF : fX4_in p1 p2 p3 = q) : zw_Mi l yX4_in cX4_in 3 .boolean D (zw_tys cI cL) (zw_rm 0 0) [.int p1, .int p2, .int p3] (wM cI cL b B0 B1 B2 B3 B4 B5 B6 K0 K1 K2 K3 K4 E0 M0 M1 M2 M3 M4 M5 M6 M7 U0 U1 U2 U3 U4 U5 G0 G1 G2 G3 G4 N0 N1 N2 N3) (wM cI cL b B0 B1 B2 B3 B4 B5 B6 K0 K1 K2 K3 K4 E0 M0 M1 M2 M3 M4 M5 M6 M7 U0 U1 U2 U3 U4 U5 G0 G1 G2 G3 G4 N0 N1 N2 N3) q := by
  unfold fX4_in at hF
  refine zw_Mi_of (own := RX4) (by decide) rfl (Nat.le_of_ble_eq_true rfl) ?_
  intro p e s m args below meth c A C hr hlk
  refine zw_eq (lv2 := [(0, .int p1), (1, .int p2), (2, .int p3)]) rfl rfl rfl ?_
  refine zw_iload_n C dX4_in_0 0 rfl rfl ?_
  refine zw_iload_n C dX4_in_1 1 rfl rfl ?_
  refine zw_icmp_lt C 14 dX4_in_2 (by decide) (fun h1 => ?_) (fun h1 => ?_)
  · rw [if_pos h1] at hF
    refine zw_iconst C (v := 0) dX4_in_14 (by decide) ?_
    subst hF
    exact zw_zreturn C hr hlk rfl dX4_in_15 rfl rfl
  · rw [if_neg h1] at hF
    refine zw_iload_n C dX4_in_5 0 rfl rfl ?_
    refine zw_iload_n C dX4_in_6 2 rfl rfl ?_
    refine zw_icmp_gt C 14 dX4_in_7 (by decide) (fun h2 => ?_) (fun h2 => ?_)
    · rw [if_pos h2] at hF
      refine zw_iconst C (v := 0) dX4_in_14 (by decide) ?_
      subst hF
      exact zw_zreturn C hr hlk rfl dX4_in_15 rfl rfl
    · rw [if_neg h2] at hF
      refine zw_iconst C (v := 1) dX4_in_10 (by decide) ?_
      refine zw_goto C 15 dX4_in_11 (by decide) ?_
      subst hF
      exact zw_zreturn C hr hlk rfl dX4_in_15 rfl rfl
def fX4_answer (B2 : Int64) : Int64 := B2
set_option maxHeartbeats 4000000 in
set_option maxRecDepth 100000 in
theorem kX4_answer {l : Launch} {D : va_G} {cI cL : ClassId} {b : Nat → Nat} {B0 : Int32} {B1 : Int32} {B2 : Int64} {B3 : (Nat → Int64)} {B4 : (Nat → Int64)} {B5 : (Nat → Int32)} {B6 : (Nat → Int32)} {K0 : (Nat → Int32)} {K1 : (Nat → Int32)} {K2 : (Nat → Int32)} {K3 : (Nat → Int32)} {K4 : (Nat → Int64)} {E0 : (Nat → Int32)} {M0 : Int32} {M1 : (Nat → Int32)} {M2 : (Nat → Int32)} {M3 : (Nat → Int32)} {M4 : (Nat → Int32)} {M5 : (Nat → Int64)} {M6 : Int64} {M7 : Int32} {U0 : Int32} {U1 : Int32} {U2 : Int32} {U3 : Int32} {U4 : Int32} {U5 : Int32} {G0 : Int32} {G1 : (Nat → Int64)} {G2 : (Nat → Int32)} {G3 : (Nat → Int64)} {G4 : (Nat → Int32)} {N0 : (Nat → Int64)} {N1 : (Nat → Int32)} {N2 : (Nat → Int64)} {N3 : (Nat → Int32)} {q : Int64} (hF : fX4_answer B2 = q) : zw_Ml l yX4_answer cX4_answer 1 D (zw_tys cI cL) (zw_rm 0 0) [.ref (b 0)] (wM cI cL b B0 B1 B2 B3 B4 B5 B6 K0 K1 K2 K3 K4 E0 M0 M1 M2 M3 M4 M5 M6 M7 U0 U1 U2 U3 U4 U5 G0 G1 G2 G3 G4 N0 N1 N2 N3) (wM cI cL b B0 B1 B2 B3 B4 B5 B6 K0 K1 K2 K3 K4 E0 M0 M1 M2 M3 M4 M5 M6 M7 U0 U1 U2 U3 U4 U5 G0 G1 G2 G3 G4 N0 N1 N2 N3) q := by
  unfold fX4_answer at hF
  refine zw_Ml_of (own := RX4) (by decide) rfl (Nat.le_of_ble_eq_true rfl) ?_
  intro p e s m args below meth c A C hr hlk
  refine zw_eq (lv2 := [(0, .ref (b 0))]) rfl rfl rfl ?_
  refine zw_aload_n C dX4_answer_0 0 rfl rfl ?_
  refine zw_get C FX4 0 25 (v := .long B2) rfl (by decide) lkX4_172 rfl dX4_answer_1 ?_
  subst hF
  exact zw_lreturn C hr hlk dX4_answer_4 rfl rfl
theorem bb_fX4_in {x y z : Int32} : fX4_in x y z = 0 ∨ fX4_in x y z = 1 := by unfold fX4_in; (repeat' split) <;> first | exact Or.inl rfl | exact Or.inr rfl
theorem dm_in {x y z : Int32} (h : ¬ fX4_in x y z = 0) : ¬ x < y ∧ ¬ z < x := by
  unfold fX4_in at h
  by_cases h1 : x < y
  · rw [if_pos h1] at h; exact absurd rfl h
  · rw [if_neg h1] at h
    by_cases h2 : z < x
    · rw [if_pos h2] at h; exact absurd rfl h
    · exact ⟨h1, h2⟩
theorem dm_in0 {x : Int32} {n : Nat} (hn : n < 2 ^ 31) (h : ¬ fX4_in x 0 (nI n - 1) = 0) : ∃ j : Nat, j < n ∧ x = nI j := by
  obtain ⟨h1, h2⟩ := dm_in h
  obtain ⟨j, hj, rfl⟩ := nI_of h1
  refine ⟨j, ?_, rfl⟩
  cases n with
  | zero =>
    refine absurd ?_ h2
    rw [show nI 0 - 1 = (-1 : Int32) from by decide]
    exact Int32.lt_iff_toInt_lt.mpr (by rw [nI_toInt hj]; show (-1 : Int) < (j : Int); omega)
  | succ m =>
    rw [nI_pred] at h2
    rcases Nat.lt_or_ge m j with h3 | h3
    · exact absurd (nI_lt h3 hj) h2
    · omega
theorem dm_inC {x y : Int32} {n : Nat} (hn : n < 2 ^ 31) (hy : y = nI n) (h : ¬ fX4_in x 0 y = 0) : ∃ j : Nat, j ≤ n ∧ x = nI j := by
  obtain ⟨h1, h2⟩ := dm_in h
  obtain ⟨j, hj, rfl⟩ := nI_of h1
  refine ⟨j, ?_, rfl⟩
  subst hy
  rcases Nat.lt_or_ge n j with h3 | h3
  · exact absurd (nI_lt h3 hj) h2
  · exact h3
theorem dm_cell {x y : Int32} {j c : Nat} (hj : j < 40) (hc : c < 3) (hx : x = nI j) (hy : y = nI c) : 3 * x + y = nI (j * 3 + c) ∧ vp_in (3 * x + y) 120 := by
  subst hx; subst hy
  have e : 3 * nI j + nI c = nI (j * 3 + c) := by rw [show (3 : Int32) = nI 3 from rfl, pk_mul, nI_add, Nat.mul_comm]
  exact ⟨e, by rw [e]; exact vp_in_nI (by omega) (by decide)⟩
theorem dm_cell0 {x : Int32} {j : Nat} (hj : j < 40) (hx : x = nI j) : vp_in (3 * x) 120 := by
  subst hx
  rw [show (3 : Int32) = nI 3 from rfl, pk_mul]; exact vp_in_nI (by omega) (by decide)
/-- the reference's counts and list in their bounds -/
def dm_B (x y : Int32) (f : Nat → Int32) (n k : Nat) : Prop := n ≤ 40 ∧ k ≤ n ∧ x = nI n ∧ y = nI k ∧ ∀ j : Nat, j < k → ∃ t : Nat, t < n ∧ f j = nI t
theorem dm_full {x y : Int32} {f : Nat → Int32} {n k : Nat} (hB : dm_B x y f n k) (h : ¬ x = 40) : n < 40 := by
  rcases Nat.lt_or_ge n 40 with h1 | h1
  · exact h1
  · exact absurd (by rw [hB.2.2.1, show n = 40 from by have := hB.1; omega]; rfl) h
end
section
def fX4_isThing (B0 : Int32) (p1 : Int32) : Int32 := fX4_in p1 0 (B0 - 1)
set_option maxHeartbeats 4000000 in
set_option maxRecDepth 100000 in
theorem kX4_isThing {l : Launch} {D : va_G} {cI cL : ClassId} {b : Nat → Nat} {B0 : Int32} {B1 : Int32} {B2 : Int64} {B3 : (Nat → Int64)} {B4 : (Nat → Int64)} {B5 : (Nat → Int32)} {B6 : (Nat → Int32)} {K0 : (Nat → Int32)} {K1 : (Nat → Int32)} {K2 : (Nat → Int32)} {K3 : (Nat → Int32)} {K4 : (Nat → Int64)} {E0 : (Nat → Int32)} {M0 : Int32} {M1 : (Nat → Int32)} {M2 : (Nat → Int32)} {M3 : (Nat → Int32)} {M4 : (Nat → Int32)} {M5 : (Nat → Int64)} {M6 : Int64} {M7 : Int32} {U0 : Int32} {U1 : Int32} {U2 : Int32} {U3 : Int32} {U4 : Int32} {U5 : Int32} {G0 : Int32} {G1 : (Nat → Int64)} {G2 : (Nat → Int32)} {G3 : (Nat → Int64)} {G4 : (Nat → Int32)} {N0 : (Nat → Int64)} {N1 : (Nat → Int32)} {N2 : (Nat → Int64)} {N3 : (Nat → Int32)} {p1 : Int32} {q : Int32} (hF : fX4_isThing B0 p1 = q) : zw_Mi l yX4_isThing cX4_isThing 2 .boolean D (zw_tys cI cL) (zw_rm 1 22) [.ref (b 0), .int p1] (wM cI cL b B0 B1 B2 B3 B4 B5 B6 K0 K1 K2 K3 K4 E0 M0 M1 M2 M3 M4 M5 M6 M7 U0 U1 U2 U3 U4 U5 G0 G1 G2 G3 G4 N0 N1 N2 N3) (wM cI cL b B0 B1 B2 B3 B4 B5 B6 K0 K1 K2 K3 K4 E0 M0 M1 M2 M3 M4 M5 M6 M7 U0 U1 U2 U3 U4 U5 G0 G1 G2 G3 G4 N0 N1 N2 N3) q := by
  unfold fX4_isThing at hF
  refine zw_Mi_of (own := RX4) (by decide) rfl (Nat.le_of_ble_eq_true rfl) ?_
  intro p e s m args below meth c A C hr hlk
  refine zw_eq (lv2 := [(0, .ref (b 0)), (1, .int p1)]) rfl rfl rfl ?_
  refine zw_iload_n C dX4_isThing_0 1 rfl rfl ?_
  refine zw_iconst C (v := 0) dX4_isThing_1 (by decide) ?_
  refine zw_aload_n C dX4_isThing_2 0 rfl rfl ?_
  refine zw_get C FX4 0 0 (v := .int B0) rfl (by decide) lkX4_80 rfl dX4_isThing_3 ?_
  refine zw_iconst C (v := 1) dX4_isThing_6 (by decide) ?_
  refine zw_isub C dX4_isThing_7 ?_
  refine zw_scalli C kvX4_84 (kX4_in rfl) ⟨rfl, rfl, ⟨by decide, by decide⟩, by decide, by decide⟩ (As := [.int p1, .int 0, .int (B0 - 1)]) (rest := []) rfl rfl (Nat.le_of_ble_eq_true rfl) dX4_isThing_8 ?_
  subst hF
  exact zw_zreturn C hr hlk (zw_nb bb_fX4_in) dX4_isThing_11 rfl rfl
def fX4_is (K0 : (Nat → Int32)) (p1 : Int32) (p2 : Int32) : Int32 := fX4_in p2 0 ((K0 p1.toNatClampNeg) - 1)
set_option maxHeartbeats 4000000 in
set_option maxRecDepth 100000 in
theorem kX4_is {l : Launch} {D : va_G} {cI cL : ClassId} {b : Nat → Nat} {B0 : Int32} {B1 : Int32} {B2 : Int64} {B3 : (Nat → Int64)} {B4 : (Nat → Int64)} {B5 : (Nat → Int32)} {B6 : (Nat → Int32)} {K0 : (Nat → Int32)} {K1 : (Nat → Int32)} {K2 : (Nat → Int32)} {K3 : (Nat → Int32)} {K4 : (Nat → Int64)} {E0 : (Nat → Int32)} {M0 : Int32} {M1 : (Nat → Int32)} {M2 : (Nat → Int32)} {M3 : (Nat → Int32)} {M4 : (Nat → Int32)} {M5 : (Nat → Int64)} {M6 : Int64} {M7 : Int32} {U0 : Int32} {U1 : Int32} {U2 : Int32} {U3 : Int32} {U4 : Int32} {U5 : Int32} {G0 : Int32} {G1 : (Nat → Int64)} {G2 : (Nat → Int32)} {G3 : (Nat → Int64)} {G4 : (Nat → Int32)} {N0 : (Nat → Int64)} {N1 : (Nat → Int32)} {N2 : (Nat → Int64)} {N3 : (Nat → Int32)} {p1 : Int32} {p2 : Int32} {q : Int32} (hy1 : vp_in p1 3) (hF : fX4_is K0 p1 p2 = q) : zw_Mi l yX4_is cX4_is 3 .boolean D (zw_tys cI cL) (zw_rm 1 22) [.ref (b 0), .int p1, .int p2] (wM cI cL b B0 B1 B2 B3 B4 B5 B6 K0 K1 K2 K3 K4 E0 M0 M1 M2 M3 M4 M5 M6 M7 U0 U1 U2 U3 U4 U5 G0 G1 G2 G3 G4 N0 N1 N2 N3) (wM cI cL b B0 B1 B2 B3 B4 B5 B6 K0 K1 K2 K3 K4 E0 M0 M1 M2 M3 M4 M5 M6 M7 U0 U1 U2 U3 U4 U5 G0 G1 G2 G3 G4 N0 N1 N2 N3) q := by
  unfold fX4_is at hF
  refine zw_Mi_of (own := RX4) (by decide) rfl (Nat.le_of_ble_eq_true rfl) ?_
  intro p e s m args below meth c A C hr hlk
  refine zw_eq (lv2 := [(0, .ref (b 0)), (1, .int p1), (2, .int p2)]) rfl rfl rfl ?_
  refine zw_iload_n C dX4_is_0 2 rfl rfl ?_
  refine zw_iconst C (v := 0) dX4_is_1 (by decide) ?_
  refine zw_aload_n C dX4_is_2 0 rfl rfl ?_
  refine zw_get C FX4 0 5 (v := .ref (b 4)) rfl (by decide) lkX4_20 rfl dX4_is_3 ?_
  refine zw_iload_n C dX4_is_6 1 rfl rfl ?_
  refine zw_iald C 4 0 (f := K0) (i := p1) rfl rfl hy1 dX4_is_7 ?_
  refine zw_iconst C (v := 1) dX4_is_8 (by decide) ?_
  refine zw_isub C dX4_is_9 ?_
  refine zw_scalli C kvX4_84 (kX4_in rfl) ⟨rfl, rfl, ⟨by decide, by decide⟩, by decide, by decide⟩ (As := [.int p2, .int 0, .int ((K0 p1.toNatClampNeg) - 1)]) (rest := []) rfl rfl (Nat.le_of_ble_eq_true rfl) dX4_is_10 ?_
  subst hF
  exact zw_zreturn C hr hlk (zw_nb bb_fX4_in) dX4_is_13 rfl rfl
theorem dm_isThing {y : Int32} {x : Int32} {n : Nat} (h : ¬ fX4_isThing y x = 0) (hs : y = nI n) (hn : n ≤ 40) : ∃ j : Nat, j < n ∧ x = nI j := by
  unfold fX4_isThing at h
  rw [hs] at h
  exact dm_in0 (by omega) h
def fX4_thing (B0 : Int32) (B1 : Int32) (B3 : (Nat → Int64)) (B5 : (Nat → Int32)) (p1 : Int64) (p2 : Int64) (p3 : Int64) : Int32 × Int32 × Int32 × (Nat → Int64) × (Nat → Int32) := (if B0 = 40 then ((-2), B0, B1, B3, B5) else ((B0 + 1) - 1, B0 + 1, B1 + 1, (vp_updL (vp_updL (vp_updL B3 (3 * B0).toNatClampNeg p1) ((3 * B0) + 1).toNatClampNeg p2) ((3 * B0) + 2).toNatClampNeg p3), (upd B5 B1.toNatClampNeg B0)))
set_option maxHeartbeats 4000000 in
set_option maxRecDepth 100000 in
theorem kX4_thing {l : Launch} {D : va_G} {cI cL : ClassId} {b : Nat → Nat} {B0 : Int32} {B1 : Int32} {B2 : Int64} {B3 : (Nat → Int64)} {B4 : (Nat → Int64)} {B5 : (Nat → Int32)} {B6 : (Nat → Int32)} {K0 : (Nat → Int32)} {K1 : (Nat → Int32)} {K2 : (Nat → Int32)} {K3 : (Nat → Int32)} {K4 : (Nat → Int64)} {E0 : (Nat → Int32)} {M0 : Int32} {M1 : (Nat → Int32)} {M2 : (Nat → Int32)} {M3 : (Nat → Int32)} {M4 : (Nat → Int32)} {M5 : (Nat → Int64)} {M6 : Int64} {M7 : Int32} {U0 : Int32} {U1 : Int32} {U2 : Int32} {U3 : Int32} {U4 : Int32} {U5 : Int32} {G0 : Int32} {G1 : (Nat → Int64)} {G2 : (Nat → Int32)} {G3 : (Nat → Int64)} {G4 : (Nat → Int32)} {N0 : (Nat → Int64)} {N1 : (Nat → Int32)} {N2 : (Nat → Int64)} {N3 : (Nat → Int32)} {p1 : Int64} {p2 : Int64} {p3 : Int64} {q : Int32 × Int32 × Int32 × (Nat → Int64) × (Nat → Int32)} {n k : Nat} (hy1 : dm_B B0 B1 B5 n k) (hF : fX4_thing B0 B1 B3 B5 p1 p2 p3 = q) : zw_Mi l yX4_thing cX4_thing 7 .int D (zw_tys cI cL) (zw_rm 0 0) [.ref (b 0), .long p1, .long p2, .long p3] (wM cI cL b B0 B1 B2 B3 B4 B5 B6 K0 K1 K2 K3 K4 E0 M0 M1 M2 M3 M4 M5 M6 M7 U0 U1 U2 U3 U4 U5 G0 G1 G2 G3 G4 N0 N1 N2 N3) (wM cI cL b q.2.1 q.2.2.1 B2 q.2.2.2.1 B4 q.2.2.2.2 B6 K0 K1 K2 K3 K4 E0 M0 M1 M2 M3 M4 M5 M6 M7 U0 U1 U2 U3 U4 U5 G0 G1 G2 G3 G4 N0 N1 N2 N3) q.1 := by
  unfold fX4_thing at hF
  refine zw_Mi_of (own := RX4) (by decide) rfl (Nat.le_of_ble_eq_true rfl) ?_
  intro p e s m args below meth c A C hr hlk
  refine zw_eq (lv2 := [(0, .ref (b 0)), (1, .long p1), (3, .long p2), (5, .long p3)]) rfl rfl rfl ?_
  refine zw_aload_n C dX4_thing_0 0 rfl rfl ?_
  refine zw_get C FX4 0 0 (v := .int B0) rfl (by decide) lkX4_80 rfl dX4_thing_1 ?_
  refine zw_bipush C (v := 40) dX4_thing_4 (by decide) ?_
  refine zw_icmp_ne C 12 dX4_thing_6 (by decide) (fun h1 => ?_) (fun h1 => ?_)
  · rw [if_neg h1] at hF
    refine zw_aload_n C dX4_thing_12 0 rfl rfl ?_
    refine zw_get C FX4 0 1 (v := .ref (b 1)) rfl (by decide) lkX4_7 rfl dX4_thing_13 ?_
    refine zw_iconst C (v := 3) dX4_thing_16 (by decide) ?_
    refine zw_aload_n C dX4_thing_17 0 rfl rfl ?_
    refine zw_get C FX4 0 0 (v := .int B0) rfl (by decide) lkX4_80 rfl dX4_thing_18 ?_
    refine zw_imul C dX4_thing_21 ?_
    refine zw_lload_n C dX4_thing_22 1 rfl rfl ?_
    refine zw_last C 1 1 (f := B3) (i := (3 * B0)) (ws2 := (wM cI cL b B0 B1 B2 (vp_updL B3 (3 * B0).toNatClampNeg p1) B4 B5 B6 K0 K1 K2 K3 K4 E0 M0 M1 M2 M3 M4 M5 M6 M7 U0 U1 U2 U3 U4 U5 G0 G1 G2 G3 G4 N0 N1 N2 N3)) rfl rfl (dm_cell0 (dm_full hy1 (by assumption)) hy1.2.2.1) rfl dX4_thing_23 ?_
    refine zw_aload_n C dX4_thing_24 0 rfl rfl ?_
    refine zw_get C FX4 0 1 (v := .ref (b 1)) rfl (by decide) lkX4_7 rfl dX4_thing_25 ?_
    refine zw_iconst C (v := 3) dX4_thing_28 (by decide) ?_
    refine zw_aload_n C dX4_thing_29 0 rfl rfl ?_
    refine zw_get C FX4 0 0 (v := .int B0) rfl (by decide) lkX4_80 rfl dX4_thing_30 ?_
    refine zw_imul C dX4_thing_33 ?_
    refine zw_iconst C (v := 1) dX4_thing_34 (by decide) ?_
    refine zw_iadd C dX4_thing_35 ?_
    refine zw_lload_n C dX4_thing_36 2 rfl rfl ?_
    refine zw_last C 1 1 (f := (vp_updL B3 (3 * B0).toNatClampNeg p1)) (i := ((3 * B0) + 1)) (ws2 := (wM cI cL b B0 B1 B2 (vp_updL (vp_updL B3 (3 * B0).toNatClampNeg p1) ((3 * B0) + 1).toNatClampNeg p2) B4 B5 B6 K0 K1 K2 K3 K4 E0 M0 M1 M2 M3 M4 M5 M6 M7 U0 U1 U2 U3 U4 U5 G0 G1 G2 G3 G4 N0 N1 N2 N3)) rfl rfl (dm_cell (x := B0) (y := 1) (dm_full hy1 (by assumption)) (c := 1) (by decide) hy1.2.2.1 rfl).2 rfl dX4_thing_37 ?_
    refine zw_aload_n C dX4_thing_38 0 rfl rfl ?_
    refine zw_get C FX4 0 1 (v := .ref (b 1)) rfl (by decide) lkX4_7 rfl dX4_thing_39 ?_
    refine zw_iconst C (v := 3) dX4_thing_42 (by decide) ?_
    refine zw_aload_n C dX4_thing_43 0 rfl rfl ?_
    refine zw_get C FX4 0 0 (v := .int B0) rfl (by decide) lkX4_80 rfl dX4_thing_44 ?_
    refine zw_imul C dX4_thing_47 ?_
    refine zw_iconst C (v := 2) dX4_thing_48 (by decide) ?_
    refine zw_iadd C dX4_thing_49 ?_
    refine zw_lload C dX4_thing_50 3 rfl ?_
    refine zw_last C 1 1 (f := (vp_updL (vp_updL B3 (3 * B0).toNatClampNeg p1) ((3 * B0) + 1).toNatClampNeg p2)) (i := ((3 * B0) + 2)) (ws2 := (wM cI cL b B0 B1 B2 (vp_updL (vp_updL (vp_updL B3 (3 * B0).toNatClampNeg p1) ((3 * B0) + 1).toNatClampNeg p2) ((3 * B0) + 2).toNatClampNeg p3) B4 B5 B6 K0 K1 K2 K3 K4 E0 M0 M1 M2 M3 M4 M5 M6 M7 U0 U1 U2 U3 U4 U5 G0 G1 G2 G3 G4 N0 N1 N2 N3)) rfl rfl (dm_cell (x := B0) (y := 2) (dm_full hy1 (by assumption)) (c := 2) (by decide) hy1.2.2.1 rfl).2 rfl dX4_thing_52 ?_
    refine zw_aload_n C dX4_thing_53 0 rfl rfl ?_
    refine zw_get C FX4 0 4 (v := .ref (b 3)) rfl (by decide) lkX4_16 rfl dX4_thing_54 ?_
    refine zw_aload_n C dX4_thing_57 0 rfl rfl ?_
    refine zw_get C FX4 0 3 (v := .int B1) rfl (by decide) lkX4_88 rfl dX4_thing_58 ?_
    refine zw_aload_n C dX4_thing_61 0 rfl rfl ?_
    refine zw_get C FX4 0 0 (v := .int B0) rfl (by decide) lkX4_80 rfl dX4_thing_62 ?_
    refine zw_iast C 3 0 (f := B5) (i := B1) (ws2 := (wM cI cL b B0 B1 B2 (vp_updL (vp_updL (vp_updL B3 (3 * B0).toNatClampNeg p1) ((3 * B0) + 1).toNatClampNeg p2) ((3 * B0) + 2).toNatClampNeg p3) B4 (upd B5 B1.toNatClampNeg B0) B6 K0 K1 K2 K3 K4 E0 M0 M1 M2 M3 M4 M5 M6 M7 U0 U1 U2 U3 U4 U5 G0 G1 G2 G3 G4 N0 N1 N2 N3)) rfl rfl (by rw [hy1.2.2.2.1]; exact vp_in_nI (by have := dm_full hy1 (by assumption); have := hy1.2.1; omega) (by decide)) rfl dX4_thing_65 ?_
    refine zw_aload_n C dX4_thing_66 0 rfl rfl ?_
    refine zw_dup C dX4_thing_67 rfl ?_
    refine zw_get C FX4 0 3 (v := .int B1) rfl (by decide) lkX4_88 rfl dX4_thing_68 ?_
    refine zw_iconst C (v := 1) dX4_thing_71 (by decide) ?_
    refine zw_iadd C dX4_thing_72 ?_
    refine zw_put C FX4 GX4 0 3 (v := .int (B1 + 1)) (ws2 := (wM cI cL b B0 (B1 + 1) B2 (vp_updL (vp_updL (vp_updL B3 (3 * B0).toNatClampNeg p1) ((3 * B0) + 1).toNatClampNeg p2) ((3 * B0) + 2).toNatClampNeg p3) B4 (upd B5 B1.toNatClampNeg B0) B6 K0 K1 K2 K3 K4 E0 M0 M1 M2 M3 M4 M5 M6 M7 U0 U1 U2 U3 U4 U5 G0 G1 G2 G3 G4 N0 N1 N2 N3)) rfl (by decide) lkX4_88 rfl rfl rfl (Nat.le_of_ble_eq_true rfl) rfl dX4_thing_73 ?_
    refine zw_aload_n C dX4_thing_76 0 rfl rfl ?_
    refine zw_dup C dX4_thing_77 rfl ?_
    refine zw_get C FX4 0 0 (v := .int B0) rfl (by decide) lkX4_80 rfl dX4_thing_78 ?_
    refine zw_iconst C (v := 1) dX4_thing_81 (by decide) ?_
    refine zw_iadd C dX4_thing_82 ?_
    refine zw_put C FX4 GX4 0 0 (v := .int (B0 + 1)) (ws2 := (wM cI cL b (B0 + 1) (B1 + 1) B2 (vp_updL (vp_updL (vp_updL B3 (3 * B0).toNatClampNeg p1) ((3 * B0) + 1).toNatClampNeg p2) ((3 * B0) + 2).toNatClampNeg p3) B4 (upd B5 B1.toNatClampNeg B0) B6 K0 K1 K2 K3 K4 E0 M0 M1 M2 M3 M4 M5 M6 M7 U0 U1 U2 U3 U4 U5 G0 G1 G2 G3 G4 N0 N1 N2 N3)) rfl (by decide) lkX4_80 rfl rfl rfl (Nat.le_of_ble_eq_true rfl) rfl dX4_thing_83 ?_
    refine zw_aload_n C dX4_thing_86 0 rfl rfl ?_
    refine zw_get C FX4 0 0 (v := .int (B0 + 1)) rfl (by decide) lkX4_80 rfl dX4_thing_87 ?_
    refine zw_iconst C (v := 1) dX4_thing_90 (by decide) ?_
    refine zw_isub C dX4_thing_91 ?_
    subst hF; dsimp only
    exact zw_ireturn C hr hlk dX4_thing_92 rfl rfl
  · rw [if_pos h1] at hF
    refine zw_bipush C (v := (-2)) dX4_thing_9 (by decide) ?_
    subst hF; dsimp only
    exact zw_ireturn C hr hlk dX4_thing_11 rfl rfl
def fX4_change (B0 : Int32) (B3 : (Nat → Int64)) (p1 : Int32) (p2 : Int32) (p3 : Int64) : Int32 × (Nat → Int64) := (if (fX4_isThing B0 p1) = 0 then ((-1), B3) else (if (fX4_in p2 0 2) = 0 then ((-1), B3) else (1, (vp_updL B3 ((3 * p1) + p2).toNatClampNeg p3))))
set_option maxHeartbeats 4000000 in
set_option maxRecDepth 100000 in
theorem kX4_change {l : Launch} {D : va_G} {cI cL : ClassId} {b : Nat → Nat} {B0 : Int32} {B1 : Int32} {B2 : Int64} {B3 : (Nat → Int64)} {B4 : (Nat → Int64)} {B5 : (Nat → Int32)} {B6 : (Nat → Int32)} {K0 : (Nat → Int32)} {K1 : (Nat → Int32)} {K2 : (Nat → Int32)} {K3 : (Nat → Int32)} {K4 : (Nat → Int64)} {E0 : (Nat → Int32)} {M0 : Int32} {M1 : (Nat → Int32)} {M2 : (Nat → Int32)} {M3 : (Nat → Int32)} {M4 : (Nat → Int32)} {M5 : (Nat → Int64)} {M6 : Int64} {M7 : Int32} {U0 : Int32} {U1 : Int32} {U2 : Int32} {U3 : Int32} {U4 : Int32} {U5 : Int32} {G0 : Int32} {G1 : (Nat → Int64)} {G2 : (Nat → Int32)} {G3 : (Nat → Int64)} {G4 : (Nat → Int32)} {N0 : (Nat → Int64)} {N1 : (Nat → Int32)} {N2 : (Nat → Int64)} {N3 : (Nat → Int32)} {p1 : Int32} {p2 : Int32} {p3 : Int64} {q : Int32 × (Nat → Int64)} {n k : Nat} (hy1 : dm_B B0 B1 B5 n k) (hF : fX4_change B0 B3 p1 p2 p3 = q) : zw_Mi l yX4_change cX4_change 5 .int D (zw_tys cI cL) (zw_rm 2 43) [.ref (b 0), .int p1, .int p2, .long p3] (wM cI cL b B0 B1 B2 B3 B4 B5 B6 K0 K1 K2 K3 K4 E0 M0 M1 M2 M3 M4 M5 M6 M7 U0 U1 U2 U3 U4 U5 G0 G1 G2 G3 G4 N0 N1 N2 N3) (wM cI cL b B0 B1 B2 q.2 B4 B5 B6 K0 K1 K2 K3 K4 E0 M0 M1 M2 M3 M4 M5 M6 M7 U0 U1 U2 U3 U4 U5 G0 G1 G2 G3 G4 N0 N1 N2 N3) q.1 := by
  unfold fX4_change at hF
  refine zw_Mi_of (own := RX4) (by decide) rfl (Nat.le_of_ble_eq_true rfl) ?_
  intro p e s m args below meth c A C hr hlk
  refine zw_eq (lv2 := [(0, .ref (b 0)), (1, .int p1), (2, .int p2), (3, .long p3)]) rfl rfl rfl ?_
  refine zw_aload_n C dX4_change_0 0 rfl rfl ?_
  refine zw_iload_n C dX4_change_1 1 rfl rfl ?_
  refine zw_calli C kvX4_91 (kX4_isThing rfl) ⟨rfl, rfl, ⟨by decide, by decide⟩, by decide, by decide⟩ FX4 0 (As := [.int p1]) (rest := []) rfl rfl rfl (Nat.le_of_ble_eq_true rfl) dX4_change_2 ?_
  refine zw_if_eq C 17 dX4_change_5 (by decide) (fun h1 => ?_) (fun h1 => ?_)
  · rw [if_pos h1] at hF
    refine zw_iconst C (v := (-1)) dX4_change_17 (by decide) ?_
    subst hF; dsimp only
    exact zw_ireturn C hr hlk dX4_change_18 rfl rfl
  · rw [if_neg h1] at hF
    refine zw_iload_n C dX4_change_8 2 rfl rfl ?_
    refine zw_iconst C (v := 0) dX4_change_9 (by decide) ?_
    refine zw_iconst C (v := 2) dX4_change_10 (by decide) ?_
    refine zw_scalli C kvX4_84 (kX4_in rfl) ⟨rfl, rfl, ⟨by decide, by decide⟩, by decide, by decide⟩ (As := [.int p2, .int 0, .int 2]) (rest := []) rfl rfl (Nat.le_of_ble_eq_true rfl) dX4_change_11 ?_
    refine zw_if_ne C 19 dX4_change_14 (by decide) (fun h2 => ?_) (fun h2 => ?_)
    · rw [if_neg h2] at hF
      refine zw_aload_n C dX4_change_19 0 rfl rfl ?_
      refine zw_get C FX4 0 1 (v := .ref (b 1)) rfl (by decide) lkX4_7 rfl dX4_change_20 ?_
      refine zw_iconst C (v := 3) dX4_change_23 (by decide) ?_
      refine zw_iload_n C dX4_change_24 1 rfl rfl ?_
      refine zw_imul C dX4_change_25 ?_
      refine zw_iload_n C dX4_change_26 2 rfl rfl ?_
      refine zw_iadd C dX4_change_27 ?_
      refine zw_lload_n C dX4_change_28 3 rfl rfl ?_
      refine zw_last C 1 1 (f := B3) (i := ((3 * p1) + p2)) (ws2 := (wM cI cL b B0 B1 B2 (vp_updL B3 ((3 * p1) + p2).toNatClampNeg p3) B4 B5 B6 K0 K1 K2 K3 K4 E0 M0 M1 M2 M3 M4 M5 M6 M7 U0 U1 U2 U3 U4 U5 G0 G1 G2 G3 G4 N0 N1 N2 N3)) rfl rfl (by obtain ⟨j, hj, ej⟩ := dm_isThing (n := n) (by assumption) hy1.2.2.1 hy1.1; obtain ⟨i, hi, ei⟩ := dm_inC (n := 2) (by decide) rfl (by assumption); exact (dm_cell (by have := hy1.1; omega) (by omega) ej ei).2) rfl dX4_change_29 ?_
      refine zw_iconst C (v := 1) dX4_change_30 (by decide) ?_
      subst hF; dsimp only
      exact zw_ireturn C hr hlk dX4_change_31 rfl rfl
    · rw [if_pos h2] at hF
      refine zw_iconst C (v := (-1)) dX4_change_17 (by decide) ?_
      subst hF; dsimp only
      exact zw_ireturn C hr hlk dX4_change_18 rfl rfl
def fX4_get (B0 : Int32) (B3 : (Nat → Int64)) (p1 : Int32) (p2 : Int32) : Int64 := (if (fX4_isThing B0 p1) = 0 then 0 else (if (fX4_in p2 0 2) = 0 then 0 else B3 ((3 * p1) + p2).toNatClampNeg))
set_option maxHeartbeats 4000000 in
set_option maxRecDepth 100000 in
theorem kX4_get {l : Launch} {D : va_G} {cI cL : ClassId} {b : Nat → Nat} {B0 : Int32} {B1 : Int32} {B2 : Int64} {B3 : (Nat → Int64)} {B4 : (Nat → Int64)} {B5 : (Nat → Int32)} {B6 : (Nat → Int32)} {K0 : (Nat → Int32)} {K1 : (Nat → Int32)} {K2 : (Nat → Int32)} {K3 : (Nat → Int32)} {K4 : (Nat → Int64)} {E0 : (Nat → Int32)} {M0 : Int32} {M1 : (Nat → Int32)} {M2 : (Nat → Int32)} {M3 : (Nat → Int32)} {M4 : (Nat → Int32)} {M5 : (Nat → Int64)} {M6 : Int64} {M7 : Int32} {U0 : Int32} {U1 : Int32} {U2 : Int32} {U3 : Int32} {U4 : Int32} {U5 : Int32} {G0 : Int32} {G1 : (Nat → Int64)} {G2 : (Nat → Int32)} {G3 : (Nat → Int64)} {G4 : (Nat → Int32)} {N0 : (Nat → Int64)} {N1 : (Nat → Int32)} {N2 : (Nat → Int64)} {N3 : (Nat → Int32)} {p1 : Int32} {p2 : Int32} {q : Int64} {n k : Nat} (hy1 : dm_B B0 B1 B5 n k) (hF : fX4_get B0 B3 p1 p2 = q) : zw_Ml l yX4_get cX4_get 3 D (zw_tys cI cL) (zw_rm 2 43) [.ref (b 0), .int p1, .int p2] (wM cI cL b B0 B1 B2 B3 B4 B5 B6 K0 K1 K2 K3 K4 E0 M0 M1 M2 M3 M4 M5 M6 M7 U0 U1 U2 U3 U4 U5 G0 G1 G2 G3 G4 N0 N1 N2 N3) (wM cI cL b B0 B1 B2 B3 B4 B5 B6 K0 K1 K2 K3 K4 E0 M0 M1 M2 M3 M4 M5 M6 M7 U0 U1 U2 U3 U4 U5 G0 G1 G2 G3 G4 N0 N1 N2 N3) q := by
  unfold fX4_get at hF
  refine zw_Ml_of (own := RX4) (by decide) rfl (Nat.le_of_ble_eq_true rfl) ?_
  intro p e s m args below meth c A C hr hlk
  refine zw_eq (lv2 := [(0, .ref (b 0)), (1, .int p1), (2, .int p2)]) rfl rfl rfl ?_
  refine zw_aload_n C dX4_get_0 0 rfl rfl ?_
  refine zw_iload_n C dX4_get_1 1 rfl rfl ?_
  refine zw_calli C kvX4_91 (kX4_isThing rfl) ⟨rfl, rfl, ⟨by decide, by decide⟩, by decide, by decide⟩ FX4 0 (As := [.int p1]) (rest := []) rfl rfl rfl (Nat.le_of_ble_eq_true rfl) dX4_get_2 ?_
  refine zw_if_eq C 30 dX4_get_5 (by decide) (fun h1 => ?_) (fun h1 => ?_)
  · rw [if_pos h1] at hF
    refine zw_lconst C (v := 0) dX4_get_30 (by decide) ?_
    subst hF
    exact zw_lreturn C hr hlk dX4_get_31 rfl rfl
  · rw [if_neg h1] at hF
    refine zw_iload_n C dX4_get_8 2 rfl rfl ?_
    refine zw_iconst C (v := 0) dX4_get_9 (by decide) ?_
    refine zw_iconst C (v := 2) dX4_get_10 (by decide) ?_
    refine zw_scalli C kvX4_84 (kX4_in rfl) ⟨rfl, rfl, ⟨by decide, by decide⟩, by decide, by decide⟩ (As := [.int p2, .int 0, .int 2]) (rest := []) rfl rfl (Nat.le_of_ble_eq_true rfl) dX4_get_11 ?_
    refine zw_if_eq C 30 dX4_get_14 (by decide) (fun h2 => ?_) (fun h2 => ?_)
    · rw [if_pos h2] at hF
      refine zw_lconst C (v := 0) dX4_get_30 (by decide) ?_
      subst hF
      exact zw_lreturn C hr hlk dX4_get_31 rfl rfl
    · rw [if_neg h2] at hF
      refine zw_aload_n C dX4_get_17 0 rfl rfl ?_
      refine zw_get C FX4 0 1 (v := .ref (b 1)) rfl (by decide) lkX4_7 rfl dX4_get_18 ?_
      refine zw_iconst C (v := 3) dX4_get_21 (by decide) ?_
      refine zw_iload_n C dX4_get_22 1 rfl rfl ?_
      refine zw_imul C dX4_get_23 ?_
      refine zw_iload_n C dX4_get_24 2 rfl rfl ?_
      refine zw_iadd C dX4_get_25 ?_
      refine zw_lald C 1 1 (f := B3) (i := ((3 * p1) + p2)) rfl rfl (by obtain ⟨j, hj, ej⟩ := dm_isThing (n := n) (by assumption) hy1.2.2.1 hy1.1; obtain ⟨i, hi, ei⟩ := dm_inC (n := 2) (by decide) rfl (by assumption); exact (dm_cell (by have := hy1.1; omega) (by omega) ej ei).2) dX4_get_26 ?_
      refine zw_goto C 31 dX4_get_27 (by decide) ?_
      subst hF
      exact zw_lreturn C hr hlk dX4_get_31 rfl rfl
def fX4_item (B4 : (Nat → Int64)) (p1 : Int32) (p2 : Int64) : Int32 × (Nat → Int64) := (if (fX4_in p1 0 7) = 0 then ((-1), B4) else (1, (vp_updL B4 p1.toNatClampNeg p2)))
set_option maxHeartbeats 4000000 in
set_option maxRecDepth 100000 in
theorem kX4_item {l : Launch} {D : va_G} {cI cL : ClassId} {b : Nat → Nat} {B0 : Int32} {B1 : Int32} {B2 : Int64} {B3 : (Nat → Int64)} {B4 : (Nat → Int64)} {B5 : (Nat → Int32)} {B6 : (Nat → Int32)} {K0 : (Nat → Int32)} {K1 : (Nat → Int32)} {K2 : (Nat → Int32)} {K3 : (Nat → Int32)} {K4 : (Nat → Int64)} {E0 : (Nat → Int32)} {M0 : Int32} {M1 : (Nat → Int32)} {M2 : (Nat → Int32)} {M3 : (Nat → Int32)} {M4 : (Nat → Int32)} {M5 : (Nat → Int64)} {M6 : Int64} {M7 : Int32} {U0 : Int32} {U1 : Int32} {U2 : Int32} {U3 : Int32} {U4 : Int32} {U5 : Int32} {G0 : Int32} {G1 : (Nat → Int64)} {G2 : (Nat → Int32)} {G3 : (Nat → Int64)} {G4 : (Nat → Int32)} {N0 : (Nat → Int64)} {N1 : (Nat → Int32)} {N2 : (Nat → Int64)} {N3 : (Nat → Int32)} {p1 : Int32} {p2 : Int64} {q : Int32 × (Nat → Int64)} (hF : fX4_item B4 p1 p2 = q) : zw_Mi l yX4_item cX4_item 4 .int D (zw_tys cI cL) (zw_rm 1 22) [.ref (b 0), .int p1, .long p2] (wM cI cL b B0 B1 B2 B3 B4 B5 B6 K0 K1 K2 K3 K4 E0 M0 M1 M2 M3 M4 M5 M6 M7 U0 U1 U2 U3 U4 U5 G0 G1 G2 G3 G4 N0 N1 N2 N3) (wM cI cL b B0 B1 B2 B3 q.2 B5 B6 K0 K1 K2 K3 K4 E0 M0 M1 M2 M3 M4 M5 M6 M7 U0 U1 U2 U3 U4 U5 G0 G1 G2 G3 G4 N0 N1 N2 N3) q.1 := by
  unfold fX4_item at hF
  refine zw_Mi_of (own := RX4) (by decide) rfl (Nat.le_of_ble_eq_true rfl) ?_
  intro p e s m args below meth c A C hr hlk
  refine zw_eq (lv2 := [(0, .ref (b 0)), (1, .int p1), (2, .long p2)]) rfl rfl rfl ?_
  refine zw_iload_n C dX4_item_0 1 rfl rfl ?_
  refine zw_iconst C (v := 0) dX4_item_1 (by decide) ?_
  refine zw_bipush C (v := 7) dX4_item_2 (by decide) ?_
  refine zw_scalli C kvX4_84 (kX4_in rfl) ⟨rfl, rfl, ⟨by decide, by decide⟩, by decide, by decide⟩ (As := [.int p1, .int 0, .int 7]) (rest := []) rfl rfl (Nat.le_of_ble_eq_true rfl) dX4_item_4 ?_
  refine zw_if_ne C 12 dX4_item_7 (by decide) (fun h1 => ?_) (fun h1 => ?_)
  · rw [if_neg h1] at hF
    refine zw_aload_n C dX4_item_12 0 rfl rfl ?_
    refine zw_get C FX4 0 2 (v := .ref (b 2)) rfl (by decide) lkX4_13 rfl dX4_item_13 ?_
    refine zw_iload_n C dX4_item_16 1 rfl rfl ?_
    refine zw_lload_n C dX4_item_17 2 rfl rfl ?_
    refine zw_last C 2 1 (f := B4) (i := p1) (ws2 := (wM cI cL b B0 B1 B2 B3 (vp_updL B4 p1.toNatClampNeg p2) B5 B6 K0 K1 K2 K3 K4 E0 M0 M1 M2 M3 M4 M5 M6 M7 U0 U1 U2 U3 U4 U5 G0 G1 G2 G3 G4 N0 N1 N2 N3)) rfl rfl (by obtain ⟨j, hj, ej⟩ := dm_inC (n := 7) (by decide) rfl (by assumption); rw [ej]; exact vp_in_nI (by omega) (by decide)) rfl dX4_item_18 ?_
    refine zw_iconst C (v := 1) dX4_item_19 (by decide) ?_
    subst hF; dsimp only
    exact zw_ireturn C hr hlk dX4_item_20 rfl rfl
  · rw [if_pos h1] at hF
    refine zw_iconst C (v := (-1)) dX4_item_10 (by decide) ?_
    subst hF; dsimp only
    exact zw_ireturn C hr hlk dX4_item_11 rfl rfl
def fX4_list (B1 : Int32) (B5 : (Nat → Int32)) (p1 : Int32) : Int32 := (if (fX4_in p1 0 (B1 - 1)) = 0 then (-1) else B5 p1.toNatClampNeg)
set_option maxHeartbeats 4000000 in
set_option maxRecDepth 100000 in
theorem kX4_list {l : Launch} {D : va_G} {cI cL : ClassId} {b : Nat → Nat} {B0 : Int32} {B1 : Int32} {B2 : Int64} {B3 : (Nat → Int64)} {B4 : (Nat → Int64)} {B5 : (Nat → Int32)} {B6 : (Nat → Int32)} {K0 : (Nat → Int32)} {K1 : (Nat → Int32)} {K2 : (Nat → Int32)} {K3 : (Nat → Int32)} {K4 : (Nat → Int64)} {E0 : (Nat → Int32)} {M0 : Int32} {M1 : (Nat → Int32)} {M2 : (Nat → Int32)} {M3 : (Nat → Int32)} {M4 : (Nat → Int32)} {M5 : (Nat → Int64)} {M6 : Int64} {M7 : Int32} {U0 : Int32} {U1 : Int32} {U2 : Int32} {U3 : Int32} {U4 : Int32} {U5 : Int32} {G0 : Int32} {G1 : (Nat → Int64)} {G2 : (Nat → Int32)} {G3 : (Nat → Int64)} {G4 : (Nat → Int32)} {N0 : (Nat → Int64)} {N1 : (Nat → Int32)} {N2 : (Nat → Int64)} {N3 : (Nat → Int32)} {p1 : Int32} {q : Int32} {n k : Nat} (hy1 : dm_B B0 B1 B5 n k) (hF : fX4_list B1 B5 p1 = q) : zw_Mi l yX4_list cX4_list 2 .int D (zw_tys cI cL) (zw_rm 1 22) [.ref (b 0), .int p1] (wM cI cL b B0 B1 B2 B3 B4 B5 B6 K0 K1 K2 K3 K4 E0 M0 M1 M2 M3 M4 M5 M6 M7 U0 U1 U2 U3 U4 U5 G0 G1 G2 G3 G4 N0 N1 N2 N3) (wM cI cL b B0 B1 B2 B3 B4 B5 B6 K0 K1 K2 K3 K4 E0 M0 M1 M2 M3 M4 M5 M6 M7 U0 U1 U2 U3 U4 U5 G0 G1 G2 G3 G4 N0 N1 N2 N3) q := by
  unfold fX4_list at hF
  refine zw_Mi_of (own := RX4) (by decide) rfl (Nat.le_of_ble_eq_true rfl) ?_
  intro p e s m args below meth c A C hr hlk
  refine zw_eq (lv2 := [(0, .ref (b 0)), (1, .int p1)]) rfl rfl rfl ?_
  refine zw_iload_n C dX4_list_0 1 rfl rfl ?_
  refine zw_iconst C (v := 0) dX4_list_1 (by decide) ?_
  refine zw_aload_n C dX4_list_2 0 rfl rfl ?_
  refine zw_get C FX4 0 3 (v := .int B1) rfl (by decide) lkX4_88 rfl dX4_list_3 ?_
  refine zw_iconst C (v := 1) dX4_list_6 (by decide) ?_
  refine zw_isub C dX4_list_7 ?_
  refine zw_scalli C kvX4_84 (kX4_in rfl) ⟨rfl, rfl, ⟨by decide, by decide⟩, by decide, by decide⟩ (As := [.int p1, .int 0, .int (B1 - 1)]) (rest := []) rfl rfl (Nat.le_of_ble_eq_true rfl) dX4_list_8 ?_
  refine zw_if_eq C 23 dX4_list_11 (by decide) (fun h1 => ?_) (fun h1 => ?_)
  · rw [if_pos h1] at hF
    refine zw_iconst C (v := (-1)) dX4_list_23 (by decide) ?_
    subst hF
    exact zw_ireturn C hr hlk dX4_list_24 rfl rfl
  · rw [if_neg h1] at hF
    refine zw_aload_n C dX4_list_14 0 rfl rfl ?_
    refine zw_get C FX4 0 4 (v := .ref (b 3)) rfl (by decide) lkX4_16 rfl dX4_list_15 ?_
    refine zw_iload_n C dX4_list_18 1 rfl rfl ?_
    refine zw_iald C 3 0 (f := B5) (i := p1) rfl rfl (by have h9 := (by assumption : ¬ fX4_in p1 0 (B1 - 1) = 0); rw [hy1.2.2.2.1] at h9; obtain ⟨j, hj, ej⟩ := dm_in0 (by have := hy1.1; have := hy1.2.1; omega) h9; rw [ej]; exact vp_in_nI (by have := hy1.1; have := hy1.2.1; omega) (by decide)) dX4_list_19 ?_
    refine zw_goto C 24 dX4_list_20 (by decide) ?_
    subst hF
    exact zw_ireturn C hr hlk dX4_list_24 rfl rfl
def fX4_groups (G0 : Int32) (G1 : (Nat → Int64)) (G2 : (Nat → Int32)) (G3 : (Nat → Int64)) (G4 : (Nat → Int32)) (p1 : Int32) (p2 : Int32) : Int64 := (if (fX4_in p1 0 (G0 - 1)) = 0 then 0 else (if p2 = 0 then G1 p1.toNatClampNeg else (if p2 = 1 then (G2 p1.toNatClampNeg).toInt64 else (if p2 = 2 then G3 p1.toNatClampNeg else (if p2 = 3 then (G4 p1.toNatClampNeg).toInt64 else 0)))))
set_option maxHeartbeats 4000000 in
set_option maxRecDepth 100000 in
theorem kX4_groups {l : Launch} {D : va_G} {cI cL : ClassId} {b : Nat → Nat} {B0 : Int32} {B1 : Int32} {B2 : Int64} {B3 : (Nat → Int64)} {B4 : (Nat → Int64)} {B5 : (Nat → Int32)} {B6 : (Nat → Int32)} {K0 : (Nat → Int32)} {K1 : (Nat → Int32)} {K2 : (Nat → Int32)} {K3 : (Nat → Int32)} {K4 : (Nat → Int64)} {E0 : (Nat → Int32)} {M0 : Int32} {M1 : (Nat → Int32)} {M2 : (Nat → Int32)} {M3 : (Nat → Int32)} {M4 : (Nat → Int32)} {M5 : (Nat → Int64)} {M6 : Int64} {M7 : Int32} {U0 : Int32} {U1 : Int32} {U2 : Int32} {U3 : Int32} {U4 : Int32} {U5 : Int32} {G0 : Int32} {G1 : (Nat → Int64)} {G2 : (Nat → Int32)} {G3 : (Nat → Int64)} {G4 : (Nat → Int32)} {N0 : (Nat → Int64)} {N1 : (Nat → Int32)} {N2 : (Nat → Int64)} {N3 : (Nat → Int32)} {p1 : Int32} {p2 : Int32} {q : Int64} {g : Nat} (hy1 : g ≤ 40) (hy2 : G0 = nI g) (hF : fX4_groups G0 G1 G2 G3 G4 p1 p2 = q) : zw_Ml l yX4_groups cX4_groups 3 D (zw_tys cI cL) (zw_rm 1 22) [.ref (b 0), .int p1, .int p2] (wM cI cL b B0 B1 B2 B3 B4 B5 B6 K0 K1 K2 K3 K4 E0 M0 M1 M2 M3 M4 M5 M6 M7 U0 U1 U2 U3 U4 U5 G0 G1 G2 G3 G4 N0 N1 N2 N3) (wM cI cL b B0 B1 B2 B3 B4 B5 B6 K0 K1 K2 K3 K4 E0 M0 M1 M2 M3 M4 M5 M6 M7 U0 U1 U2 U3 U4 U5 G0 G1 G2 G3 G4 N0 N1 N2 N3) q := by
  unfold fX4_groups at hF
  refine zw_Ml_of (own := RX4) (by decide) rfl (Nat.le_of_ble_eq_true rfl) ?_
  intro p e s m args below meth c A C hr hlk
  refine zw_eq (lv2 := [(0, .ref (b 0)), (1, .int p1), (2, .int p2)]) rfl rfl rfl ?_
  refine zw_iload_n C dX4_groups_0 1 rfl rfl ?_
  refine zw_iconst C (v := 0) dX4_groups_1 (by decide) ?_
  refine zw_aload_n C dX4_groups_2 0 rfl rfl ?_
  refine zw_get C FX4 0 26 (v := .int G0) rfl (by decide) lkX4_175 rfl dX4_groups_3 ?_
  refine zw_iconst C (v := 1) dX4_groups_6 (by decide) ?_
  refine zw_isub C dX4_groups_7 ?_
  refine zw_scalli C kvX4_84 (kX4_in rfl) ⟨rfl, rfl, ⟨by decide, by decide⟩, by decide, by decide⟩ (As := [.int p1, .int 0, .int (G0 - 1)]) (rest := []) rfl rfl (Nat.le_of_ble_eq_true rfl) dX4_groups_8 ?_
  refine zw_if_ne C 16 dX4_groups_11 (by decide) (fun h1 => ?_) (fun h1 => ?_)
  · rw [if_neg h1] at hF
    refine zw_iload_n C dX4_groups_16 2 rfl rfl ?_
    refine zw_if_ne C 29 dX4_groups_17 (by decide) (fun h2 => ?_) (fun h2 => ?_)
    · rw [if_neg h2] at hF
      refine zw_iload_n C dX4_groups_29 2 rfl rfl ?_
      refine zw_iconst C (v := 1) dX4_groups_30 (by decide) ?_
      refine zw_icmp_ne C 44 dX4_groups_31 (by decide) (fun h3 => ?_) (fun h3 => ?_)
      · rw [if_neg h3] at hF
        refine zw_iload_n C dX4_groups_44 2 rfl rfl ?_
        refine zw_iconst C (v := 2) dX4_groups_45 (by decide) ?_
        refine zw_icmp_ne C 58 dX4_groups_46 (by decide) (fun h4 => ?_) (fun h4 => ?_)
        · rw [if_neg h4] at hF
          refine zw_iload_n C dX4_groups_58 2 rfl rfl ?_
          refine zw_iconst C (v := 3) dX4_groups_59 (by decide) ?_
          refine zw_icmp_ne C 73 dX4_groups_60 (by decide) (fun h5 => ?_) (fun h5 => ?_)
          · rw [if_neg h5] at hF
            refine zw_lconst C (v := 0) dX4_groups_73 (by decide) ?_
            subst hF
            exact zw_lreturn C hr hlk dX4_groups_74 rfl rfl
          · rw [if_pos h5] at hF
            refine zw_aload_n C dX4_groups_63 0 rfl rfl ?_
            refine zw_get C FX4 0 30 (v := .ref (b 18)) rfl (by decide) lkX4_62 rfl dX4_groups_64 ?_
            refine zw_iload_n C dX4_groups_67 1 rfl rfl ?_
            refine zw_iald C 18 0 (f := G4) (i := p1) rfl rfl (by have h9 := (by assumption : ¬ fX4_in p1 0 (G0 - 1) = 0); rw [hy2] at h9; obtain ⟨j, hj, ej⟩ := dm_in0 (by omega) h9; rw [ej]; exact vp_in_nI (by omega) (by decide)) dX4_groups_68 ?_
            refine zw_i2l C dX4_groups_69 ?_
            refine zw_goto C 74 dX4_groups_70 (by decide) ?_
            subst hF
            exact zw_lreturn C hr hlk dX4_groups_74 rfl rfl
        · rw [if_pos h4] at hF
          refine zw_aload_n C dX4_groups_49 0 rfl rfl ?_
          refine zw_get C FX4 0 29 (v := .ref (b 17)) rfl (by decide) lkX4_59 rfl dX4_groups_50 ?_
          refine zw_iload_n C dX4_groups_53 1 rfl rfl ?_
          refine zw_lald C 17 1 (f := G3) (i := p1) rfl rfl (by have h9 := (by assumption : ¬ fX4_in p1 0 (G0 - 1) = 0); rw [hy2] at h9; obtain ⟨j, hj, ej⟩ := dm_in0 (by omega) h9; rw [ej]; exact vp_in_nI (by omega) (by decide)) dX4_groups_54 ?_
          refine zw_goto C 74 dX4_groups_55 (by decide) ?_
          subst hF
          exact zw_lreturn C hr hlk dX4_groups_74 rfl rfl
      · rw [if_pos h3] at hF
        refine zw_aload_n C dX4_groups_34 0 rfl rfl ?_
        refine zw_get C FX4 0 28 (v := .ref (b 16)) rfl (by decide) lkX4_56 rfl dX4_groups_35 ?_
        refine zw_iload_n C dX4_groups_38 1 rfl rfl ?_
        refine zw_iald C 16 0 (f := G2) (i := p1) rfl rfl (by have h9 := (by assumption : ¬ fX4_in p1 0 (G0 - 1) = 0); rw [hy2] at h9; obtain ⟨j, hj, ej⟩ := dm_in0 (by omega) h9; rw [ej]; exact vp_in_nI (by omega) (by decide)) dX4_groups_39 ?_
        refine zw_i2l C dX4_groups_40 ?_
        refine zw_goto C 74 dX4_groups_41 (by decide) ?_
        subst hF
        exact zw_lreturn C hr hlk dX4_groups_74 rfl rfl
    · rw [if_pos h2] at hF
      refine zw_aload_n C dX4_groups_20 0 rfl rfl ?_
      refine zw_get C FX4 0 27 (v := .ref (b 15)) rfl (by decide) lkX4_53 rfl dX4_groups_21 ?_
      refine zw_iload_n C dX4_groups_24 1 rfl rfl ?_
      refine zw_lald C 15 1 (f := G1) (i := p1) rfl rfl (by have h9 := (by assumption : ¬ fX4_in p1 0 (G0 - 1) = 0); rw [hy2] at h9; obtain ⟨j, hj, ej⟩ := dm_in0 (by omega) h9; rw [ej]; exact vp_in_nI (by omega) (by decide)) dX4_groups_25 ?_
      refine zw_goto C 74 dX4_groups_26 (by decide) ?_
      subst hF
      exact zw_lreturn C hr hlk dX4_groups_74 rfl rfl
  · rw [if_pos h1] at hF
    refine zw_lconst C (v := 0) dX4_groups_14 (by decide) ?_
    subst hF
    exact zw_lreturn C hr hlk dX4_groups_15 rfl rfl
def fX4_startsCall  : Int32 × Int32 := (0, 0)
set_option maxHeartbeats 4000000 in
set_option maxRecDepth 100000 in
theorem kX4_startsCall {l : Launch} {D : va_G} {cI cL : ClassId} {b : Nat → Nat} {B0 : Int32} {B1 : Int32} {B2 : Int64} {B3 : (Nat → Int64)} {B4 : (Nat → Int64)} {B5 : (Nat → Int32)} {B6 : (Nat → Int32)} {K0 : (Nat → Int32)} {K1 : (Nat → Int32)} {K2 : (Nat → Int32)} {K3 : (Nat → Int32)} {K4 : (Nat → Int64)} {E0 : (Nat → Int32)} {M0 : Int32} {M1 : (Nat → Int32)} {M2 : (Nat → Int32)} {M3 : (Nat → Int32)} {M4 : (Nat → Int32)} {M5 : (Nat → Int64)} {M6 : Int64} {M7 : Int32} {U0 : Int32} {U1 : Int32} {U2 : Int32} {U3 : Int32} {U4 : Int32} {U5 : Int32} {G0 : Int32} {G1 : (Nat → Int64)} {G2 : (Nat → Int32)} {G3 : (Nat → Int64)} {G4 : (Nat → Int32)} {N0 : (Nat → Int64)} {N1 : (Nat → Int32)} {N2 : (Nat → Int64)} {N3 : (Nat → Int32)} {q : Int32 × Int32} (hF : fX4_startsCall = q) : zw_Mv l yX4_startsCall cX4_startsCall 1 D (zw_tys cI cL) (zw_rm 0 0) [.ref (b 0)] (wM cI cL b B0 B1 B2 B3 B4 B5 B6 K0 K1 K2 K3 K4 E0 M0 M1 M2 M3 M4 M5 M6 M7 U0 U1 U2 U3 U4 U5 G0 G1 G2 G3 G4 N0 N1 N2 N3) (wM cI cL b B0 B1 B2 B3 B4 B5 B6 K0 K1 K2 K3 K4 E0 M0 M1 M2 M3 M4 M5 M6 q.1 q.2 U1 U2 U3 U4 U5 G0 G1 G2 G3 G4 N0 N1 N2 N3) := by
  unfold fX4_startsCall at hF
  refine zw_Mv_of (own := RX4) (by decide) rfl (Nat.le_of_ble_eq_true rfl) ?_
  intro p e s m args below meth c A C hr hlk
  refine zw_eq (lv2 := [(0, .ref (b 0))]) rfl rfl rfl ?_
  refine zw_aload_n C dX4_startsCall_0 0 rfl rfl ?_
  refine zw_iconst C (v := 0) dX4_startsCall_1 (by decide) ?_
  refine zw_put C FX4 GX4 0 19 (v := .int 0) (ws2 := (wM cI cL b B0 B1 B2 B3 B4 B5 B6 K0 K1 K2 K3 K4 E0 M0 M1 M2 M3 M4 M5 M6 M7 0 U1 U2 U3 U4 U5 G0 G1 G2 G3 G4 N0 N1 N2 N3)) rfl (by decide) lkX4_95 rfl rfl rfl (Nat.le_of_ble_eq_true rfl) rfl dX4_startsCall_2 ?_
  refine zw_aload_n C dX4_startsCall_5 0 rfl rfl ?_
  refine zw_iconst C (v := 0) dX4_startsCall_6 (by decide) ?_
  refine zw_put C FX4 GX4 0 18 (v := .int 0) (ws2 := (wM cI cL b B0 B1 B2 B3 B4 B5 B6 K0 K1 K2 K3 K4 E0 M0 M1 M2 M3 M4 M5 M6 0 0 U1 U2 U3 U4 U5 G0 G1 G2 G3 G4 N0 N1 N2 N3)) rfl (by decide) lkX4_98 rfl rfl rfl (Nat.le_of_ble_eq_true rfl) rfl dX4_startsCall_7 ?_
  subst hF; dsimp only
  exact zw_return C hr hlk dX4_startsCall_10 rfl
def fX4_ends (M7 : Int32) (U0 : Int32) (U1 : Int32) (U2 : Int32) (U3 : Int32) (U4 : Int32) (U5 : Int32) (p1 : Int32) : Int32 × Int32 × Int32 × Int32 × Int32 := (if M7 = 0 then (p1, U0, U3, U4, U5) else ((-10) - M7, U0, U3 + 1, U4 + 1, M7))
set_option maxHeartbeats 4000000 in
set_option maxRecDepth 100000 in
theorem kX4_ends {l : Launch} {D : va_G} {cI cL : ClassId} {b : Nat → Nat} {B0 : Int32} {B1 : Int32} {B2 : Int64} {B3 : (Nat → Int64)} {B4 : (Nat → Int64)} {B5 : (Nat → Int32)} {B6 : (Nat → Int32)} {K0 : (Nat → Int32)} {K1 : (Nat → Int32)} {K2 : (Nat → Int32)} {K3 : (Nat → Int32)} {K4 : (Nat → Int64)} {E0 : (Nat → Int32)} {M0 : Int32} {M1 : (Nat → Int32)} {M2 : (Nat → Int32)} {M3 : (Nat → Int32)} {M4 : (Nat → Int32)} {M5 : (Nat → Int64)} {M6 : Int64} {M7 : Int32} {U0 : Int32} {U1 : Int32} {U2 : Int32} {U3 : Int32} {U4 : Int32} {U5 : Int32} {G0 : Int32} {G1 : (Nat → Int64)} {G2 : (Nat → Int32)} {G3 : (Nat → Int64)} {G4 : (Nat → Int32)} {N0 : (Nat → Int64)} {N1 : (Nat → Int32)} {N2 : (Nat → Int64)} {N3 : (Nat → Int32)} {p1 : Int32} {q : Int32 × Int32 × Int32 × Int32 × Int32} (hF : fX4_ends M7 U0 U1 U2 U3 U4 U5 p1 = q) : zw_Mi l yX4_ends cX4_ends 2 .int D (zw_tys cI cL) (zw_rm 0 0) [.ref (b 0), .int p1] (wM cI cL b B0 B1 B2 B3 B4 B5 B6 K0 K1 K2 K3 K4 E0 M0 M1 M2 M3 M4 M5 M6 M7 U0 U1 U2 U3 U4 U5 G0 G1 G2 G3 G4 N0 N1 N2 N3) (wM cI cL b B0 B1 B2 B3 B4 B5 B6 K0 K1 K2 K3 K4 E0 M0 M1 M2 M3 M4 M5 M6 M7 U0 q.2.1 U2 q.2.2.1 q.2.2.2.1 q.2.2.2.2 G0 G1 G2 G3 G4 N0 N1 N2 N3) q.1 := by
  unfold fX4_ends at hF
  refine zw_Mi_of (own := RX4) (by decide) rfl (Nat.le_of_ble_eq_true rfl) ?_
  intro p e s m args below meth c A C hr hlk
  refine zw_eq (lv2 := [(0, .ref (b 0)), (1, .int p1)]) rfl rfl rfl ?_
  refine zw_aload_n C dX4_ends_0 0 rfl rfl ?_
  refine zw_aload_n C dX4_ends_1 0 rfl rfl ?_
  refine zw_get C FX4 0 19 (v := .int U0) rfl (by decide) lkX4_95 rfl dX4_ends_2 ?_
  refine zw_put C FX4 GX4 0 20 (v := .int U0) (ws2 := (wM cI cL b B0 B1 B2 B3 B4 B5 B6 K0 K1 K2 K3 K4 E0 M0 M1 M2 M3 M4 M5 M6 M7 U0 U0 U2 U3 U4 U5 G0 G1 G2 G3 G4 N0 N1 N2 N3)) rfl (by decide) lkX4_144 rfl rfl rfl (Nat.le_of_ble_eq_true rfl) rfl dX4_ends_5 ?_
  refine zw_aload_n C dX4_ends_8 0 rfl rfl ?_
  refine zw_get C FX4 0 18 (v := .int M7) rfl (by decide) lkX4_98 rfl dX4_ends_9 ?_
  refine zw_if_ne C 17 dX4_ends_12 (by decide) (fun h1 => ?_) (fun h1 => ?_)
  · rw [if_neg h1] at hF
    refine zw_aload_n C dX4_ends_17 0 rfl rfl ?_
    refine zw_dup C dX4_ends_18 rfl ?_
    refine zw_get C FX4 0 22 (v := .int U3) rfl (by decide) lkX4_127 rfl dX4_ends_19 ?_
    refine zw_iconst C (v := 1) dX4_ends_22 (by decide) ?_
    refine zw_iadd C dX4_ends_23 ?_
    refine zw_put C FX4 GX4 0 22 (v := .int (U3 + 1)) (ws2 := (wM cI cL b B0 B1 B2 B3 B4 B5 B6 K0 K1 K2 K3 K4 E0 M0 M1 M2 M3 M4 M5 M6 M7 U0 U0 U2 (U3 + 1) U4 U5 G0 G1 G2 G3 G4 N0 N1 N2 N3)) rfl (by decide) lkX4_127 rfl rfl rfl (Nat.le_of_ble_eq_true rfl) rfl dX4_ends_24 ?_
    refine zw_aload_n C dX4_ends_27 0 rfl rfl ?_
    refine zw_dup C dX4_ends_28 rfl ?_
    refine zw_get C FX4 0 23 (v := .int U4) rfl (by decide) lkX4_147 rfl dX4_ends_29 ?_
    refine zw_iconst C (v := 1) dX4_ends_32 (by decide) ?_
    refine zw_iadd C dX4_ends_33 ?_
    refine zw_put C FX4 GX4 0 23 (v := .int (U4 + 1)) (ws2 := (wM cI cL b B0 B1 B2 B3 B4 B5 B6 K0 K1 K2 K3 K4 E0 M0 M1 M2 M3 M4 M5 M6 M7 U0 U0 U2 (U3 + 1) (U4 + 1) U5 G0 G1 G2 G3 G4 N0 N1 N2 N3)) rfl (by decide) lkX4_147 rfl rfl rfl (Nat.le_of_ble_eq_true rfl) rfl dX4_ends_34 ?_
    refine zw_aload_n C dX4_ends_37 0 rfl rfl ?_
    refine zw_aload_n C dX4_ends_38 0 rfl rfl ?_
    refine zw_get C FX4 0 18 (v := .int M7) rfl (by decide) lkX4_98 rfl dX4_ends_39 ?_
    refine zw_put C FX4 GX4 0 24 (v := .int M7) (ws2 := (wM cI cL b B0 B1 B2 B3 B4 B5 B6 K0 K1 K2 K3 K4 E0 M0 M1 M2 M3 M4 M5 M6 M7 U0 U0 U2 (U3 + 1) (U4 + 1) M7 G0 G1 G2 G3 G4 N0 N1 N2 N3)) rfl (by decide) lkX4_150 rfl rfl rfl (Nat.le_of_ble_eq_true rfl) rfl dX4_ends_42 ?_
    refine zw_bipush C (v := (-10)) dX4_ends_45 (by decide) ?_
    refine zw_aload_n C dX4_ends_47 0 rfl rfl ?_
    refine zw_get C FX4 0 18 (v := .int M7) rfl (by decide) lkX4_98 rfl dX4_ends_48 ?_
    refine zw_isub C dX4_ends_51 ?_
    subst hF; dsimp only
    exact zw_ireturn C hr hlk dX4_ends_52 rfl rfl
  · rw [if_pos h1] at hF
    refine zw_iload_n C dX4_ends_15 1 rfl rfl ?_
    subst hF; dsimp only
    exact zw_ireturn C hr hlk dX4_ends_16 rfl rfl
def fX4_tells (M0 : Int32) (p1 : Int64) : Int32 × Int64 := (M0 - 1, p1)
set_option maxHeartbeats 4000000 in
set_option maxRecDepth 100000 in
theorem kX4_tells {l : Launch} {D : va_G} {cI cL : ClassId} {b : Nat → Nat} {B0 : Int32} {B1 : Int32} {B2 : Int64} {B3 : (Nat → Int64)} {B4 : (Nat → Int64)} {B5 : (Nat → Int32)} {B6 : (Nat → Int32)} {K0 : (Nat → Int32)} {K1 : (Nat → Int32)} {K2 : (Nat → Int32)} {K3 : (Nat → Int32)} {K4 : (Nat → Int64)} {E0 : (Nat → Int32)} {M0 : Int32} {M1 : (Nat → Int32)} {M2 : (Nat → Int32)} {M3 : (Nat → Int32)} {M4 : (Nat → Int32)} {M5 : (Nat → Int64)} {M6 : Int64} {M7 : Int32} {U0 : Int32} {U1 : Int32} {U2 : Int32} {U3 : Int32} {U4 : Int32} {U5 : Int32} {G0 : Int32} {G1 : (Nat → Int64)} {G2 : (Nat → Int32)} {G3 : (Nat → Int64)} {G4 : (Nat → Int32)} {N0 : (Nat → Int64)} {N1 : (Nat → Int32)} {N2 : (Nat → Int64)} {N3 : (Nat → Int32)} {p1 : Int64} {q : Int32 × Int64} (hF : fX4_tells M0 p1 = q) : zw_Mv l yX4_tells cX4_tells 3 D (zw_tys cI cL) (zw_rm 0 0) [.ref (b 0), .long p1] (wM cI cL b B0 B1 B2 B3 B4 B5 B6 K0 K1 K2 K3 K4 E0 M0 M1 M2 M3 M4 M5 M6 M7 U0 U1 U2 U3 U4 U5 G0 G1 G2 G3 G4 N0 N1 N2 N3) (wM cI cL b B0 B1 B2 B3 B4 B5 B6 K0 K1 K2 K3 K4 E0 q.1 M1 M2 M3 M4 M5 q.2 M7 U0 U1 U2 U3 U4 U5 G0 G1 G2 G3 G4 N0 N1 N2 N3) := by
  unfold fX4_tells at hF
  refine zw_Mv_of (own := RX4) (by decide) rfl (Nat.le_of_ble_eq_true rfl) ?_
  intro p e s m args below meth c A C hr hlk
  refine zw_eq (lv2 := [(0, .ref (b 0)), (1, .long p1)]) rfl rfl rfl ?_
  refine zw_aload_n C dX4_tells_0 0 rfl rfl ?_
  refine zw_lload_n C dX4_tells_1 1 rfl rfl ?_
  refine zw_put C FX4 GX4 0 17 (v := .long p1) (ws2 := (wM cI cL b B0 B1 B2 B3 B4 B5 B6 K0 K1 K2 K3 K4 E0 M0 M1 M2 M3 M4 M5 p1 M7 U0 U1 U2 U3 U4 U5 G0 G1 G2 G3 G4 N0 N1 N2 N3)) rfl (by decide) lkX4_107 rfl rfl rfl (Nat.le_of_ble_eq_true rfl) rfl dX4_tells_2 ?_
  refine zw_aload_n C dX4_tells_5 0 rfl rfl ?_
  refine zw_dup C dX4_tells_6 rfl ?_
  refine zw_get C FX4 0 11 (v := .int M0) rfl (by decide) lkX4_104 rfl dX4_tells_7 ?_
  refine zw_iconst C (v := 1) dX4_tells_10 (by decide) ?_
  refine zw_isub C dX4_tells_11 ?_
  refine zw_put C FX4 GX4 0 11 (v := .int (M0 - 1)) (ws2 := (wM cI cL b B0 B1 B2 B3 B4 B5 B6 K0 K1 K2 K3 K4 E0 (M0 - 1) M1 M2 M3 M4 M5 p1 M7 U0 U1 U2 U3 U4 U5 G0 G1 G2 G3 G4 N0 N1 N2 N3)) rfl (by decide) lkX4_104 rfl rfl rfl (Nat.le_of_ble_eq_true rfl) rfl dX4_tells_12 ?_
  subst hF; dsimp only
  exact zw_return C hr hlk dX4_tells_15 rfl
def fX4_begins (M0 : Int32) (M1 : (Nat → Int32)) (M2 : (Nat → Int32)) (M3 : (Nat → Int32)) (M4 : (Nat → Int32)) (M7 : Int32) (U0 : Int32) (U2 : Int32) (p1 : Int32) (p2 : Int32) (p3 : Int32) (p4 : Int32) : Int32 × (Nat → Int32) × (Nat → Int32) × (Nat → Int32) × (Nat → Int32) × Int32 × Int32 × Int32 := (if U0 = 2000 then (M0, M1, M2, M3, M4, 4, U0, U2) else (M0 + 1, (upd M1 M0.toNatClampNeg ((24 * p1) + p2)), (upd M2 M0.toNatClampNeg p3), (upd M3 M0.toNatClampNeg p4), (upd M4 M0.toNatClampNeg 0), M7, U0 + 1, U2 + 1))
set_option maxHeartbeats 4000000 in
set_option maxRecDepth 100000 in
theorem kX4_begins {l : Launch} {D : va_G} {cI cL : ClassId} {b : Nat → Nat} {B0 : Int32} {B1 : Int32} {B2 : Int64} {B3 : (Nat → Int64)} {B4 : (Nat → Int64)} {B5 : (Nat → Int32)} {B6 : (Nat → Int32)} {K0 : (Nat → Int32)} {K1 : (Nat → Int32)} {K2 : (Nat → Int32)} {K3 : (Nat → Int32)} {K4 : (Nat → Int64)} {E0 : (Nat → Int32)} {M0 : Int32} {M1 : (Nat → Int32)} {M2 : (Nat → Int32)} {M3 : (Nat → Int32)} {M4 : (Nat → Int32)} {M5 : (Nat → Int64)} {M6 : Int64} {M7 : Int32} {U0 : Int32} {U1 : Int32} {U2 : Int32} {U3 : Int32} {U4 : Int32} {U5 : Int32} {G0 : Int32} {G1 : (Nat → Int64)} {G2 : (Nat → Int32)} {G3 : (Nat → Int64)} {G4 : (Nat → Int32)} {N0 : (Nat → Int64)} {N1 : (Nat → Int32)} {N2 : (Nat → Int64)} {N3 : (Nat → Int32)} {p1 : Int32} {p2 : Int32} {p3 : Int32} {p4 : Int32} {q : Int32 × (Nat → Int32) × (Nat → Int32) × (Nat → Int32) × (Nat → Int32) × Int32 × Int32 × Int32} (hy1 : vp_in M0 80) (hF : fX4_begins M0 M1 M2 M3 M4 M7 U0 U2 p1 p2 p3 p4 = q) : zw_Mv l yX4_begins cX4_begins 5 D (zw_tys cI cL) (zw_rm 0 0) [.ref (b 0), .int p1, .int p2, .int p3, .int p4] (wM cI cL b B0 B1 B2 B3 B4 B5 B6 K0 K1 K2 K3 K4 E0 M0 M1 M2 M3 M4 M5 M6 M7 U0 U1 U2 U3 U4 U5 G0 G1 G2 G3 G4 N0 N1 N2 N3) (wM cI cL b B0 B1 B2 B3 B4 B5 B6 K0 K1 K2 K3 K4 E0 q.1 q.2.1 q.2.2.1 q.2.2.2.1 q.2.2.2.2.1 M5 M6 q.2.2.2.2.2.1 q.2.2.2.2.2.2.1 U1 q.2.2.2.2.2.2.2 U3 U4 U5 G0 G1 G2 G3 G4 N0 N1 N2 N3) := by
  unfold fX4_begins at hF
  refine zw_Mv_of (own := RX4) (by decide) rfl (Nat.le_of_ble_eq_true rfl) ?_
  intro p e s m args below meth c A C hr hlk
  refine zw_eq (lv2 := [(0, .ref (b 0)), (1, .int p1), (2, .int p2), (3, .int p3), (4, .int p4)]) rfl rfl rfl ?_
  refine zw_aload_n C dX4_begins_0 0 rfl rfl ?_
  refine zw_get C FX4 0 19 (v := .int U0) rfl (by decide) lkX4_95 rfl dX4_begins_1 ?_
  refine zw_sipush C (v := 2000) dX4_begins_4 (by decide) ?_
  refine zw_icmp_ne C 16 dX4_begins_7 (by decide) (fun h1 => ?_) (fun h1 => ?_)
  · rw [if_neg h1] at hF
    refine zw_aload_n C dX4_begins_16 0 rfl rfl ?_
    refine zw_dup C dX4_begins_17 rfl ?_
    refine zw_get C FX4 0 19 (v := .int U0) rfl (by decide) lkX4_95 rfl dX4_begins_18 ?_
    refine zw_iconst C (v := 1) dX4_begins_21 (by decide) ?_
    refine zw_iadd C dX4_begins_22 ?_
    refine zw_put C FX4 GX4 0 19 (v := .int (U0 + 1)) (ws2 := (wM cI cL b B0 B1 B2 B3 B4 B5 B6 K0 K1 K2 K3 K4 E0 M0 M1 M2 M3 M4 M5 M6 M7 (U0 + 1) U1 U2 U3 U4 U5 G0 G1 G2 G3 G4 N0 N1 N2 N3)) rfl (by decide) lkX4_95 rfl rfl rfl (Nat.le_of_ble_eq_true rfl) rfl dX4_begins_23 ?_
    refine zw_aload_n C dX4_begins_26 0 rfl rfl ?_
    refine zw_dup C dX4_begins_27 rfl ?_
    refine zw_get C FX4 0 21 (v := .int U2) rfl (by decide) lkX4_101 rfl dX4_begins_28 ?_
    refine zw_iconst C (v := 1) dX4_begins_31 (by decide) ?_
    refine zw_iadd C dX4_begins_32 ?_
    refine zw_put C FX4 GX4 0 21 (v := .int (U2 + 1)) (ws2 := (wM cI cL b B0 B1 B2 B3 B4 B5 B6 K0 K1 K2 K3 K4 E0 M0 M1 M2 M3 M4 M5 M6 M7 (U0 + 1) U1 (U2 + 1) U3 U4 U5 G0 G1 G2 G3 G4 N0 N1 N2 N3)) rfl (by decide) lkX4_101 rfl rfl rfl (Nat.le_of_ble_eq_true rfl) rfl dX4_begins_33 ?_
    refine zw_aload_n C dX4_begins_36 0 rfl rfl ?_
    refine zw_get C FX4 0 12 (v := .ref (b 10)) rfl (by decide) lkX4_38 rfl dX4_begins_37 ?_
    refine zw_aload_n C dX4_begins_40 0 rfl rfl ?_
    refine zw_get C FX4 0 11 (v := .int M0) rfl (by decide) lkX4_104 rfl dX4_begins_41 ?_
    refine zw_bipush C (v := 24) dX4_begins_44 (by decide) ?_
    refine zw_iload_n C dX4_begins_46 1 rfl rfl ?_
    refine zw_imul C dX4_begins_47 ?_
    refine zw_iload_n C dX4_begins_48 2 rfl rfl ?_
    refine zw_iadd C dX4_begins_49 ?_
    refine zw_iast C 10 0 (f := M1) (i := M0) (ws2 := (wM cI cL b B0 B1 B2 B3 B4 B5 B6 K0 K1 K2 K3 K4 E0 M0 (upd M1 M0.toNatClampNeg ((24 * p1) + p2)) M2 M3 M4 M5 M6 M7 (U0 + 1) U1 (U2 + 1) U3 U4 U5 G0 G1 G2 G3 G4 N0 N1 N2 N3)) rfl rfl hy1 rfl dX4_begins_50 ?_
    refine zw_aload_n C dX4_begins_51 0 rfl rfl ?_
    refine zw_get C FX4 0 13 (v := .ref (b 11)) rfl (by decide) lkX4_41 rfl dX4_begins_52 ?_
    refine zw_aload_n C dX4_begins_55 0 rfl rfl ?_
    refine zw_get C FX4 0 11 (v := .int M0) rfl (by decide) lkX4_104 rfl dX4_begins_56 ?_
    refine zw_iload_n C dX4_begins_59 3 rfl rfl ?_
    refine zw_iast C 11 0 (f := M2) (i := M0) (ws2 := (wM cI cL b B0 B1 B2 B3 B4 B5 B6 K0 K1 K2 K3 K4 E0 M0 (upd M1 M0.toNatClampNeg ((24 * p1) + p2)) (upd M2 M0.toNatClampNeg p3) M3 M4 M5 M6 M7 (U0 + 1) U1 (U2 + 1) U3 U4 U5 G0 G1 G2 G3 G4 N0 N1 N2 N3)) rfl rfl hy1 rfl dX4_begins_60 ?_
    refine zw_aload_n C dX4_begins_61 0 rfl rfl ?_
    refine zw_get C FX4 0 14 (v := .ref (b 12)) rfl (by decide) lkX4_44 rfl dX4_begins_62 ?_
    refine zw_aload_n C dX4_begins_65 0 rfl rfl ?_
    refine zw_get C FX4 0 11 (v := .int M0) rfl (by decide) lkX4_104 rfl dX4_begins_66 ?_
    refine zw_iload C dX4_begins_69 4 rfl ?_
    refine zw_iast C 12 0 (f := M3) (i := M0) (ws2 := (wM cI cL b B0 B1 B2 B3 B4 B5 B6 K0 K1 K2 K3 K4 E0 M0 (upd M1 M0.toNatClampNeg ((24 * p1) + p2)) (upd M2 M0.toNatClampNeg p3) (upd M3 M0.toNatClampNeg p4) M4 M5 M6 M7 (U0 + 1) U1 (U2 + 1) U3 U4 U5 G0 G1 G2 G3 G4 N0 N1 N2 N3)) rfl rfl hy1 rfl dX4_begins_71 ?_
    refine zw_aload_n C dX4_begins_72 0 rfl rfl ?_
    refine zw_get C FX4 0 15 (v := .ref (b 13)) rfl (by decide) lkX4_47 rfl dX4_begins_73 ?_
    refine zw_aload_n C dX4_begins_76 0 rfl rfl ?_
    refine zw_get C FX4 0 11 (v := .int M0) rfl (by decide) lkX4_104 rfl dX4_begins_77 ?_
    refine zw_iconst C (v := 0) dX4_begins_80 (by decide) ?_
    refine zw_iast C 13 0 (f := M4) (i := M0) (ws2 := (wM cI cL b B0 B1 B2 B3 B4 B5 B6 K0 K1 K2 K3 K4 E0 M0 (upd M1 M0.toNatClampNeg ((24 * p1) + p2)) (upd M2 M0.toNatClampNeg p3) (upd M3 M0.toNatClampNeg p4) (upd M4 M0.toNatClampNeg 0) M5 M6 M7 (U0 + 1) U1 (U2 + 1) U3 U4 U5 G0 G1 G2 G3 G4 N0 N1 N2 N3)) rfl rfl hy1 rfl dX4_begins_81 ?_
    refine zw_aload_n C dX4_begins_82 0 rfl rfl ?_
    refine zw_dup C dX4_begins_83 rfl ?_
    refine zw_get C FX4 0 11 (v := .int M0) rfl (by decide) lkX4_104 rfl dX4_begins_84 ?_
    refine zw_iconst C (v := 1) dX4_begins_87 (by decide) ?_
    refine zw_iadd C dX4_begins_88 ?_
    refine zw_put C FX4 GX4 0 11 (v := .int (M0 + 1)) (ws2 := (wM cI cL b B0 B1 B2 B3 B4 B5 B6 K0 K1 K2 K3 K4 E0 (M0 + 1) (upd M1 M0.toNatClampNeg ((24 * p1) + p2)) (upd M2 M0.toNatClampNeg p3) (upd M3 M0.toNatClampNeg p4) (upd M4 M0.toNatClampNeg 0) M5 M6 M7 (U0 + 1) U1 (U2 + 1) U3 U4 U5 G0 G1 G2 G3 G4 N0 N1 N2 N3)) rfl (by decide) lkX4_104 rfl rfl rfl (Nat.le_of_ble_eq_true rfl) rfl dX4_begins_89 ?_
    subst hF; dsimp only
    exact zw_return C hr hlk dX4_begins_92 rfl
  · rw [if_pos h1] at hF
    refine zw_aload_n C dX4_begins_10 0 rfl rfl ?_
    refine zw_iconst C (v := 4) dX4_begins_11 (by decide) ?_
    refine zw_put C FX4 GX4 0 18 (v := .int 4) (ws2 := (wM cI cL b B0 B1 B2 B3 B4 B5 B6 K0 K1 K2 K3 K4 E0 M0 M1 M2 M3 M4 M5 M6 4 U0 U1 U2 U3 U4 U5 G0 G1 G2 G3 G4 N0 N1 N2 N3)) rfl (by decide) lkX4_98 rfl rfl rfl (Nat.le_of_ble_eq_true rfl) rfl dX4_begins_12 ?_
    subst hF; dsimp only
    exact zw_return C hr hlk dX4_begins_15 rfl
end
section
theorem dm_row {v : Int64} (h1 : ¬ lg_cmp v 0 < 0) (h2 : lg_cmp v 7 ≤ 0) : vp_in v.toInt32 8 := by
  have a1 : ¬ v < 0 := fun z => h1 ((lg_cmp_lt v 0).mpr z)
  have a2 : v ≤ 7 := (lg_cmp_le v 7).mp h2
  obtain ⟨k, hk, rfl⟩ := pk_lOf a1
  have h3 : k ≤ 7 := (pk_lLE (a := k) (b := 7) hk (by decide)).mp a2
  rw [lN_i]; exact vp_in_nI (by omega) (by decide)
theorem dm_w72 {x : Int32} (h1 : ¬ x < 24) (h2 : ¬ (48 : Int32) ≤ x) : vp_in x 72 := by
  have b1 : ¬ x.toInt < 24 := fun h => h1 (Int32.lt_iff_toInt_lt.mpr h)
  have b2 : ¬ (48 : Int) ≤ x.toInt := fun h => h2 (Int32.le_iff_toInt_le.mpr h)
  exact vp_in_iff.mpr ⟨by omega, by omega⟩
theorem dm_pred {x : Int32} {i : Nat} (e : x = nI i) (hi : i ≤ 80) (h : ¬ x ≤ 0) : ∃ m : Nat, i = m + 1 ∧ x - 1 = nI m ∧ vp_in (x - 1) 80 := by
  obtain ⟨m, em, e5, -⟩ := dz_pred e (by omega) h
  exact ⟨m, em, e5, by rw [e5]; exact vp_in_nI (by omega) (by decide)⟩
end
section
def fX4_both (M0 : Int32) (M6 : Int64) (M7 : Int32) (p1 : Int32) (p2 : Int64) (p3 : Int64) : Int32 × Int64 × Int32 := (if p1 = 4 then (if (lg_cmp p3 0) = 0 then (M0, M6, 1) else (if p1 = 2 then (zw_l (fX4_tells M0 (p2 + p3)) (fun q35 => (q35.1, q35.2, M7))) else (if p1 = 3 then (zw_l (fX4_tells M0 (p2 * p3)) (fun q33 => (q33.1, q33.2, M7))) else (if p1 = 4 then (zw_l (fX4_tells M0 (p2 / p3)) (fun q31 => (q31.1, q31.2, M7))) else (if p1 = 5 then (if 0 ≤ (lg_cmp p2 p3) then (zw_l (fX4_tells M0 p3) (fun q27 => (q27.1, q27.2, M7))) else (zw_l (fX4_tells M0 p2) (fun q29 => (q29.1, q29.2, M7)))) else (zw_l (fX4_tells M0 p3) (fun q24 => (q24.1, q24.2, M7)))))))) else (if p1 = 2 then (zw_l (fX4_tells M0 (p2 + p3)) (fun q17 => (q17.1, q17.2, M7))) else (if p1 = 3 then (zw_l (fX4_tells M0 (p2 * p3)) (fun q15 => (q15.1, q15.2, M7))) else (if p1 = 4 then (zw_l (fX4_tells M0 (p2 / p3)) (fun q13 => (q13.1, q13.2, M7))) else (if p1 = 5 then (if 0 ≤ (lg_cmp p2 p3) then (zw_l (fX4_tells M0 p3) (fun q9 => (q9.1, q9.2, M7))) else (zw_l (fX4_tells M0 p2) (fun q11 => (q11.1, q11.2, M7)))) else (zw_l (fX4_tells M0 p3) (fun q6 => (q6.1, q6.2, M7))))))))
set_option maxHeartbeats 4000000 in
set_option maxRecDepth 100000 in
theorem kX4_both {l : Launch} {D : va_G} {cI cL : ClassId} {b : Nat → Nat} {B0 : Int32} {B1 : Int32} {B2 : Int64} {B3 : (Nat → Int64)} {B4 : (Nat → Int64)} {B5 : (Nat → Int32)} {B6 : (Nat → Int32)} {K0 : (Nat → Int32)} {K1 : (Nat → Int32)} {K2 : (Nat → Int32)} {K3 : (Nat → Int32)} {K4 : (Nat → Int64)} {E0 : (Nat → Int32)} {M0 : Int32} {M1 : (Nat → Int32)} {M2 : (Nat → Int32)} {M3 : (Nat → Int32)} {M4 : (Nat → Int32)} {M5 : (Nat → Int64)} {M6 : Int64} {M7 : Int32} {U0 : Int32} {U1 : Int32} {U2 : Int32} {U3 : Int32} {U4 : Int32} {U5 : Int32} {G0 : Int32} {G1 : (Nat → Int64)} {G2 : (Nat → Int32)} {G3 : (Nat → Int64)} {G4 : (Nat → Int32)} {N0 : (Nat → Int64)} {N1 : (Nat → Int32)} {N2 : (Nat → Int64)} {N3 : (Nat → Int32)} {p1 : Int32} {p2 : Int64} {p3 : Int64} {q : Int32 × Int64 × Int32} (hF : fX4_both M0 M6 M7 p1 p2 p3 = q) : zw_Mv l yX4_both cX4_both 6 D (zw_tys cI cL) (zw_rm 1 22) [.ref (b 0), .int p1, .long p2, .long p3] (wM cI cL b B0 B1 B2 B3 B4 B5 B6 K0 K1 K2 K3 K4 E0 M0 M1 M2 M3 M4 M5 M6 M7 U0 U1 U2 U3 U4 U5 G0 G1 G2 G3 G4 N0 N1 N2 N3) (wM cI cL b B0 B1 B2 B3 B4 B5 B6 K0 K1 K2 K3 K4 E0 q.1 M1 M2 M3 M4 M5 q.2.1 q.2.2 U0 U1 U2 U3 U4 U5 G0 G1 G2 G3 G4 N0 N1 N2 N3) := by
  unfold fX4_both at hF
  refine zw_Mv_of (own := RX4) (by decide) rfl (Nat.le_of_ble_eq_true rfl) ?_
  intro p e s m args below meth c A C hr hlk
  refine zw_eq (lv2 := [(0, .ref (b 0)), (1, .int p1), (2, .long p2), (4, .long p3)]) rfl rfl rfl ?_
  refine zw_iload_n C dX4_both_0 1 rfl rfl ?_
  refine zw_iconst C (v := 4) dX4_both_1 (by decide) ?_
  refine zw_icmp_ne C 18 dX4_both_2 (by decide) (fun h1 => ?_) (fun h1 => ?_)
  · rw [if_neg h1] at hF
    refine zw_aload_n C dX4_both_18 0 rfl rfl ?_
    refine zw_iload_n C dX4_both_19 1 rfl rfl ?_
    refine zw_iconst C (v := 2) dX4_both_20 (by decide) ?_
    refine zw_icmp_ne C 31 dX4_both_21 (by decide) (fun h2 => ?_) (fun h2 => ?_)
    · rw [if_neg h2] at hF
      refine zw_iload_n C dX4_both_31 1 rfl rfl ?_
      refine zw_iconst C (v := 3) dX4_both_32 (by decide) ?_
      refine zw_icmp_ne C 43 dX4_both_33 (by decide) (fun h3 => ?_) (fun h3 => ?_)
      · rw [if_neg h3] at hF
        refine zw_iload_n C dX4_both_43 1 rfl rfl ?_
        refine zw_iconst C (v := 4) dX4_both_44 (by decide) ?_
        refine zw_icmp_ne C 55 dX4_both_45 (by decide) (fun h4 => ?_) (fun h4 => ?_)
        · rw [if_neg h4] at hF
          refine zw_iload_n C dX4_both_55 1 rfl rfl ?_
          refine zw_iconst C (v := 5) dX4_both_56 (by decide) ?_
          refine zw_icmp_ne C 76 dX4_both_57 (by decide) (fun h5 => ?_) (fun h5 => ?_)
          · rw [if_neg h5] at hF
            refine zw_lload C dX4_both_76 3 rfl ?_
            obtain ⟨q6, e7⟩ : ∃ z, fX4_tells M0 p3 = z := ⟨_, rfl⟩
            rw [zw_l_eq e7] at hF
            refine zw_callv C kvX4_111 (kX4_tells e7) ⟨rfl, rfl, ⟨by decide, by decide⟩, by decide, by decide⟩ FX4 0 (As := [.long p3]) (rest := []) rfl rfl rfl (Nat.le_of_ble_eq_true rfl) dX4_both_78 ?_
            subst hF; dsimp only
            exact zw_return C hr hlk dX4_both_81 rfl
          · rw [if_pos h5] at hF
            refine zw_lload_n C dX4_both_60 2 rfl rfl ?_
            refine zw_lload C dX4_both_61 3 rfl ?_
            refine zw_lcmp C dX4_both_63 ?_
            refine zw_if_ge C 71 dX4_both_64 (by decide) (fun h8 => ?_) (fun h8 => ?_)
            · rw [if_pos h8] at hF
              refine zw_lload C dX4_both_71 3 rfl ?_
              refine zw_goto C 78 dX4_both_73 (by decide) ?_
              obtain ⟨q9, e10⟩ : ∃ z, fX4_tells M0 p3 = z := ⟨_, rfl⟩
              rw [zw_l_eq e10] at hF
              refine zw_callv C kvX4_111 (kX4_tells e10) ⟨rfl, rfl, ⟨by decide, by decide⟩, by decide, by decide⟩ FX4 0 (As := [.long p3]) (rest := []) rfl rfl rfl (Nat.le_of_ble_eq_true rfl) dX4_both_78 ?_
              subst hF; dsimp only
              exact zw_return C hr hlk dX4_both_81 rfl
            · rw [if_neg h8] at hF
              refine zw_lload_n C dX4_both_67 2 rfl rfl ?_
              refine zw_goto C 78 dX4_both_68 (by decide) ?_
              obtain ⟨q11, e12⟩ : ∃ z, fX4_tells M0 p2 = z := ⟨_, rfl⟩
              rw [zw_l_eq e12] at hF
              refine zw_callv C kvX4_111 (kX4_tells e12) ⟨rfl, rfl, ⟨by decide, by decide⟩, by decide, by decide⟩ FX4 0 (As := [.long p2]) (rest := []) rfl rfl rfl (Nat.le_of_ble_eq_true rfl) dX4_both_78 ?_
              subst hF; dsimp only
              exact zw_return C hr hlk dX4_both_81 rfl
        · rw [if_pos h4] at hF
          refine zw_lload_n C dX4_both_48 2 rfl rfl ?_
          refine zw_lload C dX4_both_49 3 rfl ?_
          refine zw_ldiv C dX4_both_51 (by first | exact fun z => (by assumption : ¬ lg_cmp p3 0 = 0) ((lg_cmp_eq _ _).mpr z) | exact absurd (by assumption) (by assumption : ¬ p1 = 4)) ?_
          refine zw_goto C 78 dX4_both_52 (by decide) ?_
          obtain ⟨q13, e14⟩ : ∃ z, fX4_tells M0 (p2 / p3) = z := ⟨_, rfl⟩
          rw [zw_l_eq e14] at hF
          refine zw_callv C kvX4_111 (kX4_tells e14) ⟨rfl, rfl, ⟨by decide, by decide⟩, by decide, by decide⟩ FX4 0 (As := [.long (p2 / p3)]) (rest := []) rfl rfl rfl (Nat.le_of_ble_eq_true rfl) dX4_both_78 ?_
          subst hF; dsimp only
          exact zw_return C hr hlk dX4_both_81 rfl
      · rw [if_pos h3] at hF
        refine zw_lload_n C dX4_both_36 2 rfl rfl ?_
        refine zw_lload C dX4_both_37 3 rfl ?_
        refine zw_lmul C dX4_both_39 ?_
        refine zw_goto C 78 dX4_both_40 (by decide) ?_
        obtain ⟨q15, e16⟩ : ∃ z, fX4_tells M0 (p2 * p3) = z := ⟨_, rfl⟩
        rw [zw_l_eq e16] at hF
        refine zw_callv C kvX4_111 (kX4_tells e16) ⟨rfl, rfl, ⟨by decide, by decide⟩, by decide, by decide⟩ FX4 0 (As := [.long (p2 * p3)]) (rest := []) rfl rfl rfl (Nat.le_of_ble_eq_true rfl) dX4_both_78 ?_
        subst hF; dsimp only
        exact zw_return C hr hlk dX4_both_81 rfl
    · rw [if_pos h2] at hF
      refine zw_lload_n C dX4_both_24 2 rfl rfl ?_
      refine zw_lload C dX4_both_25 3 rfl ?_
      refine zw_ladd C dX4_both_27 ?_
      refine zw_goto C 78 dX4_both_28 (by decide) ?_
      obtain ⟨q17, e18⟩ : ∃ z, fX4_tells M0 (p2 + p3) = z := ⟨_, rfl⟩
      rw [zw_l_eq e18] at hF
      refine zw_callv C kvX4_111 (kX4_tells e18) ⟨rfl, rfl, ⟨by decide, by decide⟩, by decide, by decide⟩ FX4 0 (As := [.long (p2 + p3)]) (rest := []) rfl rfl rfl (Nat.le_of_ble_eq_true rfl) dX4_both_78 ?_
      subst hF; dsimp only
      exact zw_return C hr hlk dX4_both_81 rfl
  · rw [if_pos h1] at hF
    refine zw_lload C dX4_both_5 3 rfl ?_
    refine zw_lconst C (v := 0) dX4_both_7 (by decide) ?_
    refine zw_lcmp C dX4_both_8 ?_
    refine zw_if_ne C 18 dX4_both_9 (by decide) (fun h19 => ?_) (fun h19 => ?_)
    · rw [if_neg h19] at hF
      refine zw_aload_n C dX4_both_18 0 rfl rfl ?_
      refine zw_iload_n C dX4_both_19 1 rfl rfl ?_
      refine zw_iconst C (v := 2) dX4_both_20 (by decide) ?_
      refine zw_icmp_ne C 31 dX4_both_21 (by decide) (fun h20 => ?_) (fun h20 => ?_)
      · rw [if_neg h20] at hF
        refine zw_iload_n C dX4_both_31 1 rfl rfl ?_
        refine zw_iconst C (v := 3) dX4_both_32 (by decide) ?_
        refine zw_icmp_ne C 43 dX4_both_33 (by decide) (fun h21 => ?_) (fun h21 => ?_)
        · rw [if_neg h21] at hF
          refine zw_iload_n C dX4_both_43 1 rfl rfl ?_
          refine zw_iconst C (v := 4) dX4_both_44 (by decide) ?_
          refine zw_icmp_ne C 55 dX4_both_45 (by decide) (fun h22 => ?_) (fun h22 => ?_)
          · rw [if_neg h22] at hF
            refine zw_iload_n C dX4_both_55 1 rfl rfl ?_
            refine zw_iconst C (v := 5) dX4_both_56 (by decide) ?_
            refine zw_icmp_ne C 76 dX4_both_57 (by decide) (fun h23 => ?_) (fun h23 => ?_)
            · rw [if_neg h23] at hF
              refine zw_lload C dX4_both_76 3 rfl ?_
              obtain ⟨q24, e25⟩ : ∃ z, fX4_tells M0 p3 = z := ⟨_, rfl⟩
              rw [zw_l_eq e25] at hF
              refine zw_callv C kvX4_111 (kX4_tells e25) ⟨rfl, rfl, ⟨by decide, by decide⟩, by decide, by decide⟩ FX4 0 (As := [.long p3]) (rest := []) rfl rfl rfl (Nat.le_of_ble_eq_true rfl) dX4_both_78 ?_
              subst hF; dsimp only
              exact zw_return C hr hlk dX4_both_81 rfl
            · rw [if_pos h23] at hF
              refine zw_lload_n C dX4_both_60 2 rfl rfl ?_
              refine zw_lload C dX4_both_61 3 rfl ?_
              refine zw_lcmp C dX4_both_63 ?_
              refine zw_if_ge C 71 dX4_both_64 (by decide) (fun h26 => ?_) (fun h26 => ?_)
              · rw [if_pos h26] at hF
                refine zw_lload C dX4_both_71 3 rfl ?_
                refine zw_goto C 78 dX4_both_73 (by decide) ?_
                obtain ⟨q27, e28⟩ : ∃ z, fX4_tells M0 p3 = z := ⟨_, rfl⟩
                rw [zw_l_eq e28] at hF
                refine zw_callv C kvX4_111 (kX4_tells e28) ⟨rfl, rfl, ⟨by decide, by decide⟩, by decide, by decide⟩ FX4 0 (As := [.long p3]) (rest := []) rfl rfl rfl (Nat.le_of_ble_eq_true rfl) dX4_both_78 ?_
                subst hF; dsimp only
                exact zw_return C hr hlk dX4_both_81 rfl
              · rw [if_neg h26] at hF
                refine zw_lload_n C dX4_both_67 2 rfl rfl ?_
                refine zw_goto C 78 dX4_both_68 (by decide) ?_
                obtain ⟨q29, e30⟩ : ∃ z, fX4_tells M0 p2 = z := ⟨_, rfl⟩
                rw [zw_l_eq e30] at hF
                refine zw_callv C kvX4_111 (kX4_tells e30) ⟨rfl, rfl, ⟨by decide, by decide⟩, by decide, by decide⟩ FX4 0 (As := [.long p2]) (rest := []) rfl rfl rfl (Nat.le_of_ble_eq_true rfl) dX4_both_78 ?_
                subst hF; dsimp only
                exact zw_return C hr hlk dX4_both_81 rfl
          · rw [if_pos h22] at hF
            refine zw_lload_n C dX4_both_48 2 rfl rfl ?_
            refine zw_lload C dX4_both_49 3 rfl ?_
            refine zw_ldiv C dX4_both_51 (by first | exact fun z => (by assumption : ¬ lg_cmp p3 0 = 0) ((lg_cmp_eq _ _).mpr z) | exact absurd (by assumption) (by assumption : ¬ p1 = 4)) ?_
            refine zw_goto C 78 dX4_both_52 (by decide) ?_
            obtain ⟨q31, e32⟩ : ∃ z, fX4_tells M0 (p2 / p3) = z := ⟨_, rfl⟩
            rw [zw_l_eq e32] at hF
            refine zw_callv C kvX4_111 (kX4_tells e32) ⟨rfl, rfl, ⟨by decide, by decide⟩, by decide, by decide⟩ FX4 0 (As := [.long (p2 / p3)]) (rest := []) rfl rfl rfl (Nat.le_of_ble_eq_true rfl) dX4_both_78 ?_
            subst hF; dsimp only
            exact zw_return C hr hlk dX4_both_81 rfl
        · rw [if_pos h21] at hF
          refine zw_lload_n C dX4_both_36 2 rfl rfl ?_
          refine zw_lload C dX4_both_37 3 rfl ?_
          refine zw_lmul C dX4_both_39 ?_
          refine zw_goto C 78 dX4_both_40 (by decide) ?_
          obtain ⟨q33, e34⟩ : ∃ z, fX4_tells M0 (p2 * p3) = z := ⟨_, rfl⟩
          rw [zw_l_eq e34] at hF
          refine zw_callv C kvX4_111 (kX4_tells e34) ⟨rfl, rfl, ⟨by decide, by decide⟩, by decide, by decide⟩ FX4 0 (As := [.long (p2 * p3)]) (rest := []) rfl rfl rfl (Nat.le_of_ble_eq_true rfl) dX4_both_78 ?_
          subst hF; dsimp only
          exact zw_return C hr hlk dX4_both_81 rfl
      · rw [if_pos h20] at hF
        refine zw_lload_n C dX4_both_24 2 rfl rfl ?_
        refine zw_lload C dX4_both_25 3 rfl ?_
        refine zw_ladd C dX4_both_27 ?_
        refine zw_goto C 78 dX4_both_28 (by decide) ?_
        obtain ⟨q35, e36⟩ : ∃ z, fX4_tells M0 (p2 + p3) = z := ⟨_, rfl⟩
        rw [zw_l_eq e36] at hF
        refine zw_callv C kvX4_111 (kX4_tells e36) ⟨rfl, rfl, ⟨by decide, by decide⟩, by decide, by decide⟩ FX4 0 (As := [.long (p2 + p3)]) (rest := []) rfl rfl rfl (Nat.le_of_ble_eq_true rfl) dX4_both_78 ?_
        subst hF; dsimp only
        exact zw_return C hr hlk dX4_both_81 rfl
    · rw [if_pos h19] at hF
      refine zw_aload_n C dX4_both_12 0 rfl rfl ?_
      refine zw_iconst C (v := 1) dX4_both_13 (by decide) ?_
      refine zw_put C FX4 GX4 0 18 (v := .int 1) (ws2 := (wM cI cL b B0 B1 B2 B3 B4 B5 B6 K0 K1 K2 K3 K4 E0 M0 M1 M2 M3 M4 M5 M6 1 U0 U1 U2 U3 U4 U5 G0 G1 G2 G3 G4 N0 N1 N2 N3)) rfl (by decide) lkX4_98 rfl rfl rfl (Nat.le_of_ble_eq_true rfl) rfl dX4_both_14 ?_
      subst hF; dsimp only
      exact zw_return C hr hlk dX4_both_17 rfl
def fX4_goesScale (B3 : (Nat → Int64)) (B4 : (Nat → Int64)) (K1 : (Nat → Int32)) (K2 : (Nat → Int32)) (K3 : (Nat → Int32)) (K4 : (Nat → Int64)) (E0 : (Nat → Int32)) (M0 : Int32) (M1 : (Nat → Int32)) (M2 : (Nat → Int32)) (M3 : (Nat → Int32)) (M4 : (Nat → Int32)) (M5 : (Nat → Int64)) (M6 : Int64) (M7 : Int32) (U0 : Int32) (U2 : Int32) (p1 : Int32) (p2 : Int32) (p3 : Int32) (p4 : Int64) : (Nat → Int32) × Int32 × (Nat → Int32) × (Nat → Int32) × (Nat → Int32) × (Nat → Int32) × (Nat → Int64) × Int64 × Int32 × Int32 × Int32 := (if (K1 p1.toNatClampNeg) = 11 then (E0, M0, M1, M2, M3, M4, M5, M6, 3, U0, U2) else (if 2 ≤ (K1 p1.toNatClampNeg) then (if (K1 p1.toNatClampNeg) = 8 then (zw_l (fX4_tells M0 (K4 p1.toNatClampNeg)) (fun q4 => (E0, q4.1, M1, M2, M3, M4, M5, q4.2, M7, U0, U2))) else (if (K1 p1.toNatClampNeg) = 9 then (zw_l (fX4_tells M0 (K4 p1.toNatClampNeg)) (fun q32 => (E0, q32.1, M1, M2, M3, M4, M5, q32.2, M7, U0, U2))) else (if (K1 p1.toNatClampNeg) = 10 then (zw_l (fX4_tells M0 ((((((upd E0 p1.toNatClampNeg ((E0 p1.toNatClampNeg) + 1)) p1.toNatClampNeg).toInt64) - 1) * ((K2 p1.toNatClampNeg).toInt64)) + ((K3 p1.toNatClampNeg).toInt64))) (fun q30 => (upd E0 p1.toNatClampNeg ((E0 p1.toNatClampNeg) + 1), q30.1, M1, M2, M3, M4, M5, q30.2, M7, U0, U2))) else (if p3 = 0 then (if (K1 p1.toNatClampNeg) = 6 then (zw_l (fX4_begins M0 M1 M2 M3 M4 M7 U0 U2 1 (K2 p1.toNatClampNeg) p2 p2) (fun q28 => (E0, q28.1, q28.2.1, q28.2.2.1, q28.2.2.2.1, q28.2.2.2.2.1, M5, M6, q28.2.2.2.2.2.1, q28.2.2.2.2.2.2.1, q28.2.2.2.2.2.2.2))) else (zw_l (fX4_begins M0 M1 M2 M3 M4 M7 U0 U2 0 (K2 p1.toNatClampNeg) p2 p2) (fun q26 => (E0, q26.1, q26.2.1, q26.2.2.1, q26.2.2.2.1, q26.2.2.2.2.1, M5, M6, q26.2.2.2.2.2.1, q26.2.2.2.2.2.2.1, q26.2.2.2.2.2.2.2)))) else (if (K1 p1.toNatClampNeg) = 7 then (if (lg_cmp p4 0) < 0 then (E0, M0, M1, M2, M3, M4, M5, M6, 2, U0, U2) else (if (lg_cmp p4 7) ≤ 0 then (zw_l (fX4_tells M0 (B4 p4.toInt32.toNatClampNeg)) (fun q23 => (E0, q23.1, M1, M2, M3, M4, M5, q23.2, M7, U0, U2))) else (E0, M0, M1, M2, M3, M4, M5, M6, 2, U0, U2))) else (if p3 = 1 then (if (K1 p1.toNatClampNeg) = 6 then (if (lg_cmp p4 0) = 0 then (zw_l (fX4_tells M0 0) (fun q19 => (E0, q19.1, M1, M2, M3, M4, M5, q19.2, M7, U0, U2))) else (zw_l (fX4_begins M0 M1 M2 M3 M4 M7 U0 U2 0 (K3 p1.toNatClampNeg) p2 p2) (fun q17 => (E0, q17.1, q17.2.1, q17.2.2.1, q17.2.2.2.1, q17.2.2.2.2.1, (vp_updL M5 (M0 - 1).toNatClampNeg p4), M6, q17.2.2.2.2.2.1, q17.2.2.2.2.2.2.1, q17.2.2.2.2.2.2.2)))) else (zw_l (fX4_begins M0 M1 M2 M3 M4 M7 U0 U2 0 (K3 p1.toNatClampNeg) p2 p2) (fun q14 => (E0, q14.1, q14.2.1, q14.2.2.1, q14.2.2.2.1, q14.2.2.2.2.1, (vp_updL M5 (M0 - 1).toNatClampNeg p4), M6, q14.2.2.2.2.2.1, q14.2.2.2.2.2.2.1, q14.2.2.2.2.2.2.2)))) else (zw_l (fX4_both M0 M6 M7 (K1 p1.toNatClampNeg) (M5 (M0 - 1).toNatClampNeg) p4) (fun q11 => (E0, q11.1, M1, M2, M3, M4, M5, q11.2.1, q11.2.2, U0, U2))))))))) else (if (K1 p1.toNatClampNeg) = 0 then (zw_l (fX4_tells M0 (B3 ((3 * p2) + (K2 p1.toNatClampNeg)).toNatClampNeg)) (fun q37 => (E0, q37.1, M1, M2, M3, M4, M5, q37.2, M7, U0, U2))) else (zw_l (fX4_tells M0 (((K2 p1.toNatClampNeg).toInt64) + ((K3 p1.toNatClampNeg).toInt64))) (fun q35 => (E0, q35.1, M1, M2, M3, M4, M5, q35.2, M7, U0, U2))))))
set_option maxHeartbeats 4000000 in
set_option maxRecDepth 100000 in
theorem kX4_goesScale {l : Launch} {D : va_G} {cI cL : ClassId} {b : Nat → Nat} {B0 : Int32} {B1 : Int32} {B2 : Int64} {B3 : (Nat → Int64)} {B4 : (Nat → Int64)} {B5 : (Nat → Int32)} {B6 : (Nat → Int32)} {K0 : (Nat → Int32)} {K1 : (Nat → Int32)} {K2 : (Nat → Int32)} {K3 : (Nat → Int32)} {K4 : (Nat → Int64)} {E0 : (Nat → Int32)} {M0 : Int32} {M1 : (Nat → Int32)} {M2 : (Nat → Int32)} {M3 : (Nat → Int32)} {M4 : (Nat → Int32)} {M5 : (Nat → Int64)} {M6 : Int64} {M7 : Int32} {U0 : Int32} {U1 : Int32} {U2 : Int32} {U3 : Int32} {U4 : Int32} {U5 : Int32} {G0 : Int32} {G1 : (Nat → Int64)} {G2 : (Nat → Int32)} {G3 : (Nat → Int64)} {G4 : (Nat → Int32)} {N0 : (Nat → Int64)} {N1 : (Nat → Int32)} {N2 : (Nat → Int64)} {N3 : (Nat → Int32)} {p1 : Int32} {p2 : Int32} {p3 : Int32} {p4 : Int64} {q : (Nat → Int32) × Int32 × (Nat → Int32) × (Nat → Int32) × (Nat → Int32) × (Nat → Int32) × (Nat → Int64) × Int64 × Int32 × Int32 × Int32} (hy1 : vp_in p1 72) (hy2 : vp_in M0 80) (hy3 : vp_in (M0 - 1) 80) (hy4 : K1 p1.toNatClampNeg = 0 → vp_in (3 * p2 + K2 p1.toNatClampNeg) 120) (hF : fX4_goesScale B3 B4 K1 K2 K3 K4 E0 M0 M1 M2 M3 M4 M5 M6 M7 U0 U2 p1 p2 p3 p4 = q) : zw_Mv l yX4_goesScale cX4_goesScale 9 D (zw_tys cI cL) (zw_rm 2 47) [.ref (b 0), .int p1, .int p2, .int p3, .long p4] (wM cI cL b B0 B1 B2 B3 B4 B5 B6 K0 K1 K2 K3 K4 E0 M0 M1 M2 M3 M4 M5 M6 M7 U0 U1 U2 U3 U4 U5 G0 G1 G2 G3 G4 N0 N1 N2 N3) (wM cI cL b B0 B1 B2 B3 B4 B5 B6 K0 K1 K2 K3 K4 q.1 q.2.1 q.2.2.1 q.2.2.2.1 q.2.2.2.2.1 q.2.2.2.2.2.1 q.2.2.2.2.2.2.1 q.2.2.2.2.2.2.2.1 q.2.2.2.2.2.2.2.2.1 q.2.2.2.2.2.2.2.2.2.1 U1 q.2.2.2.2.2.2.2.2.2.2 U3 U4 U5 G0 G1 G2 G3 G4 N0 N1 N2 N3) := by
  unfold fX4_goesScale at hF
  refine zw_Mv_of (own := RX4) (by decide) rfl (Nat.le_of_ble_eq_true rfl) ?_
  intro p e s m args below meth c A C hr hlk
  refine zw_eq (lv2 := [(0, .ref (b 0)), (1, .int p1), (2, .int p2), (3, .int p3), (4, .long p4)]) rfl rfl rfl ?_
  refine zw_aload_n C dX4_goesScale_0 0 rfl rfl ?_
  refine zw_get C FX4 0 6 (v := .ref (b 5)) rfl (by decide) lkX4_23 rfl dX4_goesScale_1 ?_
  refine zw_iload_n C dX4_goesScale_4 1 rfl rfl ?_
  refine zw_iald C 5 0 (f := K1) (i := p1) rfl rfl hy1 dX4_goesScale_5 ?_
  refine zw_istore C dX4_goesScale_6 (by decide) rfl ?_
  refine zw_aload_n C dX4_goesScale_8 1 rfl rfl ?_
  refine zw_get C FX4 0 7 (v := .ref (b 6)) rfl (by decide) lkX4_26 rfl dX4_goesScale_9 ?_
  refine zw_iload_n C dX4_goesScale_12 2 rfl rfl ?_
  refine zw_iald C 6 0 (f := K2) (i := p1) rfl rfl hy1 dX4_goesScale_13 ?_
  refine zw_istore C dX4_goesScale_14 (by decide) rfl ?_
  refine zw_aload_n C dX4_goesScale_16 2 rfl rfl ?_
  refine zw_get C FX4 0 8 (v := .ref (b 7)) rfl (by decide) lkX4_29 rfl dX4_goesScale_17 ?_
  refine zw_iload_n C dX4_goesScale_20 3 rfl rfl ?_
  refine zw_iald C 7 0 (f := K3) (i := p1) rfl rfl hy1 dX4_goesScale_21 ?_
  refine zw_istore C dX4_goesScale_22 (by decide) rfl ?_
  refine zw_iload C dX4_goesScale_24 2 rfl ?_
  refine zw_bipush C (v := 11) dX4_goesScale_26 (by decide) ?_
  refine zw_icmp_ne C 39 dX4_goesScale_28 (by decide) (fun h1 => ?_) (fun h1 => ?_)
  · rw [if_neg h1] at hF
    refine zw_iload C dX4_goesScale_39 2 rfl ?_
    refine zw_iconst C (v := 2) dX4_goesScale_41 (by decide) ?_
    refine zw_icmp_ge C 78 dX4_goesScale_42 (by decide) (fun h2 => ?_) (fun h2 => ?_)
    · rw [if_pos h2] at hF
      refine zw_iload C dX4_goesScale_78 2 rfl ?_
      refine zw_bipush C (v := 8) dX4_goesScale_80 (by decide) ?_
      refine zw_icmp_eq C 92 dX4_goesScale_82 (by decide) (fun h3 => ?_) (fun h3 => ?_)
      · rw [if_pos h3] at hF
        refine zw_aload_n C dX4_goesScale_92 3 rfl rfl ?_
        refine zw_aload_n C dX4_goesScale_93 3 rfl rfl ?_
        refine zw_get C FX4 0 9 (v := .ref (b 8)) rfl (by decide) lkX4_32 rfl dX4_goesScale_94 ?_
        refine zw_iload_n C dX4_goesScale_97 4 rfl rfl ?_
        refine zw_lald C 8 1 (f := K4) (i := p1) rfl rfl hy1 dX4_goesScale_98 ?_
        obtain ⟨q4, e5⟩ : ∃ z, fX4_tells M0 (K4 p1.toNatClampNeg) = z := ⟨_, rfl⟩
        rw [zw_l_eq e5] at hF
        refine zw_callv C kvX4_111 (kX4_tells e5) ⟨rfl, rfl, ⟨by decide, by decide⟩, by decide, by decide⟩ FX4 0 (As := [.long (K4 p1.toNatClampNeg)]) (rest := []) rfl rfl rfl (Nat.le_of_ble_eq_true rfl) dX4_goesScale_99 ?_
        refine zw_goto C 290 dX4_goesScale_102 (by decide) ?_
        subst hF; dsimp only
        exact zw_return C hr hlk dX4_goesScale_290 rfl
      · rw [if_neg h3] at hF
        refine zw_iload C dX4_goesScale_85 2 rfl ?_
        refine zw_bipush C (v := 9) dX4_goesScale_87 (by decide) ?_
        refine zw_icmp_ne C 105 dX4_goesScale_89 (by decide) (fun h6 => ?_) (fun h6 => ?_)
        · rw [if_neg h6] at hF
          refine zw_iload C dX4_goesScale_105 2 rfl ?_
          refine zw_bipush C (v := 10) dX4_goesScale_107 (by decide) ?_
          refine zw_icmp_ne C 146 dX4_goesScale_109 (by decide) (fun h7 => ?_) (fun h7 => ?_)
          · rw [if_neg h7] at hF
            refine zw_iload_n C dX4_goesScale_146 6 rfl rfl ?_
            refine zw_if_ne C 173 dX4_goesScale_147 (by decide) (fun h8 => ?_) (fun h8 => ?_)
            · rw [if_neg h8] at hF
              refine zw_iload C dX4_goesScale_173 2 rfl ?_
              refine zw_bipush C (v := 7) dX4_goesScale_175 (by decide) ?_
              refine zw_icmp_ne C 219 dX4_goesScale_177 (by decide) (fun h9 => ?_) (fun h9 => ?_)
              · rw [if_neg h9] at hF
                refine zw_iload_n C dX4_goesScale_219 6 rfl rfl ?_
                refine zw_iconst C (v := 1) dX4_goesScale_220 (by decide) ?_
                refine zw_icmp_ne C 271 dX4_goesScale_221 (by decide) (fun h10 => ?_) (fun h10 => ?_)
                · rw [if_neg h10] at hF
                  refine zw_aload_n C dX4_goesScale_271 3 rfl rfl ?_
                  refine zw_iload C dX4_goesScale_272 2 rfl ?_
                  refine zw_aload_n C dX4_goesScale_274 3 rfl rfl ?_
                  refine zw_get C FX4 0 16 (v := .ref (b 14)) rfl (by decide) lkX4_50 rfl dX4_goesScale_275 ?_
                  refine zw_aload_n C dX4_goesScale_278 3 rfl rfl ?_
                  refine zw_get C FX4 0 11 (v := .int M0) rfl (by decide) lkX4_104 rfl dX4_goesScale_279 ?_
                  refine zw_iconst C (v := 1) dX4_goesScale_282 (by decide) ?_
                  refine zw_isub C dX4_goesScale_283 ?_
                  refine zw_lald C 14 1 (f := M5) (i := (M0 - 1)) rfl rfl hy3 dX4_goesScale_284 ?_
                  refine zw_lload C dX4_goesScale_285 7 rfl ?_
                  obtain ⟨q11, e12⟩ : ∃ z, fX4_both M0 M6 M7 (K1 p1.toNatClampNeg) (M5 (M0 - 1).toNatClampNeg) p4 = z := ⟨_, rfl⟩
                  rw [zw_l_eq e12] at hF
                  refine zw_callv C kvX4_121 (kX4_both e12) ⟨rfl, rfl, ⟨by decide, by decide⟩, by decide, by decide⟩ FX4 0 (As := [.int (K1 p1.toNatClampNeg), .long (M5 (M0 - 1).toNatClampNeg), .long p4]) (rest := []) rfl rfl rfl (Nat.le_of_ble_eq_true rfl) dX4_goesScale_287 ?_
                  subst hF; dsimp only
                  exact zw_return C hr hlk dX4_goesScale_290 rfl
                · rw [if_pos h10] at hF
                  refine zw_iload C dX4_goesScale_224 2 rfl ?_
                  refine zw_bipush C (v := 6) dX4_goesScale_226 (by decide) ?_
                  refine zw_icmp_ne C 246 dX4_goesScale_228 (by decide) (fun h13 => ?_) (fun h13 => ?_)
                  · rw [if_neg h13] at hF
                    refine zw_aload_n C dX4_goesScale_246 3 rfl rfl ?_
                    refine zw_get C FX4 0 16 (v := .ref (b 14)) rfl (by decide) lkX4_50 rfl dX4_goesScale_247 ?_
                    refine zw_aload_n C dX4_goesScale_250 3 rfl rfl ?_
                    refine zw_get C FX4 0 11 (v := .int M0) rfl (by decide) lkX4_104 rfl dX4_goesScale_251 ?_
                    refine zw_iconst C (v := 1) dX4_goesScale_254 (by decide) ?_
                    refine zw_isub C dX4_goesScale_255 ?_
                    refine zw_lload C dX4_goesScale_256 7 rfl ?_
                    refine zw_last C 14 1 (f := M5) (i := (M0 - 1)) (ws2 := (wM cI cL b B0 B1 B2 B3 B4 B5 B6 K0 K1 K2 K3 K4 E0 M0 M1 M2 M3 M4 (vp_updL M5 (M0 - 1).toNatClampNeg p4) M6 M7 U0 U1 U2 U3 U4 U5 G0 G1 G2 G3 G4 N0 N1 N2 N3)) rfl rfl hy3 rfl dX4_goesScale_258 ?_
                    refine zw_aload_n C dX4_goesScale_259 3 rfl rfl ?_
                    refine zw_iconst C (v := 0) dX4_goesScale_260 (by decide) ?_
                    refine zw_iload C dX4_goesScale_261 0 rfl ?_
                    refine zw_iload_n C dX4_goesScale_263 5 rfl rfl ?_
                    refine zw_iload_n C dX4_goesScale_264 5 rfl rfl ?_
                    obtain ⟨q14, e15⟩ : ∃ z, fX4_begins M0 M1 M2 M3 M4 M7 U0 U2 0 (K3 p1.toNatClampNeg) p2 p2 = z := ⟨_, rfl⟩
                    rw [zw_l_eq e15] at hF
                    refine zw_callv C kvX4_115 (kX4_begins hy2 e15) ⟨rfl, rfl, ⟨by decide, by decide⟩, by decide, by decide⟩ FX4 0 (As := [.int 0, .int (K3 p1.toNatClampNeg), .int p2, .int p2]) (rest := []) rfl rfl rfl (Nat.le_of_ble_eq_true rfl) dX4_goesScale_265 ?_
                    refine zw_goto C 290 dX4_goesScale_268 (by decide) ?_
                    subst hF; dsimp only
                    exact zw_return C hr hlk dX4_goesScale_290 rfl
                  · rw [if_pos h13] at hF
                    refine zw_lload C dX4_goesScale_231 7 rfl ?_
                    refine zw_lconst C (v := 0) dX4_goesScale_233 (by decide) ?_
                    refine zw_lcmp C dX4_goesScale_234 ?_
                    refine zw_if_ne C 246 dX4_goesScale_235 (by decide) (fun h16 => ?_) (fun h16 => ?_)
                    · rw [if_neg h16] at hF
                      refine zw_aload_n C dX4_goesScale_246 3 rfl rfl ?_
                      refine zw_get C FX4 0 16 (v := .ref (b 14)) rfl (by decide) lkX4_50 rfl dX4_goesScale_247 ?_
                      refine zw_aload_n C dX4_goesScale_250 3 rfl rfl ?_
                      refine zw_get C FX4 0 11 (v := .int M0) rfl (by decide) lkX4_104 rfl dX4_goesScale_251 ?_
                      refine zw_iconst C (v := 1) dX4_goesScale_254 (by decide) ?_
                      refine zw_isub C dX4_goesScale_255 ?_
                      refine zw_lload C dX4_goesScale_256 7 rfl ?_
                      refine zw_last C 14 1 (f := M5) (i := (M0 - 1)) (ws2 := (wM cI cL b B0 B1 B2 B3 B4 B5 B6 K0 K1 K2 K3 K4 E0 M0 M1 M2 M3 M4 (vp_updL M5 (M0 - 1).toNatClampNeg p4) M6 M7 U0 U1 U2 U3 U4 U5 G0 G1 G2 G3 G4 N0 N1 N2 N3)) rfl rfl hy3 rfl dX4_goesScale_258 ?_
                      refine zw_aload_n C dX4_goesScale_259 3 rfl rfl ?_
                      refine zw_iconst C (v := 0) dX4_goesScale_260 (by decide) ?_
                      refine zw_iload C dX4_goesScale_261 0 rfl ?_
                      refine zw_iload_n C dX4_goesScale_263 5 rfl rfl ?_
                      refine zw_iload_n C dX4_goesScale_264 5 rfl rfl ?_
                      obtain ⟨q17, e18⟩ : ∃ z, fX4_begins M0 M1 M2 M3 M4 M7 U0 U2 0 (K3 p1.toNatClampNeg) p2 p2 = z := ⟨_, rfl⟩
                      rw [zw_l_eq e18] at hF
                      refine zw_callv C kvX4_115 (kX4_begins hy2 e18) ⟨rfl, rfl, ⟨by decide, by decide⟩, by decide, by decide⟩ FX4 0 (As := [.int 0, .int (K3 p1.toNatClampNeg), .int p2, .int p2]) (rest := []) rfl rfl rfl (Nat.le_of_ble_eq_true rfl) dX4_goesScale_265 ?_
                      refine zw_goto C 290 dX4_goesScale_268 (by decide) ?_
                      subst hF; dsimp only
                      exact zw_return C hr hlk dX4_goesScale_290 rfl
                    · rw [if_pos h16] at hF
                      refine zw_aload_n C dX4_goesScale_238 3 rfl rfl ?_
                      refine zw_lconst C (v := 0) dX4_goesScale_239 (by decide) ?_
                      obtain ⟨q19, e20⟩ : ∃ z, fX4_tells M0 0 = z := ⟨_, rfl⟩
                      rw [zw_l_eq e20] at hF
                      refine zw_callv C kvX4_111 (kX4_tells e20) ⟨rfl, rfl, ⟨by decide, by decide⟩, by decide, by decide⟩ FX4 0 (As := [.long 0]) (rest := []) rfl rfl rfl (Nat.le_of_ble_eq_true rfl) dX4_goesScale_240 ?_
                      refine zw_goto C 290 dX4_goesScale_243 (by decide) ?_
                      subst hF; dsimp only
                      exact zw_return C hr hlk dX4_goesScale_290 rfl
              · rw [if_pos h9] at hF
                refine zw_lload C dX4_goesScale_180 7 rfl ?_
                refine zw_lconst C (v := 0) dX4_goesScale_182 (by decide) ?_
                refine zw_lcmp C dX4_goesScale_183 ?_
                refine zw_if_lt C 196 dX4_goesScale_184 (by decide) (fun h21 => ?_) (fun h21 => ?_)
                · rw [if_pos h21] at hF
                  refine zw_aload_n C dX4_goesScale_196 3 rfl rfl ?_
                  refine zw_iconst C (v := 2) dX4_goesScale_197 (by decide) ?_
                  refine zw_put C FX4 GX4 0 18 (v := .int 2) (ws2 := (wM cI cL b B0 B1 B2 B3 B4 B5 B6 K0 K1 K2 K3 K4 E0 M0 M1 M2 M3 M4 M5 M6 2 U0 U1 U2 U3 U4 U5 G0 G1 G2 G3 G4 N0 N1 N2 N3)) rfl (by decide) lkX4_98 rfl rfl rfl (Nat.le_of_ble_eq_true rfl) rfl dX4_goesScale_198 ?_
                  refine zw_goto C 290 dX4_goesScale_201 (by decide) ?_
                  subst hF; dsimp only
                  exact zw_return C hr hlk dX4_goesScale_290 rfl
                · rw [if_neg h21] at hF
                  refine zw_lload C dX4_goesScale_187 7 rfl ?_
                  refine zw_ldc2 C lkcX4_119 dX4_goesScale_189 ?_
                  refine zw_lcmp C dX4_goesScale_192 ?_
                  refine zw_if_le C 204 dX4_goesScale_193 (by decide) (fun h22 => ?_) (fun h22 => ?_)
                  · rw [if_pos h22] at hF
                    refine zw_aload_n C dX4_goesScale_204 3 rfl rfl ?_
                    refine zw_aload_n C dX4_goesScale_205 3 rfl rfl ?_
                    refine zw_get C FX4 0 2 (v := .ref (b 2)) rfl (by decide) lkX4_13 rfl dX4_goesScale_206 ?_
                    refine zw_lload C dX4_goesScale_209 7 rfl ?_
                    refine zw_l2i C dX4_goesScale_211 ?_
                    refine zw_lald C 2 1 (f := B4) (i := p4.toInt32) rfl rfl (dm_row (by assumption) (by assumption)) dX4_goesScale_212 ?_
                    obtain ⟨q23, e24⟩ : ∃ z, fX4_tells M0 (B4 p4.toInt32.toNatClampNeg) = z := ⟨_, rfl⟩
                    rw [zw_l_eq e24] at hF
                    refine zw_callv C kvX4_111 (kX4_tells e24) ⟨rfl, rfl, ⟨by decide, by decide⟩, by decide, by decide⟩ FX4 0 (As := [.long (B4 p4.toInt32.toNatClampNeg)]) (rest := []) rfl rfl rfl (Nat.le_of_ble_eq_true rfl) dX4_goesScale_213 ?_
                    refine zw_goto C 290 dX4_goesScale_216 (by decide) ?_
                    subst hF; dsimp only
                    exact zw_return C hr hlk dX4_goesScale_290 rfl
                  · rw [if_neg h22] at hF
                    refine zw_aload_n C dX4_goesScale_196 3 rfl rfl ?_
                    refine zw_iconst C (v := 2) dX4_goesScale_197 (by decide) ?_
                    refine zw_put C FX4 GX4 0 18 (v := .int 2) (ws2 := (wM cI cL b B0 B1 B2 B3 B4 B5 B6 K0 K1 K2 K3 K4 E0 M0 M1 M2 M3 M4 M5 M6 2 U0 U1 U2 U3 U4 U5 G0 G1 G2 G3 G4 N0 N1 N2 N3)) rfl (by decide) lkX4_98 rfl rfl rfl (Nat.le_of_ble_eq_true rfl) rfl dX4_goesScale_198 ?_
                    refine zw_goto C 290 dX4_goesScale_201 (by decide) ?_
                    subst hF; dsimp only
                    exact zw_return C hr hlk dX4_goesScale_290 rfl
            · rw [if_pos h8] at hF
              refine zw_aload_n C dX4_goesScale_150 3 rfl rfl ?_
              refine zw_iload C dX4_goesScale_151 2 rfl ?_
              refine zw_bipush C (v := 6) dX4_goesScale_153 (by decide) ?_
              refine zw_icmp_ne C 162 dX4_goesScale_155 (by decide) (fun h25 => ?_) (fun h25 => ?_)
              · rw [if_neg h25] at hF
                refine zw_iconst C (v := 0) dX4_goesScale_162 (by decide) ?_
                refine zw_iload C dX4_goesScale_163 1 rfl ?_
                refine zw_iload_n C dX4_goesScale_165 5 rfl rfl ?_
                refine zw_iload_n C dX4_goesScale_166 5 rfl rfl ?_
                obtain ⟨q26, e27⟩ : ∃ z, fX4_begins M0 M1 M2 M3 M4 M7 U0 U2 0 (K2 p1.toNatClampNeg) p2 p2 = z := ⟨_, rfl⟩
                rw [zw_l_eq e27] at hF
                refine zw_callv C kvX4_115 (kX4_begins hy2 e27) ⟨rfl, rfl, ⟨by decide, by decide⟩, by decide, by decide⟩ FX4 0 (As := [.int 0, .int (K2 p1.toNatClampNeg), .int p2, .int p2]) (rest := []) rfl rfl rfl (Nat.le_of_ble_eq_true rfl) dX4_goesScale_167 ?_
                refine zw_goto C 290 dX4_goesScale_170 (by decide) ?_
                subst hF; dsimp only
                exact zw_return C hr hlk dX4_goesScale_290 rfl
              · rw [if_pos h25] at hF
                refine zw_iconst C (v := 1) dX4_goesScale_158 (by decide) ?_
                refine zw_goto C 163 dX4_goesScale_159 (by decide) ?_
                refine zw_iload C dX4_goesScale_163 1 rfl ?_
                refine zw_iload_n C dX4_goesScale_165 5 rfl rfl ?_
                refine zw_iload_n C dX4_goesScale_166 5 rfl rfl ?_
                obtain ⟨q28, e29⟩ : ∃ z, fX4_begins M0 M1 M2 M3 M4 M7 U0 U2 1 (K2 p1.toNatClampNeg) p2 p2 = z := ⟨_, rfl⟩
                rw [zw_l_eq e29] at hF
                refine zw_callv C kvX4_115 (kX4_begins hy2 e29) ⟨rfl, rfl, ⟨by decide, by decide⟩, by decide, by decide⟩ FX4 0 (As := [.int 1, .int (K2 p1.toNatClampNeg), .int p2, .int p2]) (rest := []) rfl rfl rfl (Nat.le_of_ble_eq_true rfl) dX4_goesScale_167 ?_
                refine zw_goto C 290 dX4_goesScale_170 (by decide) ?_
                subst hF; dsimp only
                exact zw_return C hr hlk dX4_goesScale_290 rfl
          · rw [if_pos h7] at hF
            refine zw_aload_n C dX4_goesScale_112 3 rfl rfl ?_
            refine zw_get C FX4 0 10 (v := .ref (b 9)) rfl (by decide) lkX4_35 rfl dX4_goesScale_113 ?_
            refine zw_iload_n C dX4_goesScale_116 4 rfl rfl ?_
            refine zw_dup2_11 C dX4_goesScale_117 rfl rfl ?_
            refine zw_iald C 9 0 (f := E0) (i := p1) rfl rfl hy1 dX4_goesScale_118 ?_
            refine zw_iconst C (v := 1) dX4_goesScale_119 (by decide) ?_
            refine zw_iadd C dX4_goesScale_120 ?_
            refine zw_iast C 9 0 (f := E0) (i := p1) (ws2 := (wM cI cL b B0 B1 B2 B3 B4 B5 B6 K0 K1 K2 K3 K4 (upd E0 p1.toNatClampNeg ((E0 p1.toNatClampNeg) + 1)) M0 M1 M2 M3 M4 M5 M6 M7 U0 U1 U2 U3 U4 U5 G0 G1 G2 G3 G4 N0 N1 N2 N3)) rfl rfl hy1 rfl dX4_goesScale_121 ?_
            refine zw_aload_n C dX4_goesScale_122 3 rfl rfl ?_
            refine zw_aload_n C dX4_goesScale_123 3 rfl rfl ?_
            refine zw_get C FX4 0 10 (v := .ref (b 9)) rfl (by decide) lkX4_35 rfl dX4_goesScale_124 ?_
            refine zw_iload_n C dX4_goesScale_127 4 rfl rfl ?_
            refine zw_iald C 9 0 (f := (upd E0 p1.toNatClampNeg ((E0 p1.toNatClampNeg) + 1))) (i := p1) rfl rfl hy1 dX4_goesScale_128 ?_
            refine zw_i2l C dX4_goesScale_129 ?_
            refine zw_lconst C (v := 1) dX4_goesScale_130 (by decide) ?_
            refine zw_lsub C dX4_goesScale_131 ?_
            refine zw_iload C dX4_goesScale_132 1 rfl ?_
            refine zw_i2l C dX4_goesScale_134 ?_
            refine zw_lmul C dX4_goesScale_135 ?_
            refine zw_iload C dX4_goesScale_136 0 rfl ?_
            refine zw_i2l C dX4_goesScale_138 ?_
            refine zw_ladd C dX4_goesScale_139 ?_
            obtain ⟨q30, e31⟩ : ∃ z, fX4_tells M0 ((((((upd E0 p1.toNatClampNeg ((E0 p1.toNatClampNeg) + 1)) p1.toNatClampNeg).toInt64) - 1) * ((K2 p1.toNatClampNeg).toInt64)) + ((K3 p1.toNatClampNeg).toInt64)) = z := ⟨_, rfl⟩
            rw [zw_l_eq e31] at hF
            refine zw_callv C kvX4_111 (kX4_tells e31) ⟨rfl, rfl, ⟨by decide, by decide⟩, by decide, by decide⟩ FX4 0 (As := [.long ((((((upd E0 p1.toNatClampNeg ((E0 p1.toNatClampNeg) + 1)) p1.toNatClampNeg).toInt64) - 1) * ((K2 p1.toNatClampNeg).toInt64)) + ((K3 p1.toNatClampNeg).toInt64))]) (rest := []) rfl rfl rfl (Nat.le_of_ble_eq_true rfl) dX4_goesScale_140 ?_
            refine zw_goto C 290 dX4_goesScale_143 (by decide) ?_
            subst hF; dsimp only
            exact zw_return C hr hlk dX4_goesScale_290 rfl
        · rw [if_pos h6] at hF
          refine zw_aload_n C dX4_goesScale_92 3 rfl rfl ?_
          refine zw_aload_n C dX4_goesScale_93 3 rfl rfl ?_
          refine zw_get C FX4 0 9 (v := .ref (b 8)) rfl (by decide) lkX4_32 rfl dX4_goesScale_94 ?_
          refine zw_iload_n C dX4_goesScale_97 4 rfl rfl ?_
          refine zw_lald C 8 1 (f := K4) (i := p1) rfl rfl hy1 dX4_goesScale_98 ?_
          obtain ⟨q32, e33⟩ : ∃ z, fX4_tells M0 (K4 p1.toNatClampNeg) = z := ⟨_, rfl⟩
          rw [zw_l_eq e33] at hF
          refine zw_callv C kvX4_111 (kX4_tells e33) ⟨rfl, rfl, ⟨by decide, by decide⟩, by decide, by decide⟩ FX4 0 (As := [.long (K4 p1.toNatClampNeg)]) (rest := []) rfl rfl rfl (Nat.le_of_ble_eq_true rfl) dX4_goesScale_99 ?_
          refine zw_goto C 290 dX4_goesScale_102 (by decide) ?_
          subst hF; dsimp only
          exact zw_return C hr hlk dX4_goesScale_290 rfl
    · rw [if_neg h2] at hF
      refine zw_aload_n C dX4_goesScale_45 3 rfl rfl ?_
      refine zw_iload C dX4_goesScale_46 2 rfl ?_
      refine zw_if_ne C 65 dX4_goesScale_48 (by decide) (fun h34 => ?_) (fun h34 => ?_)
      · rw [if_neg h34] at hF
        refine zw_iload C dX4_goesScale_65 1 rfl ?_
        refine zw_i2l C dX4_goesScale_67 ?_
        refine zw_iload C dX4_goesScale_68 0 rfl ?_
        refine zw_i2l C dX4_goesScale_70 ?_
        refine zw_ladd C dX4_goesScale_71 ?_
        obtain ⟨q35, e36⟩ : ∃ z, fX4_tells M0 (((K2 p1.toNatClampNeg).toInt64) + ((K3 p1.toNatClampNeg).toInt64)) = z := ⟨_, rfl⟩
        rw [zw_l_eq e36] at hF
        refine zw_callv C kvX4_111 (kX4_tells e36) ⟨rfl, rfl, ⟨by decide, by decide⟩, by decide, by decide⟩ FX4 0 (As := [.long (((K2 p1.toNatClampNeg).toInt64) + ((K3 p1.toNatClampNeg).toInt64))]) (rest := []) rfl rfl rfl (Nat.le_of_ble_eq_true rfl) dX4_goesScale_72 ?_
        refine zw_goto C 290 dX4_goesScale_75 (by decide) ?_
        subst hF; dsimp only
        exact zw_return C hr hlk dX4_goesScale_290 rfl
      · rw [if_pos h34] at hF
        refine zw_aload_n C dX4_goesScale_51 3 rfl rfl ?_
        refine zw_get C FX4 0 1 (v := .ref (b 1)) rfl (by decide) lkX4_7 rfl dX4_goesScale_52 ?_
        refine zw_iconst C (v := 3) dX4_goesScale_55 (by decide) ?_
        refine zw_iload_n C dX4_goesScale_56 5 rfl rfl ?_
        refine zw_imul C dX4_goesScale_57 ?_
        refine zw_iload C dX4_goesScale_58 1 rfl ?_
        refine zw_iadd C dX4_goesScale_60 ?_
        refine zw_lald C 1 1 (f := B3) (i := ((3 * p2) + (K2 p1.toNatClampNeg))) rfl rfl (hy4 (by assumption)) dX4_goesScale_61 ?_
        refine zw_goto C 72 dX4_goesScale_62 (by decide) ?_
        obtain ⟨q37, e38⟩ : ∃ z, fX4_tells M0 (B3 ((3 * p2) + (K2 p1.toNatClampNeg)).toNatClampNeg) = z := ⟨_, rfl⟩
        rw [zw_l_eq e38] at hF
        refine zw_callv C kvX4_111 (kX4_tells e38) ⟨rfl, rfl, ⟨by decide, by decide⟩, by decide, by decide⟩ FX4 0 (As := [.long (B3 ((3 * p2) + (K2 p1.toNatClampNeg)).toNatClampNeg)]) (rest := []) rfl rfl rfl (Nat.le_of_ble_eq_true rfl) dX4_goesScale_72 ?_
        refine zw_goto C 290 dX4_goesScale_75 (by decide) ?_
        subst hF; dsimp only
        exact zw_return C hr hlk dX4_goesScale_290 rfl
  · rw [if_pos h1] at hF
    refine zw_aload_n C dX4_goesScale_31 3 rfl rfl ?_
    refine zw_iconst C (v := 3) dX4_goesScale_32 (by decide) ?_
    refine zw_put C FX4 GX4 0 18 (v := .int 3) (ws2 := (wM cI cL b B0 B1 B2 B3 B4 B5 B6 K0 K1 K2 K3 K4 E0 M0 M1 M2 M3 M4 M5 M6 3 U0 U1 U2 U3 U4 U5 G0 G1 G2 G3 G4 N0 N1 N2 N3)) rfl (by decide) lkX4_98 rfl rfl rfl (Nat.le_of_ble_eq_true rfl) rfl dX4_goesScale_33 ?_
    refine zw_goto C 290 dX4_goesScale_36 (by decide) ?_
    subst hF; dsimp only
    exact zw_return C hr hlk dX4_goesScale_290 rfl
def fX4_goesSieve (K1 : (Nat → Int32)) (K2 : (Nat → Int32)) (K3 : (Nat → Int32)) (E0 : (Nat → Int32)) (M0 : Int32) (M1 : (Nat → Int32)) (M2 : (Nat → Int32)) (M3 : (Nat → Int32)) (M4 : (Nat → Int32)) (M5 : (Nat → Int64)) (M6 : Int64) (M7 : Int32) (U0 : Int32) (U2 : Int32) (p1 : Int32) (p2 : Int32) (p3 : Int32) (p4 : Int64) : (Nat → Int32) × Int32 × (Nat → Int32) × (Nat → Int32) × (Nat → Int32) × (Nat → Int32) × (Nat → Int64) × Int64 × Int32 × Int32 × Int32 := (if (K1 p1.toNatClampNeg) = 9 then (E0, M0, M1, M2, M3, M4, M5, M6, 3, U0, U2) else (if (K1 p1.toNatClampNeg) = 0 then (zw_l (fX4_tells M0 1) (fun q80 => (E0, q80.1, M1, M2, M3, M4, M5, q80.2, M7, U0, U2))) else (if (K1 p1.toNatClampNeg) = 6 then (if 1 ≤ (K2 p1.toNatClampNeg) then (if ((upd E0 p1.toNatClampNeg ((E0 p1.toNatClampNeg) + 1)) p1.toNatClampNeg) = (K2 p1.toNatClampNeg) then (zw_l (fX4_tells M0 1) (fun q73 => (upd (upd E0 p1.toNatClampNeg ((E0 p1.toNatClampNeg) + 1)) p1.toNatClampNeg 0, q73.1, M1, M2, M3, M4, M5, q73.2, M7, U0, U2))) else (zw_l (fX4_tells M0 0) (fun q71 => (upd (upd E0 p1.toNatClampNeg ((E0 p1.toNatClampNeg) + 1)) p1.toNatClampNeg ((upd E0 p1.toNatClampNeg ((E0 p1.toNatClampNeg) + 1)) p1.toNatClampNeg), q71.1, M1, M2, M3, M4, M5, q71.2, M7, U0, U2)))) else (if ((upd E0 p1.toNatClampNeg ((E0 p1.toNatClampNeg) + 1)) p1.toNatClampNeg) = 1 then (zw_l (fX4_tells M0 1) (fun q78 => (upd (upd E0 p1.toNatClampNeg ((E0 p1.toNatClampNeg) + 1)) p1.toNatClampNeg 0, q78.1, M1, M2, M3, M4, M5, q78.2, M7, U0, U2))) else (zw_l (fX4_tells M0 0) (fun q76 => (upd (upd E0 p1.toNatClampNeg ((E0 p1.toNatClampNeg) + 1)) p1.toNatClampNeg ((upd E0 p1.toNatClampNeg ((E0 p1.toNatClampNeg) + 1)) p1.toNatClampNeg), q76.1, M1, M2, M3, M4, M5, q76.2, M7, U0, U2))))) else (if (K1 p1.toNatClampNeg) = 7 then (if (K2 p1.toNatClampNeg) ≤ p2 then (zw_l (fX4_tells M0 0) (fun q65 => (E0, q65.1, M1, M2, M3, M4, M5, q65.2, M7, U0, U2))) else (zw_l (fX4_tells M0 1) (fun q67 => (E0, q67.1, M1, M2, M3, M4, M5, q67.2, M7, U0, U2)))) else (if p3 = 0 then (if 3 ≤ (K1 p1.toNatClampNeg) then (zw_l (fX4_begins M0 M1 M2 M3 M4 M7 U0 U2 1 (K2 p1.toNatClampNeg) p2 p2) (fun q60 => (E0, q60.1, q60.2.1, q60.2.2.1, q60.2.2.2.1, q60.2.2.2.2.1, M5, M6, q60.2.2.2.2.2.1, q60.2.2.2.2.2.2.1, q60.2.2.2.2.2.2.2))) else (zw_l (fX4_begins M0 M1 M2 M3 M4 M7 U0 U2 0 (K2 p1.toNatClampNeg) p2 p2) (fun q62 => (E0, q62.1, q62.2.1, q62.2.2.1, q62.2.2.2.1, q62.2.2.2.2.1, M5, M6, q62.2.2.2.2.2.1, q62.2.2.2.2.2.2.1, q62.2.2.2.2.2.2.2)))) else (if (K1 p1.toNatClampNeg) = 3 then (zw_l (fX4_tells M0 (1 - p4)) (fun q57 => (E0, q57.1, M1, M2, M3, M4, M5, q57.2, M7, U0, U2))) else (if (K1 p1.toNatClampNeg) = 8 then (zw_l (fX4_tells M0 p4) (fun q55 => (E0, q55.1, M1, M2, M3, M4, M5, q55.2, M7, U0, U2))) else (if p3 = 1 then (if (K1 p1.toNatClampNeg) = 4 then (if (lg_cmp p4 0) = 0 then (zw_l (fX4_tells M0 p4) (fun q39 => (E0, q39.1, M1, M2, M3, M4, M5, q39.2, M7, U0, U2))) else (if (K1 p1.toNatClampNeg) = 5 then (if (lg_cmp p4 1) = 0 then (zw_l (fX4_tells M0 p4) (fun q53 => (E0, q53.1, M1, M2, M3, M4, M5, q53.2, M7, U0, U2))) else (if 3 ≤ (K1 p1.toNatClampNeg) then (zw_l (fX4_begins M0 M1 M2 M3 M4 M7 U0 U2 1 (K3 p1.toNatClampNeg) p2 p2) (fun q49 => (E0, q49.1, q49.2.1, q49.2.2.1, q49.2.2.2.1, q49.2.2.2.2.1, (vp_updL M5 (M0 - 1).toNatClampNeg p4), M6, q49.2.2.2.2.2.1, q49.2.2.2.2.2.2.1, q49.2.2.2.2.2.2.2))) else (zw_l (fX4_begins M0 M1 M2 M3 M4 M7 U0 U2 0 (K3 p1.toNatClampNeg) p2 p2) (fun q51 => (E0, q51.1, q51.2.1, q51.2.2.1, q51.2.2.2.1, q51.2.2.2.2.1, (vp_updL M5 (M0 - 1).toNatClampNeg p4), M6, q51.2.2.2.2.2.1, q51.2.2.2.2.2.2.1, q51.2.2.2.2.2.2.2))))) else (if 3 ≤ (K1 p1.toNatClampNeg) then (zw_l (fX4_begins M0 M1 M2 M3 M4 M7 U0 U2 1 (K3 p1.toNatClampNeg) p2 p2) (fun q43 => (E0, q43.1, q43.2.1, q43.2.2.1, q43.2.2.2.1, q43.2.2.2.2.1, (vp_updL M5 (M0 - 1).toNatClampNeg p4), M6, q43.2.2.2.2.2.1, q43.2.2.2.2.2.2.1, q43.2.2.2.2.2.2.2))) else (zw_l (fX4_begins M0 M1 M2 M3 M4 M7 U0 U2 0 (K3 p1.toNatClampNeg) p2 p2) (fun q45 => (E0, q45.1, q45.2.1, q45.2.2.1, q45.2.2.2.1, q45.2.2.2.2.1, (vp_updL M5 (M0 - 1).toNatClampNeg p4), M6, q45.2.2.2.2.2.1, q45.2.2.2.2.2.2.1, q45.2.2.2.2.2.2.2)))))) else (if (K1 p1.toNatClampNeg) = 5 then (if (lg_cmp p4 1) = 0 then (zw_l (fX4_tells M0 p4) (fun q36 => (E0, q36.1, M1, M2, M3, M4, M5, q36.2, M7, U0, U2))) else (if 3 ≤ (K1 p1.toNatClampNeg) then (zw_l (fX4_begins M0 M1 M2 M3 M4 M7 U0 U2 1 (K3 p1.toNatClampNeg) p2 p2) (fun q32 => (E0, q32.1, q32.2.1, q32.2.2.1, q32.2.2.2.1, q32.2.2.2.2.1, (vp_updL M5 (M0 - 1).toNatClampNeg p4), M6, q32.2.2.2.2.2.1, q32.2.2.2.2.2.2.1, q32.2.2.2.2.2.2.2))) else (zw_l (fX4_begins M0 M1 M2 M3 M4 M7 U0 U2 0 (K3 p1.toNatClampNeg) p2 p2) (fun q34 => (E0, q34.1, q34.2.1, q34.2.2.1, q34.2.2.2.1, q34.2.2.2.2.1, (vp_updL M5 (M0 - 1).toNatClampNeg p4), M6, q34.2.2.2.2.2.1, q34.2.2.2.2.2.2.1, q34.2.2.2.2.2.2.2))))) else (if 3 ≤ (K1 p1.toNatClampNeg) then (zw_l (fX4_begins M0 M1 M2 M3 M4 M7 U0 U2 1 (K3 p1.toNatClampNeg) p2 p2) (fun q26 => (E0, q26.1, q26.2.1, q26.2.2.1, q26.2.2.2.1, q26.2.2.2.2.1, (vp_updL M5 (M0 - 1).toNatClampNeg p4), M6, q26.2.2.2.2.2.1, q26.2.2.2.2.2.2.1, q26.2.2.2.2.2.2.2))) else (zw_l (fX4_begins M0 M1 M2 M3 M4 M7 U0 U2 0 (K3 p1.toNatClampNeg) p2 p2) (fun q28 => (E0, q28.1, q28.2.1, q28.2.2.1, q28.2.2.2.1, q28.2.2.2.2.1, (vp_updL M5 (M0 - 1).toNatClampNeg p4), M6, q28.2.2.2.2.2.1, q28.2.2.2.2.2.2.1, q28.2.2.2.2.2.2.2)))))) else (if (K1 p1.toNatClampNeg) = 1 then (if (lg_cmp (M5 (M0 - 1).toNatClampNeg) p4) ≤ 0 then (zw_l (fX4_tells M0 0) (fun q19 => (E0, q19.1, M1, M2, M3, M4, M5, q19.2, M7, U0, U2))) else (zw_l (fX4_tells M0 1) (fun q21 => (E0, q21.1, M1, M2, M3, M4, M5, q21.2, M7, U0, U2)))) else (if (K1 p1.toNatClampNeg) = 2 then (if (lg_cmp (M5 (M0 - 1).toNatClampNeg) p4) = 0 then (zw_l (fX4_tells M0 1) (fun q16 => (E0, q16.1, M1, M2, M3, M4, M5, q16.2, M7, U0, U2))) else (zw_l (fX4_tells M0 0) (fun q14 => (E0, q14.1, M1, M2, M3, M4, M5, q14.2, M7, U0, U2)))) else (zw_l (fX4_tells M0 p4) (fun q11 => (E0, q11.1, M1, M2, M3, M4, M5, q11.2, M7, U0, U2)))))))))))))
set_option maxHeartbeats 4000000 in
set_option maxRecDepth 100000 in
theorem kX4_goesSieve {l : Launch} {D : va_G} {cI cL : ClassId} {b : Nat → Nat} {B0 : Int32} {B1 : Int32} {B2 : Int64} {B3 : (Nat → Int64)} {B4 : (Nat → Int64)} {B5 : (Nat → Int32)} {B6 : (Nat → Int32)} {K0 : (Nat → Int32)} {K1 : (Nat → Int32)} {K2 : (Nat → Int32)} {K3 : (Nat → Int32)} {K4 : (Nat → Int64)} {E0 : (Nat → Int32)} {M0 : Int32} {M1 : (Nat → Int32)} {M2 : (Nat → Int32)} {M3 : (Nat → Int32)} {M4 : (Nat → Int32)} {M5 : (Nat → Int64)} {M6 : Int64} {M7 : Int32} {U0 : Int32} {U1 : Int32} {U2 : Int32} {U3 : Int32} {U4 : Int32} {U5 : Int32} {G0 : Int32} {G1 : (Nat → Int64)} {G2 : (Nat → Int32)} {G3 : (Nat → Int64)} {G4 : (Nat → Int32)} {N0 : (Nat → Int64)} {N1 : (Nat → Int32)} {N2 : (Nat → Int64)} {N3 : (Nat → Int32)} {p1 : Int32} {p2 : Int32} {p3 : Int32} {p4 : Int64} {q : (Nat → Int32) × Int32 × (Nat → Int32) × (Nat → Int32) × (Nat → Int32) × (Nat → Int32) × (Nat → Int64) × Int64 × Int32 × Int32 × Int32} (hy1 : vp_in p1 72) (hy2 : vp_in M0 80) (hy3 : vp_in (M0 - 1) 80) (hF : fX4_goesSieve K1 K2 K3 E0 M0 M1 M2 M3 M4 M5 M6 M7 U0 U2 p1 p2 p3 p4 = q) : zw_Mv l yX4_goesSieve cX4_goesSieve 10 D (zw_tys cI cL) (zw_rm 1 24) [.ref (b 0), .int p1, .int p2, .int p3, .long p4] (wM cI cL b B0 B1 B2 B3 B4 B5 B6 K0 K1 K2 K3 K4 E0 M0 M1 M2 M3 M4 M5 M6 M7 U0 U1 U2 U3 U4 U5 G0 G1 G2 G3 G4 N0 N1 N2 N3) (wM cI cL b B0 B1 B2 B3 B4 B5 B6 K0 K1 K2 K3 K4 q.1 q.2.1 q.2.2.1 q.2.2.2.1 q.2.2.2.2.1 q.2.2.2.2.2.1 q.2.2.2.2.2.2.1 q.2.2.2.2.2.2.2.1 q.2.2.2.2.2.2.2.2.1 q.2.2.2.2.2.2.2.2.2.1 U1 q.2.2.2.2.2.2.2.2.2.2 U3 U4 U5 G0 G1 G2 G3 G4 N0 N1 N2 N3) := by
  unfold fX4_goesSieve at hF
  refine zw_Mv_of (own := RX4) (by decide) rfl (Nat.le_of_ble_eq_true rfl) ?_
  intro p e s m args below meth c A C hr hlk
  refine zw_eq (lv2 := [(0, .ref (b 0)), (1, .int p1), (2, .int p2), (3, .int p3), (4, .long p4)]) rfl rfl rfl ?_
  refine zw_aload_n C dX4_goesSieve_0 0 rfl rfl ?_
  refine zw_get C FX4 0 6 (v := .ref (b 5)) rfl (by decide) lkX4_23 rfl dX4_goesSieve_1 ?_
  refine zw_iload_n C dX4_goesSieve_4 1 rfl rfl ?_
  refine zw_iald C 5 0 (f := K1) (i := p1) rfl rfl hy1 dX4_goesSieve_5 ?_
  refine zw_istore C dX4_goesSieve_6 (by decide) rfl ?_
  refine zw_aload_n C dX4_goesSieve_8 1 rfl rfl ?_
  refine zw_get C FX4 0 7 (v := .ref (b 6)) rfl (by decide) lkX4_26 rfl dX4_goesSieve_9 ?_
  refine zw_iload_n C dX4_goesSieve_12 2 rfl rfl ?_
  refine zw_iald C 6 0 (f := K2) (i := p1) rfl rfl hy1 dX4_goesSieve_13 ?_
  refine zw_istore C dX4_goesSieve_14 (by decide) rfl ?_
  refine zw_iload C dX4_goesSieve_16 1 rfl ?_
  refine zw_bipush C (v := 9) dX4_goesSieve_18 (by decide) ?_
  refine zw_icmp_ne C 31 dX4_goesSieve_20 (by decide) (fun h1 => ?_) (fun h1 => ?_)
  · rw [if_neg h1] at hF
    refine zw_iload C dX4_goesSieve_31 1 rfl ?_
    refine zw_if_ne C 44 dX4_goesSieve_33 (by decide) (fun h2 => ?_) (fun h2 => ?_)
    · rw [if_neg h2] at hF
      refine zw_iload C dX4_goesSieve_44 1 rfl ?_
      refine zw_bipush C (v := 6) dX4_goesSieve_46 (by decide) ?_
      refine zw_icmp_ne C 131 dX4_goesSieve_48 (by decide) (fun h3 => ?_) (fun h3 => ?_)
      · rw [if_neg h3] at hF
        refine zw_iload C dX4_goesSieve_131 1 rfl ?_
        refine zw_bipush C (v := 7) dX4_goesSieve_133 (by decide) ?_
        refine zw_icmp_ne C 156 dX4_goesSieve_135 (by decide) (fun h4 => ?_) (fun h4 => ?_)
        · rw [if_neg h4] at hF
          refine zw_iload_n C dX4_goesSieve_156 5 rfl rfl ?_
          refine zw_if_ne C 182 dX4_goesSieve_157 (by decide) (fun h5 => ?_) (fun h5 => ?_)
          · rw [if_neg h5] at hF
            refine zw_iload C dX4_goesSieve_182 1 rfl ?_
            refine zw_iconst C (v := 3) dX4_goesSieve_184 (by decide) ?_
            refine zw_icmp_ne C 199 dX4_goesSieve_185 (by decide) (fun h6 => ?_) (fun h6 => ?_)
            · rw [if_neg h6] at hF
              refine zw_iload C dX4_goesSieve_199 1 rfl ?_
              refine zw_bipush C (v := 8) dX4_goesSieve_201 (by decide) ?_
              refine zw_icmp_ne C 215 dX4_goesSieve_203 (by decide) (fun h7 => ?_) (fun h7 => ?_)
              · rw [if_neg h7] at hF
                refine zw_iload_n C dX4_goesSieve_215 5 rfl rfl ?_
                refine zw_iconst C (v := 1) dX4_goesSieve_216 (by decide) ?_
                refine zw_icmp_ne C 294 dX4_goesSieve_217 (by decide) (fun h8 => ?_) (fun h8 => ?_)
                · rw [if_neg h8] at hF
                  refine zw_aload_n C dX4_goesSieve_294 2 rfl rfl ?_
                  refine zw_get C FX4 0 16 (v := .ref (b 14)) rfl (by decide) lkX4_50 rfl dX4_goesSieve_295 ?_
                  refine zw_aload_n C dX4_goesSieve_298 2 rfl rfl ?_
                  refine zw_get C FX4 0 11 (v := .int M0) rfl (by decide) lkX4_104 rfl dX4_goesSieve_299 ?_
                  refine zw_iconst C (v := 1) dX4_goesSieve_302 (by decide) ?_
                  refine zw_isub C dX4_goesSieve_303 ?_
                  refine zw_lald C 14 1 (f := M5) (i := (M0 - 1)) rfl rfl hy3 dX4_goesSieve_304 ?_
                  refine zw_lstore C dX4_goesSieve_305 (by decide) rfl ?_
                  refine zw_aload_n C dX4_goesSieve_307 3 rfl rfl ?_
                  refine zw_iload C dX4_goesSieve_308 2 rfl ?_
                  refine zw_iconst C (v := 1) dX4_goesSieve_310 (by decide) ?_
                  refine zw_icmp_ne C 330 dX4_goesSieve_311 (by decide) (fun h9 => ?_) (fun h9 => ?_)
                  · rw [if_neg h9] at hF
                    refine zw_iload C dX4_goesSieve_330 2 rfl ?_
                    refine zw_iconst C (v := 2) dX4_goesSieve_332 (by decide) ?_
                    refine zw_icmp_ne C 352 dX4_goesSieve_333 (by decide) (fun h10 => ?_) (fun h10 => ?_)
                    · rw [if_neg h10] at hF
                      refine zw_lload C dX4_goesSieve_352 7 rfl ?_
                      obtain ⟨q11, e12⟩ : ∃ z, fX4_tells M0 p4 = z := ⟨_, rfl⟩
                      rw [zw_l_eq e12] at hF
                      refine zw_callv C kvX4_111 (kX4_tells e12) ⟨rfl, rfl, ⟨by decide, by decide⟩, by decide, by decide⟩ FX4 0 (As := [.long p4]) (rest := []) rfl rfl rfl (Nat.le_of_ble_eq_true rfl) dX4_goesSieve_354 ?_
                      subst hF; dsimp only
                      exact zw_return C hr hlk dX4_goesSieve_357 rfl
                    · rw [if_pos h10] at hF
                      refine zw_lload C dX4_goesSieve_336 0 rfl ?_
                      refine zw_lload C dX4_goesSieve_338 7 rfl ?_
                      refine zw_lcmp C dX4_goesSieve_340 ?_
                      refine zw_if_ne C 348 dX4_goesSieve_341 (by decide) (fun h13 => ?_) (fun h13 => ?_)
                      · rw [if_neg h13] at hF
                        refine zw_lconst C (v := 0) dX4_goesSieve_348 (by decide) ?_
                        refine zw_goto C 354 dX4_goesSieve_349 (by decide) ?_
                        obtain ⟨q14, e15⟩ : ∃ z, fX4_tells M0 0 = z := ⟨_, rfl⟩
                        rw [zw_l_eq e15] at hF
                        refine zw_callv C kvX4_111 (kX4_tells e15) ⟨rfl, rfl, ⟨by decide, by decide⟩, by decide, by decide⟩ FX4 0 (As := [.long 0]) (rest := []) rfl rfl rfl (Nat.le_of_ble_eq_true rfl) dX4_goesSieve_354 ?_
                        subst hF; dsimp only
                        exact zw_return C hr hlk dX4_goesSieve_357 rfl
                      · rw [if_pos h13] at hF
                        refine zw_lconst C (v := 1) dX4_goesSieve_344 (by decide) ?_
                        refine zw_goto C 354 dX4_goesSieve_345 (by decide) ?_
                        obtain ⟨q16, e17⟩ : ∃ z, fX4_tells M0 1 = z := ⟨_, rfl⟩
                        rw [zw_l_eq e17] at hF
                        refine zw_callv C kvX4_111 (kX4_tells e17) ⟨rfl, rfl, ⟨by decide, by decide⟩, by decide, by decide⟩ FX4 0 (As := [.long 1]) (rest := []) rfl rfl rfl (Nat.le_of_ble_eq_true rfl) dX4_goesSieve_354 ?_
                        subst hF; dsimp only
                        exact zw_return C hr hlk dX4_goesSieve_357 rfl
                  · rw [if_pos h9] at hF
                    refine zw_lload C dX4_goesSieve_314 0 rfl ?_
                    refine zw_lload C dX4_goesSieve_316 7 rfl ?_
                    refine zw_lcmp C dX4_goesSieve_318 ?_
                    refine zw_if_le C 326 dX4_goesSieve_319 (by decide) (fun h18 => ?_) (fun h18 => ?_)
                    · rw [if_pos h18] at hF
                      refine zw_lconst C (v := 0) dX4_goesSieve_326 (by decide) ?_
                      refine zw_goto C 354 dX4_goesSieve_327 (by decide) ?_
                      obtain ⟨q19, e20⟩ : ∃ z, fX4_tells M0 0 = z := ⟨_, rfl⟩
                      rw [zw_l_eq e20] at hF
                      refine zw_callv C kvX4_111 (kX4_tells e20) ⟨rfl, rfl, ⟨by decide, by decide⟩, by decide, by decide⟩ FX4 0 (As := [.long 0]) (rest := []) rfl rfl rfl (Nat.le_of_ble_eq_true rfl) dX4_goesSieve_354 ?_
                      subst hF; dsimp only
                      exact zw_return C hr hlk dX4_goesSieve_357 rfl
                    · rw [if_neg h18] at hF
                      refine zw_lconst C (v := 1) dX4_goesSieve_322 (by decide) ?_
                      refine zw_goto C 354 dX4_goesSieve_323 (by decide) ?_
                      obtain ⟨q21, e22⟩ : ∃ z, fX4_tells M0 1 = z := ⟨_, rfl⟩
                      rw [zw_l_eq e22] at hF
                      refine zw_callv C kvX4_111 (kX4_tells e22) ⟨rfl, rfl, ⟨by decide, by decide⟩, by decide, by decide⟩ FX4 0 (As := [.long 1]) (rest := []) rfl rfl rfl (Nat.le_of_ble_eq_true rfl) dX4_goesSieve_354 ?_
                      subst hF; dsimp only
                      exact zw_return C hr hlk dX4_goesSieve_357 rfl
                · rw [if_pos h8] at hF
                  refine zw_iload C dX4_goesSieve_220 1 rfl ?_
                  refine zw_iconst C (v := 4) dX4_goesSieve_222 (by decide) ?_
                  refine zw_icmp_ne C 233 dX4_goesSieve_223 (by decide) (fun h23 => ?_) (fun h23 => ?_)
                  · rw [if_neg h23] at hF
                    refine zw_iload C dX4_goesSieve_233 1 rfl ?_
                    refine zw_iconst C (v := 5) dX4_goesSieve_235 (by decide) ?_
                    refine zw_icmp_ne C 255 dX4_goesSieve_236 (by decide) (fun h24 => ?_) (fun h24 => ?_)
                    · rw [if_neg h24] at hF
                      refine zw_aload_n C dX4_goesSieve_255 2 rfl rfl ?_
                      refine zw_get C FX4 0 16 (v := .ref (b 14)) rfl (by decide) lkX4_50 rfl dX4_goesSieve_256 ?_
                      refine zw_aload_n C dX4_goesSieve_259 2 rfl rfl ?_
                      refine zw_get C FX4 0 11 (v := .int M0) rfl (by decide) lkX4_104 rfl dX4_goesSieve_260 ?_
                      refine zw_iconst C (v := 1) dX4_goesSieve_263 (by decide) ?_
                      refine zw_isub C dX4_goesSieve_264 ?_
                      refine zw_lload C dX4_goesSieve_265 6 rfl ?_
                      refine zw_last C 14 1 (f := M5) (i := (M0 - 1)) (ws2 := (wM cI cL b B0 B1 B2 B3 B4 B5 B6 K0 K1 K2 K3 K4 E0 M0 M1 M2 M3 M4 (vp_updL M5 (M0 - 1).toNatClampNeg p4) M6 M7 U0 U1 U2 U3 U4 U5 G0 G1 G2 G3 G4 N0 N1 N2 N3)) rfl rfl hy3 rfl dX4_goesSieve_267 ?_
                      refine zw_aload_n C dX4_goesSieve_268 2 rfl rfl ?_
                      refine zw_iload C dX4_goesSieve_269 1 rfl ?_
                      refine zw_iconst C (v := 3) dX4_goesSieve_271 (by decide) ?_
                      refine zw_icmp_ge C 279 dX4_goesSieve_272 (by decide) (fun h25 => ?_) (fun h25 => ?_)
                      · rw [if_pos h25] at hF
                        refine zw_iconst C (v := 1) dX4_goesSieve_279 (by decide) ?_
                        refine zw_aload_n C dX4_goesSieve_280 2 rfl rfl ?_
                        refine zw_get C FX4 0 8 (v := .ref (b 7)) rfl (by decide) lkX4_29 rfl dX4_goesSieve_281 ?_
                        refine zw_iload_n C dX4_goesSieve_284 3 rfl rfl ?_
                        refine zw_iald C 7 0 (f := K3) (i := p1) rfl rfl hy1 dX4_goesSieve_285 ?_
                        refine zw_iload_n C dX4_goesSieve_286 4 rfl rfl ?_
                        refine zw_iload_n C dX4_goesSieve_287 4 rfl rfl ?_
                        obtain ⟨q26, e27⟩ : ∃ z, fX4_begins M0 M1 M2 M3 M4 M7 U0 U2 1 (K3 p1.toNatClampNeg) p2 p2 = z := ⟨_, rfl⟩
                        rw [zw_l_eq e27] at hF
                        refine zw_callv C kvX4_115 (kX4_begins hy2 e27) ⟨rfl, rfl, ⟨by decide, by decide⟩, by decide, by decide⟩ FX4 0 (As := [.int 1, .int (K3 p1.toNatClampNeg), .int p2, .int p2]) (rest := []) rfl rfl rfl (Nat.le_of_ble_eq_true rfl) dX4_goesSieve_288 ?_
                        refine zw_goto C 357 dX4_goesSieve_291 (by decide) ?_
                        subst hF; dsimp only
                        exact zw_return C hr hlk dX4_goesSieve_357 rfl
                      · rw [if_neg h25] at hF
                        refine zw_iconst C (v := 0) dX4_goesSieve_275 (by decide) ?_
                        refine zw_goto C 280 dX4_goesSieve_276 (by decide) ?_
                        refine zw_aload_n C dX4_goesSieve_280 2 rfl rfl ?_
                        refine zw_get C FX4 0 8 (v := .ref (b 7)) rfl (by decide) lkX4_29 rfl dX4_goesSieve_281 ?_
                        refine zw_iload_n C dX4_goesSieve_284 3 rfl rfl ?_
                        refine zw_iald C 7 0 (f := K3) (i := p1) rfl rfl hy1 dX4_goesSieve_285 ?_
                        refine zw_iload_n C dX4_goesSieve_286 4 rfl rfl ?_
                        refine zw_iload_n C dX4_goesSieve_287 4 rfl rfl ?_
                        obtain ⟨q28, e29⟩ : ∃ z, fX4_begins M0 M1 M2 M3 M4 M7 U0 U2 0 (K3 p1.toNatClampNeg) p2 p2 = z := ⟨_, rfl⟩
                        rw [zw_l_eq e29] at hF
                        refine zw_callv C kvX4_115 (kX4_begins hy2 e29) ⟨rfl, rfl, ⟨by decide, by decide⟩, by decide, by decide⟩ FX4 0 (As := [.int 0, .int (K3 p1.toNatClampNeg), .int p2, .int p2]) (rest := []) rfl rfl rfl (Nat.le_of_ble_eq_true rfl) dX4_goesSieve_288 ?_
                        refine zw_goto C 357 dX4_goesSieve_291 (by decide) ?_
                        subst hF; dsimp only
                        exact zw_return C hr hlk dX4_goesSieve_357 rfl
                    · rw [if_pos h24] at hF
                      refine zw_lload C dX4_goesSieve_239 6 rfl ?_
                      refine zw_lconst C (v := 1) dX4_goesSieve_241 (by decide) ?_
                      refine zw_lcmp C dX4_goesSieve_242 ?_
                      refine zw_if_ne C 255 dX4_goesSieve_243 (by decide) (fun h30 => ?_) (fun h30 => ?_)
                      · rw [if_neg h30] at hF
                        refine zw_aload_n C dX4_goesSieve_255 2 rfl rfl ?_
                        refine zw_get C FX4 0 16 (v := .ref (b 14)) rfl (by decide) lkX4_50 rfl dX4_goesSieve_256 ?_
                        refine zw_aload_n C dX4_goesSieve_259 2 rfl rfl ?_
                        refine zw_get C FX4 0 11 (v := .int M0) rfl (by decide) lkX4_104 rfl dX4_goesSieve_260 ?_
                        refine zw_iconst C (v := 1) dX4_goesSieve_263 (by decide) ?_
                        refine zw_isub C dX4_goesSieve_264 ?_
                        refine zw_lload C dX4_goesSieve_265 6 rfl ?_
                        refine zw_last C 14 1 (f := M5) (i := (M0 - 1)) (ws2 := (wM cI cL b B0 B1 B2 B3 B4 B5 B6 K0 K1 K2 K3 K4 E0 M0 M1 M2 M3 M4 (vp_updL M5 (M0 - 1).toNatClampNeg p4) M6 M7 U0 U1 U2 U3 U4 U5 G0 G1 G2 G3 G4 N0 N1 N2 N3)) rfl rfl hy3 rfl dX4_goesSieve_267 ?_
                        refine zw_aload_n C dX4_goesSieve_268 2 rfl rfl ?_
                        refine zw_iload C dX4_goesSieve_269 1 rfl ?_
                        refine zw_iconst C (v := 3) dX4_goesSieve_271 (by decide) ?_
                        refine zw_icmp_ge C 279 dX4_goesSieve_272 (by decide) (fun h31 => ?_) (fun h31 => ?_)
                        · rw [if_pos h31] at hF
                          refine zw_iconst C (v := 1) dX4_goesSieve_279 (by decide) ?_
                          refine zw_aload_n C dX4_goesSieve_280 2 rfl rfl ?_
                          refine zw_get C FX4 0 8 (v := .ref (b 7)) rfl (by decide) lkX4_29 rfl dX4_goesSieve_281 ?_
                          refine zw_iload_n C dX4_goesSieve_284 3 rfl rfl ?_
                          refine zw_iald C 7 0 (f := K3) (i := p1) rfl rfl hy1 dX4_goesSieve_285 ?_
                          refine zw_iload_n C dX4_goesSieve_286 4 rfl rfl ?_
                          refine zw_iload_n C dX4_goesSieve_287 4 rfl rfl ?_
                          obtain ⟨q32, e33⟩ : ∃ z, fX4_begins M0 M1 M2 M3 M4 M7 U0 U2 1 (K3 p1.toNatClampNeg) p2 p2 = z := ⟨_, rfl⟩
                          rw [zw_l_eq e33] at hF
                          refine zw_callv C kvX4_115 (kX4_begins hy2 e33) ⟨rfl, rfl, ⟨by decide, by decide⟩, by decide, by decide⟩ FX4 0 (As := [.int 1, .int (K3 p1.toNatClampNeg), .int p2, .int p2]) (rest := []) rfl rfl rfl (Nat.le_of_ble_eq_true rfl) dX4_goesSieve_288 ?_
                          refine zw_goto C 357 dX4_goesSieve_291 (by decide) ?_
                          subst hF; dsimp only
                          exact zw_return C hr hlk dX4_goesSieve_357 rfl
                        · rw [if_neg h31] at hF
                          refine zw_iconst C (v := 0) dX4_goesSieve_275 (by decide) ?_
                          refine zw_goto C 280 dX4_goesSieve_276 (by decide) ?_
                          refine zw_aload_n C dX4_goesSieve_280 2 rfl rfl ?_
                          refine zw_get C FX4 0 8 (v := .ref (b 7)) rfl (by decide) lkX4_29 rfl dX4_goesSieve_281 ?_
                          refine zw_iload_n C dX4_goesSieve_284 3 rfl rfl ?_
                          refine zw_iald C 7 0 (f := K3) (i := p1) rfl rfl hy1 dX4_goesSieve_285 ?_
                          refine zw_iload_n C dX4_goesSieve_286 4 rfl rfl ?_
                          refine zw_iload_n C dX4_goesSieve_287 4 rfl rfl ?_
                          obtain ⟨q34, e35⟩ : ∃ z, fX4_begins M0 M1 M2 M3 M4 M7 U0 U2 0 (K3 p1.toNatClampNeg) p2 p2 = z := ⟨_, rfl⟩
                          rw [zw_l_eq e35] at hF
                          refine zw_callv C kvX4_115 (kX4_begins hy2 e35) ⟨rfl, rfl, ⟨by decide, by decide⟩, by decide, by decide⟩ FX4 0 (As := [.int 0, .int (K3 p1.toNatClampNeg), .int p2, .int p2]) (rest := []) rfl rfl rfl (Nat.le_of_ble_eq_true rfl) dX4_goesSieve_288 ?_
                          refine zw_goto C 357 dX4_goesSieve_291 (by decide) ?_
                          subst hF; dsimp only
                          exact zw_return C hr hlk dX4_goesSieve_357 rfl
                      · rw [if_pos h30] at hF
                        refine zw_aload_n C dX4_goesSieve_246 2 rfl rfl ?_
                        refine zw_lload C dX4_goesSieve_247 6 rfl ?_
                        obtain ⟨q36, e37⟩ : ∃ z, fX4_tells M0 p4 = z := ⟨_, rfl⟩
                        rw [zw_l_eq e37] at hF
                        refine zw_callv C kvX4_111 (kX4_tells e37) ⟨rfl, rfl, ⟨by decide, by decide⟩, by decide, by decide⟩ FX4 0 (As := [.long p4]) (rest := []) rfl rfl rfl (Nat.le_of_ble_eq_true rfl) dX4_goesSieve_249 ?_
                        refine zw_goto C 357 dX4_goesSieve_252 (by decide) ?_
                        subst hF; dsimp only
                        exact zw_return C hr hlk dX4_goesSieve_357 rfl
                  · rw [if_pos h23] at hF
                    refine zw_lload C dX4_goesSieve_226 6 rfl ?_
                    refine zw_lconst C (v := 0) dX4_goesSieve_228 (by decide) ?_
                    refine zw_lcmp C dX4_goesSieve_229 ?_
                    refine zw_if_eq C 246 dX4_goesSieve_230 (by decide) (fun h38 => ?_) (fun h38 => ?_)
                    · rw [if_pos h38] at hF
                      refine zw_aload_n C dX4_goesSieve_246 2 rfl rfl ?_
                      refine zw_lload C dX4_goesSieve_247 6 rfl ?_
                      obtain ⟨q39, e40⟩ : ∃ z, fX4_tells M0 p4 = z := ⟨_, rfl⟩
                      rw [zw_l_eq e40] at hF
                      refine zw_callv C kvX4_111 (kX4_tells e40) ⟨rfl, rfl, ⟨by decide, by decide⟩, by decide, by decide⟩ FX4 0 (As := [.long p4]) (rest := []) rfl rfl rfl (Nat.le_of_ble_eq_true rfl) dX4_goesSieve_249 ?_
                      refine zw_goto C 357 dX4_goesSieve_252 (by decide) ?_
                      subst hF; dsimp only
                      exact zw_return C hr hlk dX4_goesSieve_357 rfl
                    · rw [if_neg h38] at hF
                      refine zw_iload C dX4_goesSieve_233 1 rfl ?_
                      refine zw_iconst C (v := 5) dX4_goesSieve_235 (by decide) ?_
                      refine zw_icmp_ne C 255 dX4_goesSieve_236 (by decide) (fun h41 => ?_) (fun h41 => ?_)
                      · rw [if_neg h41] at hF
                        refine zw_aload_n C dX4_goesSieve_255 2 rfl rfl ?_
                        refine zw_get C FX4 0 16 (v := .ref (b 14)) rfl (by decide) lkX4_50 rfl dX4_goesSieve_256 ?_
                        refine zw_aload_n C dX4_goesSieve_259 2 rfl rfl ?_
                        refine zw_get C FX4 0 11 (v := .int M0) rfl (by decide) lkX4_104 rfl dX4_goesSieve_260 ?_
                        refine zw_iconst C (v := 1) dX4_goesSieve_263 (by decide) ?_
                        refine zw_isub C dX4_goesSieve_264 ?_
                        refine zw_lload C dX4_goesSieve_265 6 rfl ?_
                        refine zw_last C 14 1 (f := M5) (i := (M0 - 1)) (ws2 := (wM cI cL b B0 B1 B2 B3 B4 B5 B6 K0 K1 K2 K3 K4 E0 M0 M1 M2 M3 M4 (vp_updL M5 (M0 - 1).toNatClampNeg p4) M6 M7 U0 U1 U2 U3 U4 U5 G0 G1 G2 G3 G4 N0 N1 N2 N3)) rfl rfl hy3 rfl dX4_goesSieve_267 ?_
                        refine zw_aload_n C dX4_goesSieve_268 2 rfl rfl ?_
                        refine zw_iload C dX4_goesSieve_269 1 rfl ?_
                        refine zw_iconst C (v := 3) dX4_goesSieve_271 (by decide) ?_
                        refine zw_icmp_ge C 279 dX4_goesSieve_272 (by decide) (fun h42 => ?_) (fun h42 => ?_)
                        · rw [if_pos h42] at hF
                          refine zw_iconst C (v := 1) dX4_goesSieve_279 (by decide) ?_
                          refine zw_aload_n C dX4_goesSieve_280 2 rfl rfl ?_
                          refine zw_get C FX4 0 8 (v := .ref (b 7)) rfl (by decide) lkX4_29 rfl dX4_goesSieve_281 ?_
                          refine zw_iload_n C dX4_goesSieve_284 3 rfl rfl ?_
                          refine zw_iald C 7 0 (f := K3) (i := p1) rfl rfl hy1 dX4_goesSieve_285 ?_
                          refine zw_iload_n C dX4_goesSieve_286 4 rfl rfl ?_
                          refine zw_iload_n C dX4_goesSieve_287 4 rfl rfl ?_
                          obtain ⟨q43, e44⟩ : ∃ z, fX4_begins M0 M1 M2 M3 M4 M7 U0 U2 1 (K3 p1.toNatClampNeg) p2 p2 = z := ⟨_, rfl⟩
                          rw [zw_l_eq e44] at hF
                          refine zw_callv C kvX4_115 (kX4_begins hy2 e44) ⟨rfl, rfl, ⟨by decide, by decide⟩, by decide, by decide⟩ FX4 0 (As := [.int 1, .int (K3 p1.toNatClampNeg), .int p2, .int p2]) (rest := []) rfl rfl rfl (Nat.le_of_ble_eq_true rfl) dX4_goesSieve_288 ?_
                          refine zw_goto C 357 dX4_goesSieve_291 (by decide) ?_
                          subst hF; dsimp only
                          exact zw_return C hr hlk dX4_goesSieve_357 rfl
                        · rw [if_neg h42] at hF
                          refine zw_iconst C (v := 0) dX4_goesSieve_275 (by decide) ?_
                          refine zw_goto C 280 dX4_goesSieve_276 (by decide) ?_
                          refine zw_aload_n C dX4_goesSieve_280 2 rfl rfl ?_
                          refine zw_get C FX4 0 8 (v := .ref (b 7)) rfl (by decide) lkX4_29 rfl dX4_goesSieve_281 ?_
                          refine zw_iload_n C dX4_goesSieve_284 3 rfl rfl ?_
                          refine zw_iald C 7 0 (f := K3) (i := p1) rfl rfl hy1 dX4_goesSieve_285 ?_
                          refine zw_iload_n C dX4_goesSieve_286 4 rfl rfl ?_
                          refine zw_iload_n C dX4_goesSieve_287 4 rfl rfl ?_
                          obtain ⟨q45, e46⟩ : ∃ z, fX4_begins M0 M1 M2 M3 M4 M7 U0 U2 0 (K3 p1.toNatClampNeg) p2 p2 = z := ⟨_, rfl⟩
                          rw [zw_l_eq e46] at hF
                          refine zw_callv C kvX4_115 (kX4_begins hy2 e46) ⟨rfl, rfl, ⟨by decide, by decide⟩, by decide, by decide⟩ FX4 0 (As := [.int 0, .int (K3 p1.toNatClampNeg), .int p2, .int p2]) (rest := []) rfl rfl rfl (Nat.le_of_ble_eq_true rfl) dX4_goesSieve_288 ?_
                          refine zw_goto C 357 dX4_goesSieve_291 (by decide) ?_
                          subst hF; dsimp only
                          exact zw_return C hr hlk dX4_goesSieve_357 rfl
                      · rw [if_pos h41] at hF
                        refine zw_lload C dX4_goesSieve_239 6 rfl ?_
                        refine zw_lconst C (v := 1) dX4_goesSieve_241 (by decide) ?_
                        refine zw_lcmp C dX4_goesSieve_242 ?_
                        refine zw_if_ne C 255 dX4_goesSieve_243 (by decide) (fun h47 => ?_) (fun h47 => ?_)
                        · rw [if_neg h47] at hF
                          refine zw_aload_n C dX4_goesSieve_255 2 rfl rfl ?_
                          refine zw_get C FX4 0 16 (v := .ref (b 14)) rfl (by decide) lkX4_50 rfl dX4_goesSieve_256 ?_
                          refine zw_aload_n C dX4_goesSieve_259 2 rfl rfl ?_
                          refine zw_get C FX4 0 11 (v := .int M0) rfl (by decide) lkX4_104 rfl dX4_goesSieve_260 ?_
                          refine zw_iconst C (v := 1) dX4_goesSieve_263 (by decide) ?_
                          refine zw_isub C dX4_goesSieve_264 ?_
                          refine zw_lload C dX4_goesSieve_265 6 rfl ?_
                          refine zw_last C 14 1 (f := M5) (i := (M0 - 1)) (ws2 := (wM cI cL b B0 B1 B2 B3 B4 B5 B6 K0 K1 K2 K3 K4 E0 M0 M1 M2 M3 M4 (vp_updL M5 (M0 - 1).toNatClampNeg p4) M6 M7 U0 U1 U2 U3 U4 U5 G0 G1 G2 G3 G4 N0 N1 N2 N3)) rfl rfl hy3 rfl dX4_goesSieve_267 ?_
                          refine zw_aload_n C dX4_goesSieve_268 2 rfl rfl ?_
                          refine zw_iload C dX4_goesSieve_269 1 rfl ?_
                          refine zw_iconst C (v := 3) dX4_goesSieve_271 (by decide) ?_
                          refine zw_icmp_ge C 279 dX4_goesSieve_272 (by decide) (fun h48 => ?_) (fun h48 => ?_)
                          · rw [if_pos h48] at hF
                            refine zw_iconst C (v := 1) dX4_goesSieve_279 (by decide) ?_
                            refine zw_aload_n C dX4_goesSieve_280 2 rfl rfl ?_
                            refine zw_get C FX4 0 8 (v := .ref (b 7)) rfl (by decide) lkX4_29 rfl dX4_goesSieve_281 ?_
                            refine zw_iload_n C dX4_goesSieve_284 3 rfl rfl ?_
                            refine zw_iald C 7 0 (f := K3) (i := p1) rfl rfl hy1 dX4_goesSieve_285 ?_
                            refine zw_iload_n C dX4_goesSieve_286 4 rfl rfl ?_
                            refine zw_iload_n C dX4_goesSieve_287 4 rfl rfl ?_
                            obtain ⟨q49, e50⟩ : ∃ z, fX4_begins M0 M1 M2 M3 M4 M7 U0 U2 1 (K3 p1.toNatClampNeg) p2 p2 = z := ⟨_, rfl⟩
                            rw [zw_l_eq e50] at hF
                            refine zw_callv C kvX4_115 (kX4_begins hy2 e50) ⟨rfl, rfl, ⟨by decide, by decide⟩, by decide, by decide⟩ FX4 0 (As := [.int 1, .int (K3 p1.toNatClampNeg), .int p2, .int p2]) (rest := []) rfl rfl rfl (Nat.le_of_ble_eq_true rfl) dX4_goesSieve_288 ?_
                            refine zw_goto C 357 dX4_goesSieve_291 (by decide) ?_
                            subst hF; dsimp only
                            exact zw_return C hr hlk dX4_goesSieve_357 rfl
                          · rw [if_neg h48] at hF
                            refine zw_iconst C (v := 0) dX4_goesSieve_275 (by decide) ?_
                            refine zw_goto C 280 dX4_goesSieve_276 (by decide) ?_
                            refine zw_aload_n C dX4_goesSieve_280 2 rfl rfl ?_
                            refine zw_get C FX4 0 8 (v := .ref (b 7)) rfl (by decide) lkX4_29 rfl dX4_goesSieve_281 ?_
                            refine zw_iload_n C dX4_goesSieve_284 3 rfl rfl ?_
                            refine zw_iald C 7 0 (f := K3) (i := p1) rfl rfl hy1 dX4_goesSieve_285 ?_
                            refine zw_iload_n C dX4_goesSieve_286 4 rfl rfl ?_
                            refine zw_iload_n C dX4_goesSieve_287 4 rfl rfl ?_
                            obtain ⟨q51, e52⟩ : ∃ z, fX4_begins M0 M1 M2 M3 M4 M7 U0 U2 0 (K3 p1.toNatClampNeg) p2 p2 = z := ⟨_, rfl⟩
                            rw [zw_l_eq e52] at hF
                            refine zw_callv C kvX4_115 (kX4_begins hy2 e52) ⟨rfl, rfl, ⟨by decide, by decide⟩, by decide, by decide⟩ FX4 0 (As := [.int 0, .int (K3 p1.toNatClampNeg), .int p2, .int p2]) (rest := []) rfl rfl rfl (Nat.le_of_ble_eq_true rfl) dX4_goesSieve_288 ?_
                            refine zw_goto C 357 dX4_goesSieve_291 (by decide) ?_
                            subst hF; dsimp only
                            exact zw_return C hr hlk dX4_goesSieve_357 rfl
                        · rw [if_pos h47] at hF
                          refine zw_aload_n C dX4_goesSieve_246 2 rfl rfl ?_
                          refine zw_lload C dX4_goesSieve_247 6 rfl ?_
                          obtain ⟨q53, e54⟩ : ∃ z, fX4_tells M0 p4 = z := ⟨_, rfl⟩
                          rw [zw_l_eq e54] at hF
                          refine zw_callv C kvX4_111 (kX4_tells e54) ⟨rfl, rfl, ⟨by decide, by decide⟩, by decide, by decide⟩ FX4 0 (As := [.long p4]) (rest := []) rfl rfl rfl (Nat.le_of_ble_eq_true rfl) dX4_goesSieve_249 ?_
                          refine zw_goto C 357 dX4_goesSieve_252 (by decide) ?_
                          subst hF; dsimp only
                          exact zw_return C hr hlk dX4_goesSieve_357 rfl
              · rw [if_pos h7] at hF
                refine zw_aload_n C dX4_goesSieve_206 2 rfl rfl ?_
                refine zw_lload C dX4_goesSieve_207 6 rfl ?_
                obtain ⟨q55, e56⟩ : ∃ z, fX4_tells M0 p4 = z := ⟨_, rfl⟩
                rw [zw_l_eq e56] at hF
                refine zw_callv C kvX4_111 (kX4_tells e56) ⟨rfl, rfl, ⟨by decide, by decide⟩, by decide, by decide⟩ FX4 0 (As := [.long p4]) (rest := []) rfl rfl rfl (Nat.le_of_ble_eq_true rfl) dX4_goesSieve_209 ?_
                refine zw_goto C 357 dX4_goesSieve_212 (by decide) ?_
                subst hF; dsimp only
                exact zw_return C hr hlk dX4_goesSieve_357 rfl
            · rw [if_pos h6] at hF
              refine zw_aload_n C dX4_goesSieve_188 2 rfl rfl ?_
              refine zw_lconst C (v := 1) dX4_goesSieve_189 (by decide) ?_
              refine zw_lload C dX4_goesSieve_190 6 rfl ?_
              refine zw_lsub C dX4_goesSieve_192 ?_
              obtain ⟨q57, e58⟩ : ∃ z, fX4_tells M0 (1 - p4) = z := ⟨_, rfl⟩
              rw [zw_l_eq e58] at hF
              refine zw_callv C kvX4_111 (kX4_tells e58) ⟨rfl, rfl, ⟨by decide, by decide⟩, by decide, by decide⟩ FX4 0 (As := [.long (1 - p4)]) (rest := []) rfl rfl rfl (Nat.le_of_ble_eq_true rfl) dX4_goesSieve_193 ?_
              refine zw_goto C 357 dX4_goesSieve_196 (by decide) ?_
              subst hF; dsimp only
              exact zw_return C hr hlk dX4_goesSieve_357 rfl
          · rw [if_pos h5] at hF
            refine zw_aload_n C dX4_goesSieve_160 2 rfl rfl ?_
            refine zw_iload C dX4_goesSieve_161 1 rfl ?_
            refine zw_iconst C (v := 3) dX4_goesSieve_163 (by decide) ?_
            refine zw_icmp_ge C 171 dX4_goesSieve_164 (by decide) (fun h59 => ?_) (fun h59 => ?_)
            · rw [if_pos h59] at hF
              refine zw_iconst C (v := 1) dX4_goesSieve_171 (by decide) ?_
              refine zw_iload C dX4_goesSieve_172 0 rfl ?_
              refine zw_iload_n C dX4_goesSieve_174 4 rfl rfl ?_
              refine zw_iload_n C dX4_goesSieve_175 4 rfl rfl ?_
              obtain ⟨q60, e61⟩ : ∃ z, fX4_begins M0 M1 M2 M3 M4 M7 U0 U2 1 (K2 p1.toNatClampNeg) p2 p2 = z := ⟨_, rfl⟩
              rw [zw_l_eq e61] at hF
              refine zw_callv C kvX4_115 (kX4_begins hy2 e61) ⟨rfl, rfl, ⟨by decide, by decide⟩, by decide, by decide⟩ FX4 0 (As := [.int 1, .int (K2 p1.toNatClampNeg), .int p2, .int p2]) (rest := []) rfl rfl rfl (Nat.le_of_ble_eq_true rfl) dX4_goesSieve_176 ?_
              refine zw_goto C 357 dX4_goesSieve_179 (by decide) ?_
              subst hF; dsimp only
              exact zw_return C hr hlk dX4_goesSieve_357 rfl
            · rw [if_neg h59] at hF
              refine zw_iconst C (v := 0) dX4_goesSieve_167 (by decide) ?_
              refine zw_goto C 172 dX4_goesSieve_168 (by decide) ?_
              refine zw_iload C dX4_goesSieve_172 0 rfl ?_
              refine zw_iload_n C dX4_goesSieve_174 4 rfl rfl ?_
              refine zw_iload_n C dX4_goesSieve_175 4 rfl rfl ?_
              obtain ⟨q62, e63⟩ : ∃ z, fX4_begins M0 M1 M2 M3 M4 M7 U0 U2 0 (K2 p1.toNatClampNeg) p2 p2 = z := ⟨_, rfl⟩
              rw [zw_l_eq e63] at hF
              refine zw_callv C kvX4_115 (kX4_begins hy2 e63) ⟨rfl, rfl, ⟨by decide, by decide⟩, by decide, by decide⟩ FX4 0 (As := [.int 0, .int (K2 p1.toNatClampNeg), .int p2, .int p2]) (rest := []) rfl rfl rfl (Nat.le_of_ble_eq_true rfl) dX4_goesSieve_176 ?_
              refine zw_goto C 357 dX4_goesSieve_179 (by decide) ?_
              subst hF; dsimp only
              exact zw_return C hr hlk dX4_goesSieve_357 rfl
        · rw [if_pos h4] at hF
          refine zw_aload_n C dX4_goesSieve_138 2 rfl rfl ?_
          refine zw_iload_n C dX4_goesSieve_139 4 rfl rfl ?_
          refine zw_iload C dX4_goesSieve_140 0 rfl ?_
          refine zw_icmp_ge C 149 dX4_goesSieve_142 (by decide) (fun h64 => ?_) (fun h64 => ?_)
          · rw [if_pos h64] at hF
            refine zw_lconst C (v := 0) dX4_goesSieve_149 (by decide) ?_
            obtain ⟨q65, e66⟩ : ∃ z, fX4_tells M0 0 = z := ⟨_, rfl⟩
            rw [zw_l_eq e66] at hF
            refine zw_callv C kvX4_111 (kX4_tells e66) ⟨rfl, rfl, ⟨by decide, by decide⟩, by decide, by decide⟩ FX4 0 (As := [.long 0]) (rest := []) rfl rfl rfl (Nat.le_of_ble_eq_true rfl) dX4_goesSieve_150 ?_
            refine zw_goto C 357 dX4_goesSieve_153 (by decide) ?_
            subst hF; dsimp only
            exact zw_return C hr hlk dX4_goesSieve_357 rfl
          · rw [if_neg h64] at hF
            refine zw_lconst C (v := 1) dX4_goesSieve_145 (by decide) ?_
            refine zw_goto C 150 dX4_goesSieve_146 (by decide) ?_
            obtain ⟨q67, e68⟩ : ∃ z, fX4_tells M0 1 = z := ⟨_, rfl⟩
            rw [zw_l_eq e68] at hF
            refine zw_callv C kvX4_111 (kX4_tells e68) ⟨rfl, rfl, ⟨by decide, by decide⟩, by decide, by decide⟩ FX4 0 (As := [.long 1]) (rest := []) rfl rfl rfl (Nat.le_of_ble_eq_true rfl) dX4_goesSieve_150 ?_
            refine zw_goto C 357 dX4_goesSieve_153 (by decide) ?_
            subst hF; dsimp only
            exact zw_return C hr hlk dX4_goesSieve_357 rfl
      · rw [if_pos h3] at hF
        refine zw_iload C dX4_goesSieve_51 0 rfl ?_
        refine zw_iconst C (v := 1) dX4_goesSieve_53 (by decide) ?_
        refine zw_icmp_ge C 61 dX4_goesSieve_54 (by decide) (fun h69 => ?_) (fun h69 => ?_)
        · rw [if_pos h69] at hF
          refine zw_iload C dX4_goesSieve_61 0 rfl ?_
          refine zw_istore C dX4_goesSieve_63 (by decide) rfl ?_
          refine zw_aload_n C dX4_goesSieve_65 3 rfl rfl ?_
          refine zw_get C FX4 0 10 (v := .ref (b 9)) rfl (by decide) lkX4_35 rfl dX4_goesSieve_66 ?_
          refine zw_iload_n C dX4_goesSieve_69 4 rfl rfl ?_
          refine zw_dup2_11 C dX4_goesSieve_70 rfl rfl ?_
          refine zw_iald C 9 0 (f := E0) (i := p1) rfl rfl hy1 dX4_goesSieve_71 ?_
          refine zw_iconst C (v := 1) dX4_goesSieve_72 (by decide) ?_
          refine zw_iadd C dX4_goesSieve_73 ?_
          refine zw_iast C 9 0 (f := E0) (i := p1) (ws2 := (wM cI cL b B0 B1 B2 B3 B4 B5 B6 K0 K1 K2 K3 K4 (upd E0 p1.toNatClampNeg ((E0 p1.toNatClampNeg) + 1)) M0 M1 M2 M3 M4 M5 M6 M7 U0 U1 U2 U3 U4 U5 G0 G1 G2 G3 G4 N0 N1 N2 N3)) rfl rfl hy1 rfl dX4_goesSieve_74 ?_
          refine zw_aload_n C dX4_goesSieve_75 3 rfl rfl ?_
          refine zw_get C FX4 0 10 (v := .ref (b 9)) rfl (by decide) lkX4_35 rfl dX4_goesSieve_76 ?_
          refine zw_iload_n C dX4_goesSieve_79 4 rfl rfl ?_
          refine zw_iald C 9 0 (f := (upd E0 p1.toNatClampNeg ((E0 p1.toNatClampNeg) + 1))) (i := p1) rfl rfl hy1 dX4_goesSieve_80 ?_
          refine zw_iload C dX4_goesSieve_81 0 rfl ?_
          refine zw_icmp_ne C 90 dX4_goesSieve_83 (by decide) (fun h70 => ?_) (fun h70 => ?_)
          · rw [if_neg h70] at hF
            refine zw_iconst C (v := 0) dX4_goesSieve_90 (by decide) ?_
            refine zw_istore C dX4_goesSieve_91 (by decide) rfl ?_
            refine zw_aload_n C dX4_goesSieve_93 4 rfl rfl ?_
            refine zw_get C FX4 0 10 (v := .ref (b 9)) rfl (by decide) lkX4_35 rfl dX4_goesSieve_94 ?_
            refine zw_iload_n C dX4_goesSieve_97 5 rfl rfl ?_
            refine zw_iload C dX4_goesSieve_98 0 rfl ?_
            refine zw_if_eq C 107 dX4_goesSieve_100 (by decide) (fun _ => ?_) (fun h => absurd h (by decide))
            refine zw_aload_n C dX4_goesSieve_107 4 rfl rfl ?_
            refine zw_get C FX4 0 10 (v := .ref (b 9)) rfl (by decide) lkX4_35 rfl dX4_goesSieve_108 ?_
            refine zw_iload_n C dX4_goesSieve_111 5 rfl rfl ?_
            refine zw_iald C 9 0 (f := (upd E0 p1.toNatClampNeg ((E0 p1.toNatClampNeg) + 1))) (i := p1) rfl rfl hy1 dX4_goesSieve_112 ?_
            refine zw_iast C 9 0 (f := (upd E0 p1.toNatClampNeg ((E0 p1.toNatClampNeg) + 1))) (i := p1) (ws2 := (wM cI cL b B0 B1 B2 B3 B4 B5 B6 K0 K1 K2 K3 K4 (upd (upd E0 p1.toNatClampNeg ((E0 p1.toNatClampNeg) + 1)) p1.toNatClampNeg ((upd E0 p1.toNatClampNeg ((E0 p1.toNatClampNeg) + 1)) p1.toNatClampNeg)) M0 M1 M2 M3 M4 M5 M6 M7 U0 U1 U2 U3 U4 U5 G0 G1 G2 G3 G4 N0 N1 N2 N3)) rfl rfl hy1 rfl dX4_goesSieve_113 ?_
            refine zw_aload_n C dX4_goesSieve_114 4 rfl rfl ?_
            refine zw_iload C dX4_goesSieve_115 0 rfl ?_
            refine zw_if_eq C 124 dX4_goesSieve_117 (by decide) (fun _ => ?_) (fun h => absurd h (by decide))
            refine zw_lconst C (v := 0) dX4_goesSieve_124 (by decide) ?_
            obtain ⟨q71, e72⟩ : ∃ z, fX4_tells M0 0 = z := ⟨_, rfl⟩
            rw [zw_l_eq e72] at hF
            refine zw_callv C kvX4_111 (kX4_tells e72) ⟨rfl, rfl, ⟨by decide, by decide⟩, by decide, by decide⟩ FX4 0 (As := [.long 0]) (rest := []) rfl rfl rfl (Nat.le_of_ble_eq_true rfl) dX4_goesSieve_125 ?_
            refine zw_goto C 357 dX4_goesSieve_128 (by decide) ?_
            subst hF; dsimp only
            exact zw_return C hr hlk dX4_goesSieve_357 rfl
          · rw [if_pos h70] at hF
            refine zw_iconst C (v := 1) dX4_goesSieve_86 (by decide) ?_
            refine zw_goto C 91 dX4_goesSieve_87 (by decide) ?_
            refine zw_istore C dX4_goesSieve_91 (by decide) rfl ?_
            refine zw_aload_n C dX4_goesSieve_93 4 rfl rfl ?_
            refine zw_get C FX4 0 10 (v := .ref (b 9)) rfl (by decide) lkX4_35 rfl dX4_goesSieve_94 ?_
            refine zw_iload_n C dX4_goesSieve_97 5 rfl rfl ?_
            refine zw_iload C dX4_goesSieve_98 0 rfl ?_
            refine zw_if_eq C 107 dX4_goesSieve_100 (by decide) (fun h => absurd h (by decide)) (fun _ => ?_)
            refine zw_iconst C (v := 0) dX4_goesSieve_103 (by decide) ?_
            refine zw_goto C 113 dX4_goesSieve_104 (by decide) ?_
            refine zw_iast C 9 0 (f := (upd E0 p1.toNatClampNeg ((E0 p1.toNatClampNeg) + 1))) (i := p1) (ws2 := (wM cI cL b B0 B1 B2 B3 B4 B5 B6 K0 K1 K2 K3 K4 (upd (upd E0 p1.toNatClampNeg ((E0 p1.toNatClampNeg) + 1)) p1.toNatClampNeg 0) M0 M1 M2 M3 M4 M5 M6 M7 U0 U1 U2 U3 U4 U5 G0 G1 G2 G3 G4 N0 N1 N2 N3)) rfl rfl hy1 rfl dX4_goesSieve_113 ?_
            refine zw_aload_n C dX4_goesSieve_114 4 rfl rfl ?_
            refine zw_iload C dX4_goesSieve_115 0 rfl ?_
            refine zw_if_eq C 124 dX4_goesSieve_117 (by decide) (fun h => absurd h (by decide)) (fun _ => ?_)
            refine zw_lconst C (v := 1) dX4_goesSieve_120 (by decide) ?_
            refine zw_goto C 125 dX4_goesSieve_121 (by decide) ?_
            obtain ⟨q73, e74⟩ : ∃ z, fX4_tells M0 1 = z := ⟨_, rfl⟩
            rw [zw_l_eq e74] at hF
            refine zw_callv C kvX4_111 (kX4_tells e74) ⟨rfl, rfl, ⟨by decide, by decide⟩, by decide, by decide⟩ FX4 0 (As := [.long 1]) (rest := []) rfl rfl rfl (Nat.le_of_ble_eq_true rfl) dX4_goesSieve_125 ?_
            refine zw_goto C 357 dX4_goesSieve_128 (by decide) ?_
            subst hF; dsimp only
            exact zw_return C hr hlk dX4_goesSieve_357 rfl
        · rw [if_neg h69] at hF
          refine zw_iconst C (v := 1) dX4_goesSieve_57 (by decide) ?_
          refine zw_goto C 63 dX4_goesSieve_58 (by decide) ?_
          refine zw_istore C dX4_goesSieve_63 (by decide) rfl ?_
          refine zw_aload_n C dX4_goesSieve_65 3 rfl rfl ?_
          refine zw_get C FX4 0 10 (v := .ref (b 9)) rfl (by decide) lkX4_35 rfl dX4_goesSieve_66 ?_
          refine zw_iload_n C dX4_goesSieve_69 4 rfl rfl ?_
          refine zw_dup2_11 C dX4_goesSieve_70 rfl rfl ?_
          refine zw_iald C 9 0 (f := E0) (i := p1) rfl rfl hy1 dX4_goesSieve_71 ?_
          refine zw_iconst C (v := 1) dX4_goesSieve_72 (by decide) ?_
          refine zw_iadd C dX4_goesSieve_73 ?_
          refine zw_iast C 9 0 (f := E0) (i := p1) (ws2 := (wM cI cL b B0 B1 B2 B3 B4 B5 B6 K0 K1 K2 K3 K4 (upd E0 p1.toNatClampNeg ((E0 p1.toNatClampNeg) + 1)) M0 M1 M2 M3 M4 M5 M6 M7 U0 U1 U2 U3 U4 U5 G0 G1 G2 G3 G4 N0 N1 N2 N3)) rfl rfl hy1 rfl dX4_goesSieve_74 ?_
          refine zw_aload_n C dX4_goesSieve_75 3 rfl rfl ?_
          refine zw_get C FX4 0 10 (v := .ref (b 9)) rfl (by decide) lkX4_35 rfl dX4_goesSieve_76 ?_
          refine zw_iload_n C dX4_goesSieve_79 4 rfl rfl ?_
          refine zw_iald C 9 0 (f := (upd E0 p1.toNatClampNeg ((E0 p1.toNatClampNeg) + 1))) (i := p1) rfl rfl hy1 dX4_goesSieve_80 ?_
          refine zw_iload C dX4_goesSieve_81 0 rfl ?_
          refine zw_icmp_ne C 90 dX4_goesSieve_83 (by decide) (fun h75 => ?_) (fun h75 => ?_)
          · rw [if_neg h75] at hF
            refine zw_iconst C (v := 0) dX4_goesSieve_90 (by decide) ?_
            refine zw_istore C dX4_goesSieve_91 (by decide) rfl ?_
            refine zw_aload_n C dX4_goesSieve_93 4 rfl rfl ?_
            refine zw_get C FX4 0 10 (v := .ref (b 9)) rfl (by decide) lkX4_35 rfl dX4_goesSieve_94 ?_
            refine zw_iload_n C dX4_goesSieve_97 5 rfl rfl ?_
            refine zw_iload C dX4_goesSieve_98 0 rfl ?_
            refine zw_if_eq C 107 dX4_goesSieve_100 (by decide) (fun _ => ?_) (fun h => absurd h (by decide))
            refine zw_aload_n C dX4_goesSieve_107 4 rfl rfl ?_
            refine zw_get C FX4 0 10 (v := .ref (b 9)) rfl (by decide) lkX4_35 rfl dX4_goesSieve_108 ?_
            refine zw_iload_n C dX4_goesSieve_111 5 rfl rfl ?_
            refine zw_iald C 9 0 (f := (upd E0 p1.toNatClampNeg ((E0 p1.toNatClampNeg) + 1))) (i := p1) rfl rfl hy1 dX4_goesSieve_112 ?_
            refine zw_iast C 9 0 (f := (upd E0 p1.toNatClampNeg ((E0 p1.toNatClampNeg) + 1))) (i := p1) (ws2 := (wM cI cL b B0 B1 B2 B3 B4 B5 B6 K0 K1 K2 K3 K4 (upd (upd E0 p1.toNatClampNeg ((E0 p1.toNatClampNeg) + 1)) p1.toNatClampNeg ((upd E0 p1.toNatClampNeg ((E0 p1.toNatClampNeg) + 1)) p1.toNatClampNeg)) M0 M1 M2 M3 M4 M5 M6 M7 U0 U1 U2 U3 U4 U5 G0 G1 G2 G3 G4 N0 N1 N2 N3)) rfl rfl hy1 rfl dX4_goesSieve_113 ?_
            refine zw_aload_n C dX4_goesSieve_114 4 rfl rfl ?_
            refine zw_iload C dX4_goesSieve_115 0 rfl ?_
            refine zw_if_eq C 124 dX4_goesSieve_117 (by decide) (fun _ => ?_) (fun h => absurd h (by decide))
            refine zw_lconst C (v := 0) dX4_goesSieve_124 (by decide) ?_
            obtain ⟨q76, e77⟩ : ∃ z, fX4_tells M0 0 = z := ⟨_, rfl⟩
            rw [zw_l_eq e77] at hF
            refine zw_callv C kvX4_111 (kX4_tells e77) ⟨rfl, rfl, ⟨by decide, by decide⟩, by decide, by decide⟩ FX4 0 (As := [.long 0]) (rest := []) rfl rfl rfl (Nat.le_of_ble_eq_true rfl) dX4_goesSieve_125 ?_
            refine zw_goto C 357 dX4_goesSieve_128 (by decide) ?_
            subst hF; dsimp only
            exact zw_return C hr hlk dX4_goesSieve_357 rfl
          · rw [if_pos h75] at hF
            refine zw_iconst C (v := 1) dX4_goesSieve_86 (by decide) ?_
            refine zw_goto C 91 dX4_goesSieve_87 (by decide) ?_
            refine zw_istore C dX4_goesSieve_91 (by decide) rfl ?_
            refine zw_aload_n C dX4_goesSieve_93 4 rfl rfl ?_
            refine zw_get C FX4 0 10 (v := .ref (b 9)) rfl (by decide) lkX4_35 rfl dX4_goesSieve_94 ?_
            refine zw_iload_n C dX4_goesSieve_97 5 rfl rfl ?_
            refine zw_iload C dX4_goesSieve_98 0 rfl ?_
            refine zw_if_eq C 107 dX4_goesSieve_100 (by decide) (fun h => absurd h (by decide)) (fun _ => ?_)
            refine zw_iconst C (v := 0) dX4_goesSieve_103 (by decide) ?_
            refine zw_goto C 113 dX4_goesSieve_104 (by decide) ?_
            refine zw_iast C 9 0 (f := (upd E0 p1.toNatClampNeg ((E0 p1.toNatClampNeg) + 1))) (i := p1) (ws2 := (wM cI cL b B0 B1 B2 B3 B4 B5 B6 K0 K1 K2 K3 K4 (upd (upd E0 p1.toNatClampNeg ((E0 p1.toNatClampNeg) + 1)) p1.toNatClampNeg 0) M0 M1 M2 M3 M4 M5 M6 M7 U0 U1 U2 U3 U4 U5 G0 G1 G2 G3 G4 N0 N1 N2 N3)) rfl rfl hy1 rfl dX4_goesSieve_113 ?_
            refine zw_aload_n C dX4_goesSieve_114 4 rfl rfl ?_
            refine zw_iload C dX4_goesSieve_115 0 rfl ?_
            refine zw_if_eq C 124 dX4_goesSieve_117 (by decide) (fun h => absurd h (by decide)) (fun _ => ?_)
            refine zw_lconst C (v := 1) dX4_goesSieve_120 (by decide) ?_
            refine zw_goto C 125 dX4_goesSieve_121 (by decide) ?_
            obtain ⟨q78, e79⟩ : ∃ z, fX4_tells M0 1 = z := ⟨_, rfl⟩
            rw [zw_l_eq e79] at hF
            refine zw_callv C kvX4_111 (kX4_tells e79) ⟨rfl, rfl, ⟨by decide, by decide⟩, by decide, by decide⟩ FX4 0 (As := [.long 1]) (rest := []) rfl rfl rfl (Nat.le_of_ble_eq_true rfl) dX4_goesSieve_125 ?_
            refine zw_goto C 357 dX4_goesSieve_128 (by decide) ?_
            subst hF; dsimp only
            exact zw_return C hr hlk dX4_goesSieve_357 rfl
    · rw [if_pos h2] at hF
      refine zw_aload_n C dX4_goesSieve_36 2 rfl rfl ?_
      refine zw_lconst C (v := 1) dX4_goesSieve_37 (by decide) ?_
      obtain ⟨q80, e81⟩ : ∃ z, fX4_tells M0 1 = z := ⟨_, rfl⟩
      rw [zw_l_eq e81] at hF
      refine zw_callv C kvX4_111 (kX4_tells e81) ⟨rfl, rfl, ⟨by decide, by decide⟩, by decide, by decide⟩ FX4 0 (As := [.long 1]) (rest := []) rfl rfl rfl (Nat.le_of_ble_eq_true rfl) dX4_goesSieve_38 ?_
      refine zw_goto C 357 dX4_goesSieve_41 (by decide) ?_
      subst hF; dsimp only
      exact zw_return C hr hlk dX4_goesSieve_357 rfl
  · rw [if_pos h1] at hF
    refine zw_aload_n C dX4_goesSieve_23 2 rfl rfl ?_
    refine zw_iconst C (v := 3) dX4_goesSieve_24 (by decide) ?_
    refine zw_put C FX4 GX4 0 18 (v := .int 3) (ws2 := (wM cI cL b B0 B1 B2 B3 B4 B5 B6 K0 K1 K2 K3 K4 E0 M0 M1 M2 M3 M4 M5 M6 3 U0 U1 U2 U3 U4 U5 G0 G1 G2 G3 G4 N0 N1 N2 N3)) rfl (by decide) lkX4_98 rfl rfl rfl (Nat.le_of_ble_eq_true rfl) rfl dX4_goesSieve_25 ?_
    refine zw_goto C 357 dX4_goesSieve_28 (by decide) ?_
    subst hF; dsimp only
    exact zw_return C hr hlk dX4_goesSieve_357 rfl
def fX4_goesOrder (K1 : (Nat → Int32)) (K2 : (Nat → Int32)) (K3 : (Nat → Int32)) (M0 : Int32) (M1 : (Nat → Int32)) (M2 : (Nat → Int32)) (M3 : (Nat → Int32)) (M4 : (Nat → Int32)) (M5 : (Nat → Int64)) (M6 : Int64) (M7 : Int32) (U0 : Int32) (U2 : Int32) (p1 : Int32) (p2 : Int32) (p3 : Int64) : Int32 × (Nat → Int32) × (Nat → Int32) × (Nat → Int32) × (Nat → Int32) × (Nat → Int64) × Int64 × Int32 × Int32 × Int32 := (if (K1 p1.toNatClampNeg) = 5 then (M0, M1, M2, M3, M4, M5, M6, 3, U0, U2) else (if (K1 p1.toNatClampNeg) = 4 then (if (M3 (M0 - 1).toNatClampNeg) ≤ (M2 (M0 - 1).toNatClampNeg) then (if (M2 (M0 - 1).toNatClampNeg) ≤ (M3 (M0 - 1).toNatClampNeg) then (zw_l (fX4_tells M0 0) (fun q67 => (q67.1, M1, M2, M3, M4, M5, q67.2, M7, U0, U2))) else (zw_l (fX4_tells M0 1) (fun q69 => (q69.1, M1, M2, M3, M4, M5, q69.2, M7, U0, U2)))) else (zw_l (fX4_tells M0 (-1)) (fun q71 => (q71.1, M1, M2, M3, M4, M5, q71.2, M7, U0, U2)))) else (if p2 = 0 then (if (K1 p1.toNatClampNeg) = 0 then (if (K1 p1.toNatClampNeg) = 0 then (zw_l (fX4_begins M0 M1 M2 M3 M4 M7 U0 U2 0 (K2 p1.toNatClampNeg) (M2 (M0 - 1).toNatClampNeg) (M2 (M0 - 1).toNatClampNeg)) (fun q58 => (q58.1, q58.2.1, q58.2.2.1, q58.2.2.2.1, q58.2.2.2.2.1, M5, M6, q58.2.2.2.2.2.1, q58.2.2.2.2.2.2.1, q58.2.2.2.2.2.2.2))) else (if (K1 p1.toNatClampNeg) = 3 then (zw_l (fX4_begins M0 M1 M2 M3 M4 M7 U0 U2 0 (K2 p1.toNatClampNeg) (M2 (M0 - 1).toNatClampNeg) (M2 (M0 - 1).toNatClampNeg)) (fun q63 => (q63.1, q63.2.1, q63.2.2.1, q63.2.2.2.1, q63.2.2.2.2.1, M5, M6, q63.2.2.2.2.2.1, q63.2.2.2.2.2.2.1, q63.2.2.2.2.2.2.2))) else (zw_l (fX4_begins M0 M1 M2 M3 M4 M7 U0 U2 0 (K2 p1.toNatClampNeg) (M2 (M0 - 1).toNatClampNeg) (M3 (M0 - 1).toNatClampNeg)) (fun q61 => (q61.1, q61.2.1, q61.2.2.1, q61.2.2.2.1, q61.2.2.2.2.1, M5, M6, q61.2.2.2.2.2.1, q61.2.2.2.2.2.2.1, q61.2.2.2.2.2.2.2))))) else (if (K1 p1.toNatClampNeg) = 3 then (if (K1 p1.toNatClampNeg) = 0 then (zw_l (fX4_begins M0 M1 M2 M3 M4 M7 U0 U2 1 (K2 p1.toNatClampNeg) (M2 (M0 - 1).toNatClampNeg) (M2 (M0 - 1).toNatClampNeg)) (fun q50 => (q50.1, q50.2.1, q50.2.2.1, q50.2.2.2.1, q50.2.2.2.2.1, M5, M6, q50.2.2.2.2.2.1, q50.2.2.2.2.2.2.1, q50.2.2.2.2.2.2.2))) else (if (K1 p1.toNatClampNeg) = 3 then (zw_l (fX4_begins M0 M1 M2 M3 M4 M7 U0 U2 1 (K2 p1.toNatClampNeg) (M2 (M0 - 1).toNatClampNeg) (M2 (M0 - 1).toNatClampNeg)) (fun q55 => (q55.1, q55.2.1, q55.2.2.1, q55.2.2.2.1, q55.2.2.2.2.1, M5, M6, q55.2.2.2.2.2.1, q55.2.2.2.2.2.2.1, q55.2.2.2.2.2.2.2))) else (zw_l (fX4_begins M0 M1 M2 M3 M4 M7 U0 U2 1 (K2 p1.toNatClampNeg) (M2 (M0 - 1).toNatClampNeg) (M3 (M0 - 1).toNatClampNeg)) (fun q53 => (q53.1, q53.2.1, q53.2.2.1, q53.2.2.2.1, q53.2.2.2.2.1, M5, M6, q53.2.2.2.2.2.1, q53.2.2.2.2.2.2.1, q53.2.2.2.2.2.2.2))))) else (if (K1 p1.toNatClampNeg) = 0 then (zw_l (fX4_begins M0 M1 M2 M3 M4 M7 U0 U2 2 (K2 p1.toNatClampNeg) (M2 (M0 - 1).toNatClampNeg) (M2 (M0 - 1).toNatClampNeg)) (fun q42 => (q42.1, q42.2.1, q42.2.2.1, q42.2.2.2.1, q42.2.2.2.2.1, M5, M6, q42.2.2.2.2.2.1, q42.2.2.2.2.2.2.1, q42.2.2.2.2.2.2.2))) else (if (K1 p1.toNatClampNeg) = 3 then (zw_l (fX4_begins M0 M1 M2 M3 M4 M7 U0 U2 2 (K2 p1.toNatClampNeg) (M2 (M0 - 1).toNatClampNeg) (M2 (M0 - 1).toNatClampNeg)) (fun q47 => (q47.1, q47.2.1, q47.2.2.1, q47.2.2.2.1, q47.2.2.2.2.1, M5, M6, q47.2.2.2.2.2.1, q47.2.2.2.2.2.2.1, q47.2.2.2.2.2.2.2))) else (zw_l (fX4_begins M0 M1 M2 M3 M4 M7 U0 U2 2 (K2 p1.toNatClampNeg) (M2 (M0 - 1).toNatClampNeg) (M3 (M0 - 1).toNatClampNeg)) (fun q45 => (q45.1, q45.2.1, q45.2.2.1, q45.2.2.2.1, q45.2.2.2.2.1, M5, M6, q45.2.2.2.2.2.1, q45.2.2.2.2.2.2.1, q45.2.2.2.2.2.2.2))))))) else (if (K1 p1.toNatClampNeg) = 1 then (zw_l (fX4_tells M0 (-p3)) (fun q37 => (q37.1, M1, M2, M3, M4, M5, q37.2, M7, U0, U2))) else (if (K1 p1.toNatClampNeg) = 2 then (if p2 = 1 then (if (lg_cmp p3 0) = 0 then (zw_l (fX4_begins M0 M1 M2 M3 M4 M7 U0 U2 2 (K3 p1.toNatClampNeg) (M2 (M0 - 1).toNatClampNeg) (M3 (M0 - 1).toNatClampNeg)) (fun q35 => (q35.1, q35.2.1, q35.2.2.1, q35.2.2.2.1, q35.2.2.2.2.1, M5, M6, q35.2.2.2.2.2.1, q35.2.2.2.2.2.2.1, q35.2.2.2.2.2.2.2))) else (zw_l (fX4_tells M0 p3) (fun q33 => (q33.1, M1, M2, M3, M4, M5, q33.2, M7, U0, U2)))) else (zw_l (fX4_tells M0 p3) (fun q30 => (q30.1, M1, M2, M3, M4, M5, q30.2, M7, U0, U2)))) else (if p2 = 1 then (if (K1 p1.toNatClampNeg) = 0 then (zw_l (fX4_begins M0 M1 M2 M3 M4 M7 U0 U2 0 (K2 p1.toNatClampNeg) (M3 (M0 - 1).toNatClampNeg) (M3 (M0 - 1).toNatClampNeg)) (fun q27 => (q27.1, q27.2.1, q27.2.2.1, q27.2.2.2.1, q27.2.2.2.2.1, (vp_updL M5 (M0 - 1).toNatClampNeg p3), M6, q27.2.2.2.2.2.1, q27.2.2.2.2.2.2.1, q27.2.2.2.2.2.2.2))) else (zw_l (fX4_begins M0 M1 M2 M3 M4 M7 U0 U2 1 (K2 p1.toNatClampNeg) (M3 (M0 - 1).toNatClampNeg) (M3 (M0 - 1).toNatClampNeg)) (fun q25 => (q25.1, q25.2.1, q25.2.2.1, q25.2.2.2.1, q25.2.2.2.2.1, (vp_updL M5 (M0 - 1).toNatClampNeg p3), M6, q25.2.2.2.2.2.1, q25.2.2.2.2.2.2.1, q25.2.2.2.2.2.2.2)))) else (if 0 ≤ (lg_cmp (M5 (M0 - 1).toNatClampNeg) p3) then (if (lg_cmp (M5 (M0 - 1).toNatClampNeg) p3) ≤ 0 then (if (K1 p1.toNatClampNeg) = 0 then (zw_l (fX4_tells M0 0) (fun q12 => (q12.1, M1, M2, M3, M4, M5, q12.2, M7, U0, U2))) else (zw_l (fX4_tells M0 (-0)) (fun q10 => (q10.1, M1, M2, M3, M4, M5, q10.2, M7, U0, U2)))) else (if (K1 p1.toNatClampNeg) = 0 then (zw_l (fX4_tells M0 1) (fun q17 => (q17.1, M1, M2, M3, M4, M5, q17.2, M7, U0, U2))) else (zw_l (fX4_tells M0 (-1)) (fun q15 => (q15.1, M1, M2, M3, M4, M5, q15.2, M7, U0, U2))))) else (if (K1 p1.toNatClampNeg) = 0 then (zw_l (fX4_tells M0 (-1)) (fun q22 => (q22.1, M1, M2, M3, M4, M5, q22.2, M7, U0, U2))) else (zw_l (fX4_tells M0 (-(-1))) (fun q20 => (q20.1, M1, M2, M3, M4, M5, q20.2, M7, U0, U2)))))))))))
set_option maxHeartbeats 4000000 in
set_option maxRecDepth 100000 in
theorem kX4_goesOrder {l : Launch} {D : va_G} {cI cL : ClassId} {b : Nat → Nat} {B0 : Int32} {B1 : Int32} {B2 : Int64} {B3 : (Nat → Int64)} {B4 : (Nat → Int64)} {B5 : (Nat → Int32)} {B6 : (Nat → Int32)} {K0 : (Nat → Int32)} {K1 : (Nat → Int32)} {K2 : (Nat → Int32)} {K3 : (Nat → Int32)} {K4 : (Nat → Int64)} {E0 : (Nat → Int32)} {M0 : Int32} {M1 : (Nat → Int32)} {M2 : (Nat → Int32)} {M3 : (Nat → Int32)} {M4 : (Nat → Int32)} {M5 : (Nat → Int64)} {M6 : Int64} {M7 : Int32} {U0 : Int32} {U1 : Int32} {U2 : Int32} {U3 : Int32} {U4 : Int32} {U5 : Int32} {G0 : Int32} {G1 : (Nat → Int64)} {G2 : (Nat → Int32)} {G3 : (Nat → Int64)} {G4 : (Nat → Int32)} {N0 : (Nat → Int64)} {N1 : (Nat → Int32)} {N2 : (Nat → Int64)} {N3 : (Nat → Int32)} {p1 : Int32} {p2 : Int32} {p3 : Int64} {q : Int32 × (Nat → Int32) × (Nat → Int32) × (Nat → Int32) × (Nat → Int32) × (Nat → Int64) × Int64 × Int32 × Int32 × Int32} (hy1 : vp_in p1 72) (hy2 : vp_in M0 80) (hy3 : vp_in (M0 - 1) 80) (hF : fX4_goesOrder K1 K2 K3 M0 M1 M2 M3 M4 M5 M6 M7 U0 U2 p1 p2 p3 = q) : zw_Mv l yX4_goesOrder cX4_goesOrder 12 D (zw_tys cI cL) (zw_rm 1 24) [.ref (b 0), .int p1, .int p2, .long p3] (wM cI cL b B0 B1 B2 B3 B4 B5 B6 K0 K1 K2 K3 K4 E0 M0 M1 M2 M3 M4 M5 M6 M7 U0 U1 U2 U3 U4 U5 G0 G1 G2 G3 G4 N0 N1 N2 N3) (wM cI cL b B0 B1 B2 B3 B4 B5 B6 K0 K1 K2 K3 K4 E0 q.1 q.2.1 q.2.2.1 q.2.2.2.1 q.2.2.2.2.1 q.2.2.2.2.2.1 q.2.2.2.2.2.2.1 q.2.2.2.2.2.2.2.1 q.2.2.2.2.2.2.2.2.1 U1 q.2.2.2.2.2.2.2.2.2 U3 U4 U5 G0 G1 G2 G3 G4 N0 N1 N2 N3) := by
  unfold fX4_goesOrder at hF
  refine zw_Mv_of (own := RX4) (by decide) rfl (Nat.le_of_ble_eq_true rfl) ?_
  intro p e s m args below meth c A C hr hlk
  refine zw_eq (lv2 := [(0, .ref (b 0)), (1, .int p1), (2, .int p2), (3, .long p3)]) rfl rfl rfl ?_
  refine zw_aload_n C dX4_goesOrder_0 0 rfl rfl ?_
  refine zw_get C FX4 0 6 (v := .ref (b 5)) rfl (by decide) lkX4_23 rfl dX4_goesOrder_1 ?_
  refine zw_iload_n C dX4_goesOrder_4 1 rfl rfl ?_
  refine zw_iald C 5 0 (f := K1) (i := p1) rfl rfl hy1 dX4_goesOrder_5 ?_
  refine zw_istore C dX4_goesOrder_6 (by decide) rfl ?_
  refine zw_aload_n C dX4_goesOrder_8 1 rfl rfl ?_
  refine zw_get C FX4 0 13 (v := .ref (b 11)) rfl (by decide) lkX4_41 rfl dX4_goesOrder_9 ?_
  refine zw_aload_n C dX4_goesOrder_12 1 rfl rfl ?_
  refine zw_get C FX4 0 11 (v := .int M0) rfl (by decide) lkX4_104 rfl dX4_goesOrder_13 ?_
  refine zw_iconst C (v := 1) dX4_goesOrder_16 (by decide) ?_
  refine zw_isub C dX4_goesOrder_17 ?_
  refine zw_iald C 11 0 (f := M2) (i := (M0 - 1)) rfl rfl hy3 dX4_goesOrder_18 ?_
  refine zw_istore C dX4_goesOrder_19 (by decide) rfl ?_
  refine zw_aload_n C dX4_goesOrder_21 2 rfl rfl ?_
  refine zw_get C FX4 0 14 (v := .ref (b 12)) rfl (by decide) lkX4_44 rfl dX4_goesOrder_22 ?_
  refine zw_aload_n C dX4_goesOrder_25 2 rfl rfl ?_
  refine zw_get C FX4 0 11 (v := .int M0) rfl (by decide) lkX4_104 rfl dX4_goesOrder_26 ?_
  refine zw_iconst C (v := 1) dX4_goesOrder_29 (by decide) ?_
  refine zw_isub C dX4_goesOrder_30 ?_
  refine zw_iald C 12 0 (f := M3) (i := (M0 - 1)) rfl rfl hy3 dX4_goesOrder_31 ?_
  refine zw_istore C dX4_goesOrder_32 (by decide) rfl ?_
  refine zw_iload C dX4_goesOrder_34 2 rfl ?_
  refine zw_iconst C (v := 5) dX4_goesOrder_36 (by decide) ?_
  refine zw_icmp_ne C 48 dX4_goesOrder_37 (by decide) (fun h1 => ?_) (fun h1 => ?_)
  · rw [if_neg h1] at hF
    refine zw_iload C dX4_goesOrder_48 2 rfl ?_
    refine zw_iconst C (v := 4) dX4_goesOrder_50 (by decide) ?_
    refine zw_icmp_ne C 86 dX4_goesOrder_51 (by decide) (fun h2 => ?_) (fun h2 => ?_)
    · rw [if_neg h2] at hF
      refine zw_iload_n C dX4_goesOrder_86 5 rfl rfl ?_
      refine zw_if_ne C 143 dX4_goesOrder_87 (by decide) (fun h3 => ?_) (fun h3 => ?_)
      · rw [if_neg h3] at hF
        refine zw_iload C dX4_goesOrder_143 2 rfl ?_
        refine zw_iconst C (v := 1) dX4_goesOrder_145 (by decide) ?_
        refine zw_icmp_ne C 158 dX4_goesOrder_146 (by decide) (fun h4 => ?_) (fun h4 => ?_)
        · rw [if_neg h4] at hF
          refine zw_iload C dX4_goesOrder_158 2 rfl ?_
          refine zw_iconst C (v := 2) dX4_goesOrder_160 (by decide) ?_
          refine zw_icmp_ne C 201 dX4_goesOrder_161 (by decide) (fun h5 => ?_) (fun h5 => ?_)
          · rw [if_neg h5] at hF
            refine zw_iload_n C dX4_goesOrder_201 5 rfl rfl ?_
            refine zw_iconst C (v := 1) dX4_goesOrder_202 (by decide) ?_
            refine zw_icmp_ne C 245 dX4_goesOrder_203 (by decide) (fun h6 => ?_) (fun h6 => ?_)
            · rw [if_neg h6] at hF
              refine zw_aload_n C dX4_goesOrder_245 3 rfl rfl ?_
              refine zw_get C FX4 0 16 (v := .ref (b 14)) rfl (by decide) lkX4_50 rfl dX4_goesOrder_246 ?_
              refine zw_aload_n C dX4_goesOrder_249 3 rfl rfl ?_
              refine zw_get C FX4 0 11 (v := .int M0) rfl (by decide) lkX4_104 rfl dX4_goesOrder_250 ?_
              refine zw_iconst C (v := 1) dX4_goesOrder_253 (by decide) ?_
              refine zw_isub C dX4_goesOrder_254 ?_
              refine zw_lald C 14 1 (f := M5) (i := (M0 - 1)) rfl rfl hy3 dX4_goesOrder_255 ?_
              refine zw_lstore C dX4_goesOrder_256 (by decide) rfl ?_
              refine zw_lload C dX4_goesOrder_258 0 rfl ?_
              refine zw_lload_n C dX4_goesOrder_260 7 rfl rfl ?_
              refine zw_lcmp C dX4_goesOrder_261 ?_
              refine zw_if_ge C 271 dX4_goesOrder_262 (by decide) (fun h7 => ?_) (fun h7 => ?_)
              · rw [if_pos h7] at hF
                refine zw_lload C dX4_goesOrder_271 0 rfl ?_
                refine zw_lload_n C dX4_goesOrder_273 7 rfl rfl ?_
                refine zw_lcmp C dX4_goesOrder_274 ?_
                refine zw_if_le C 282 dX4_goesOrder_275 (by decide) (fun h8 => ?_) (fun h8 => ?_)
                · rw [if_pos h8] at hF
                  refine zw_lconst C (v := 0) dX4_goesOrder_282 (by decide) ?_
                  refine zw_lstore C dX4_goesOrder_283 (by decide) rfl ?_
                  refine zw_aload_n C dX4_goesOrder_285 5 rfl rfl ?_
                  refine zw_iload C dX4_goesOrder_286 4 rfl ?_
                  refine zw_if_ne C 296 dX4_goesOrder_288 (by decide) (fun h9 => ?_) (fun h9 => ?_)
                  · rw [if_neg h9] at hF
                    refine zw_lload C dX4_goesOrder_296 0 rfl ?_
                    refine zw_lneg C dX4_goesOrder_298 ?_
                    obtain ⟨q10, e11⟩ : ∃ z, fX4_tells M0 (-0) = z := ⟨_, rfl⟩
                    rw [zw_l_eq e11] at hF
                    refine zw_callv C kvX4_111 (kX4_tells e11) ⟨rfl, rfl, ⟨by decide, by decide⟩, by decide, by decide⟩ FX4 0 (As := [.long (-0)]) (rest := []) rfl rfl rfl (Nat.le_of_ble_eq_true rfl) dX4_goesOrder_299 ?_
                    subst hF; dsimp only
                    exact zw_return C hr hlk dX4_goesOrder_302 rfl
                  · rw [if_pos h9] at hF
                    refine zw_lload C dX4_goesOrder_291 0 rfl ?_
                    refine zw_goto C 299 dX4_goesOrder_293 (by decide) ?_
                    obtain ⟨q12, e13⟩ : ∃ z, fX4_tells M0 0 = z := ⟨_, rfl⟩
                    rw [zw_l_eq e13] at hF
                    refine zw_callv C kvX4_111 (kX4_tells e13) ⟨rfl, rfl, ⟨by decide, by decide⟩, by decide, by decide⟩ FX4 0 (As := [.long 0]) (rest := []) rfl rfl rfl (Nat.le_of_ble_eq_true rfl) dX4_goesOrder_299 ?_
                    subst hF; dsimp only
                    exact zw_return C hr hlk dX4_goesOrder_302 rfl
                · rw [if_neg h8] at hF
                  refine zw_lconst C (v := 1) dX4_goesOrder_278 (by decide) ?_
                  refine zw_goto C 283 dX4_goesOrder_279 (by decide) ?_
                  refine zw_lstore C dX4_goesOrder_283 (by decide) rfl ?_
                  refine zw_aload_n C dX4_goesOrder_285 5 rfl rfl ?_
                  refine zw_iload C dX4_goesOrder_286 4 rfl ?_
                  refine zw_if_ne C 296 dX4_goesOrder_288 (by decide) (fun h14 => ?_) (fun h14 => ?_)
                  · rw [if_neg h14] at hF
                    refine zw_lload C dX4_goesOrder_296 0 rfl ?_
                    refine zw_lneg C dX4_goesOrder_298 ?_
                    obtain ⟨q15, e16⟩ : ∃ z, fX4_tells M0 (-1) = z := ⟨_, rfl⟩
                    rw [zw_l_eq e16] at hF
                    refine zw_callv C kvX4_111 (kX4_tells e16) ⟨rfl, rfl, ⟨by decide, by decide⟩, by decide, by decide⟩ FX4 0 (As := [.long (-1)]) (rest := []) rfl rfl rfl (Nat.le_of_ble_eq_true rfl) dX4_goesOrder_299 ?_
                    subst hF; dsimp only
                    exact zw_return C hr hlk dX4_goesOrder_302 rfl
                  · rw [if_pos h14] at hF
                    refine zw_lload C dX4_goesOrder_291 0 rfl ?_
                    refine zw_goto C 299 dX4_goesOrder_293 (by decide) ?_
                    obtain ⟨q17, e18⟩ : ∃ z, fX4_tells M0 1 = z := ⟨_, rfl⟩
                    rw [zw_l_eq e18] at hF
                    refine zw_callv C kvX4_111 (kX4_tells e18) ⟨rfl, rfl, ⟨by decide, by decide⟩, by decide, by decide⟩ FX4 0 (As := [.long 1]) (rest := []) rfl rfl rfl (Nat.le_of_ble_eq_true rfl) dX4_goesOrder_299 ?_
                    subst hF; dsimp only
                    exact zw_return C hr hlk dX4_goesOrder_302 rfl
              · rw [if_neg h7] at hF
                refine zw_ldc2 C lkcX4_125 dX4_goesOrder_265 ?_
                refine zw_goto C 283 dX4_goesOrder_268 (by decide) ?_
                refine zw_lstore C dX4_goesOrder_283 (by decide) rfl ?_
                refine zw_aload_n C dX4_goesOrder_285 5 rfl rfl ?_
                refine zw_iload C dX4_goesOrder_286 4 rfl ?_
                refine zw_if_ne C 296 dX4_goesOrder_288 (by decide) (fun h19 => ?_) (fun h19 => ?_)
                · rw [if_neg h19] at hF
                  refine zw_lload C dX4_goesOrder_296 0 rfl ?_
                  refine zw_lneg C dX4_goesOrder_298 ?_
                  obtain ⟨q20, e21⟩ : ∃ z, fX4_tells M0 (-(-1)) = z := ⟨_, rfl⟩
                  rw [zw_l_eq e21] at hF
                  refine zw_callv C kvX4_111 (kX4_tells e21) ⟨rfl, rfl, ⟨by decide, by decide⟩, by decide, by decide⟩ FX4 0 (As := [.long (-(-1))]) (rest := []) rfl rfl rfl (Nat.le_of_ble_eq_true rfl) dX4_goesOrder_299 ?_
                  subst hF; dsimp only
                  exact zw_return C hr hlk dX4_goesOrder_302 rfl
                · rw [if_pos h19] at hF
                  refine zw_lload C dX4_goesOrder_291 0 rfl ?_
                  refine zw_goto C 299 dX4_goesOrder_293 (by decide) ?_
                  obtain ⟨q22, e23⟩ : ∃ z, fX4_tells M0 (-1) = z := ⟨_, rfl⟩
                  rw [zw_l_eq e23] at hF
                  refine zw_callv C kvX4_111 (kX4_tells e23) ⟨rfl, rfl, ⟨by decide, by decide⟩, by decide, by decide⟩ FX4 0 (As := [.long (-1)]) (rest := []) rfl rfl rfl (Nat.le_of_ble_eq_true rfl) dX4_goesOrder_299 ?_
                  subst hF; dsimp only
                  exact zw_return C hr hlk dX4_goesOrder_302 rfl
            · rw [if_pos h6] at hF
              refine zw_aload_n C dX4_goesOrder_206 3 rfl rfl ?_
              refine zw_get C FX4 0 16 (v := .ref (b 14)) rfl (by decide) lkX4_50 rfl dX4_goesOrder_207 ?_
              refine zw_aload_n C dX4_goesOrder_210 3 rfl rfl ?_
              refine zw_get C FX4 0 11 (v := .int M0) rfl (by decide) lkX4_104 rfl dX4_goesOrder_211 ?_
              refine zw_iconst C (v := 1) dX4_goesOrder_214 (by decide) ?_
              refine zw_isub C dX4_goesOrder_215 ?_
              refine zw_lload_n C dX4_goesOrder_216 6 rfl rfl ?_
              refine zw_last C 14 1 (f := M5) (i := (M0 - 1)) (ws2 := (wM cI cL b B0 B1 B2 B3 B4 B5 B6 K0 K1 K2 K3 K4 E0 M0 M1 M2 M3 M4 (vp_updL M5 (M0 - 1).toNatClampNeg p3) M6 M7 U0 U1 U2 U3 U4 U5 G0 G1 G2 G3 G4 N0 N1 N2 N3)) rfl rfl hy3 rfl dX4_goesOrder_217 ?_
              refine zw_aload_n C dX4_goesOrder_218 3 rfl rfl ?_
              refine zw_iload C dX4_goesOrder_219 2 rfl ?_
              refine zw_if_ne C 228 dX4_goesOrder_221 (by decide) (fun h24 => ?_) (fun h24 => ?_)
              · rw [if_neg h24] at hF
                refine zw_iconst C (v := 1) dX4_goesOrder_228 (by decide) ?_
                refine zw_aload_n C dX4_goesOrder_229 3 rfl rfl ?_
                refine zw_get C FX4 0 7 (v := .ref (b 6)) rfl (by decide) lkX4_26 rfl dX4_goesOrder_230 ?_
                refine zw_iload_n C dX4_goesOrder_233 4 rfl rfl ?_
                refine zw_iald C 6 0 (f := K2) (i := p1) rfl rfl hy1 dX4_goesOrder_234 ?_
                refine zw_iload C dX4_goesOrder_235 0 rfl ?_
                refine zw_iload C dX4_goesOrder_237 0 rfl ?_
                obtain ⟨q25, e26⟩ : ∃ z, fX4_begins M0 M1 M2 M3 M4 M7 U0 U2 1 (K2 p1.toNatClampNeg) (M3 (M0 - 1).toNatClampNeg) (M3 (M0 - 1).toNatClampNeg) = z := ⟨_, rfl⟩
                rw [zw_l_eq e26] at hF
                refine zw_callv C kvX4_115 (kX4_begins hy2 e26) ⟨rfl, rfl, ⟨by decide, by decide⟩, by decide, by decide⟩ FX4 0 (As := [.int 1, .int (K2 p1.toNatClampNeg), .int (M3 (M0 - 1).toNatClampNeg), .int (M3 (M0 - 1).toNatClampNeg)]) (rest := []) rfl rfl rfl (Nat.le_of_ble_eq_true rfl) dX4_goesOrder_239 ?_
                refine zw_goto C 302 dX4_goesOrder_242 (by decide) ?_
                subst hF; dsimp only
                exact zw_return C hr hlk dX4_goesOrder_302 rfl
              · rw [if_pos h24] at hF
                refine zw_iconst C (v := 0) dX4_goesOrder_224 (by decide) ?_
                refine zw_goto C 229 dX4_goesOrder_225 (by decide) ?_
                refine zw_aload_n C dX4_goesOrder_229 3 rfl rfl ?_
                refine zw_get C FX4 0 7 (v := .ref (b 6)) rfl (by decide) lkX4_26 rfl dX4_goesOrder_230 ?_
                refine zw_iload_n C dX4_goesOrder_233 4 rfl rfl ?_
                refine zw_iald C 6 0 (f := K2) (i := p1) rfl rfl hy1 dX4_goesOrder_234 ?_
                refine zw_iload C dX4_goesOrder_235 0 rfl ?_
                refine zw_iload C dX4_goesOrder_237 0 rfl ?_
                obtain ⟨q27, e28⟩ : ∃ z, fX4_begins M0 M1 M2 M3 M4 M7 U0 U2 0 (K2 p1.toNatClampNeg) (M3 (M0 - 1).toNatClampNeg) (M3 (M0 - 1).toNatClampNeg) = z := ⟨_, rfl⟩
                rw [zw_l_eq e28] at hF
                refine zw_callv C kvX4_115 (kX4_begins hy2 e28) ⟨rfl, rfl, ⟨by decide, by decide⟩, by decide, by decide⟩ FX4 0 (As := [.int 0, .int (K2 p1.toNatClampNeg), .int (M3 (M0 - 1).toNatClampNeg), .int (M3 (M0 - 1).toNatClampNeg)]) (rest := []) rfl rfl rfl (Nat.le_of_ble_eq_true rfl) dX4_goesOrder_239 ?_
                refine zw_goto C 302 dX4_goesOrder_242 (by decide) ?_
                subst hF; dsimp only
                exact zw_return C hr hlk dX4_goesOrder_302 rfl
          · rw [if_pos h5] at hF
            refine zw_iload_n C dX4_goesOrder_164 5 rfl rfl ?_
            refine zw_iconst C (v := 1) dX4_goesOrder_165 (by decide) ?_
            refine zw_icmp_ne C 193 dX4_goesOrder_166 (by decide) (fun h29 => ?_) (fun h29 => ?_)
            · rw [if_neg h29] at hF
              refine zw_aload_n C dX4_goesOrder_193 3 rfl rfl ?_
              refine zw_lload_n C dX4_goesOrder_194 6 rfl rfl ?_
              obtain ⟨q30, e31⟩ : ∃ z, fX4_tells M0 p3 = z := ⟨_, rfl⟩
              rw [zw_l_eq e31] at hF
              refine zw_callv C kvX4_111 (kX4_tells e31) ⟨rfl, rfl, ⟨by decide, by decide⟩, by decide, by decide⟩ FX4 0 (As := [.long p3]) (rest := []) rfl rfl rfl (Nat.le_of_ble_eq_true rfl) dX4_goesOrder_195 ?_
              refine zw_goto C 302 dX4_goesOrder_198 (by decide) ?_
              subst hF; dsimp only
              exact zw_return C hr hlk dX4_goesOrder_302 rfl
            · rw [if_pos h29] at hF
              refine zw_lload_n C dX4_goesOrder_169 6 rfl rfl ?_
              refine zw_lconst C (v := 0) dX4_goesOrder_170 (by decide) ?_
              refine zw_lcmp C dX4_goesOrder_171 ?_
              refine zw_if_ne C 193 dX4_goesOrder_172 (by decide) (fun h32 => ?_) (fun h32 => ?_)
              · rw [if_neg h32] at hF
                refine zw_aload_n C dX4_goesOrder_193 3 rfl rfl ?_
                refine zw_lload_n C dX4_goesOrder_194 6 rfl rfl ?_
                obtain ⟨q33, e34⟩ : ∃ z, fX4_tells M0 p3 = z := ⟨_, rfl⟩
                rw [zw_l_eq e34] at hF
                refine zw_callv C kvX4_111 (kX4_tells e34) ⟨rfl, rfl, ⟨by decide, by decide⟩, by decide, by decide⟩ FX4 0 (As := [.long p3]) (rest := []) rfl rfl rfl (Nat.le_of_ble_eq_true rfl) dX4_goesOrder_195 ?_
                refine zw_goto C 302 dX4_goesOrder_198 (by decide) ?_
                subst hF; dsimp only
                exact zw_return C hr hlk dX4_goesOrder_302 rfl
              · rw [if_pos h32] at hF
                refine zw_aload_n C dX4_goesOrder_175 3 rfl rfl ?_
                refine zw_iconst C (v := 2) dX4_goesOrder_176 (by decide) ?_
                refine zw_aload_n C dX4_goesOrder_177 3 rfl rfl ?_
                refine zw_get C FX4 0 8 (v := .ref (b 7)) rfl (by decide) lkX4_29 rfl dX4_goesOrder_178 ?_
                refine zw_iload_n C dX4_goesOrder_181 4 rfl rfl ?_
                refine zw_iald C 7 0 (f := K3) (i := p1) rfl rfl hy1 dX4_goesOrder_182 ?_
                refine zw_iload C dX4_goesOrder_183 1 rfl ?_
                refine zw_iload C dX4_goesOrder_185 0 rfl ?_
                obtain ⟨q35, e36⟩ : ∃ z, fX4_begins M0 M1 M2 M3 M4 M7 U0 U2 2 (K3 p1.toNatClampNeg) (M2 (M0 - 1).toNatClampNeg) (M3 (M0 - 1).toNatClampNeg) = z := ⟨_, rfl⟩
                rw [zw_l_eq e36] at hF
                refine zw_callv C kvX4_115 (kX4_begins hy2 e36) ⟨rfl, rfl, ⟨by decide, by decide⟩, by decide, by decide⟩ FX4 0 (As := [.int 2, .int (K3 p1.toNatClampNeg), .int (M2 (M0 - 1).toNatClampNeg), .int (M3 (M0 - 1).toNatClampNeg)]) (rest := []) rfl rfl rfl (Nat.le_of_ble_eq_true rfl) dX4_goesOrder_187 ?_
                refine zw_goto C 302 dX4_goesOrder_190 (by decide) ?_
                subst hF; dsimp only
                exact zw_return C hr hlk dX4_goesOrder_302 rfl
        · rw [if_pos h4] at hF
          refine zw_aload_n C dX4_goesOrder_149 3 rfl rfl ?_
          refine zw_lload_n C dX4_goesOrder_150 6 rfl rfl ?_
          refine zw_lneg C dX4_goesOrder_151 ?_
          obtain ⟨q37, e38⟩ : ∃ z, fX4_tells M0 (-p3) = z := ⟨_, rfl⟩
          rw [zw_l_eq e38] at hF
          refine zw_callv C kvX4_111 (kX4_tells e38) ⟨rfl, rfl, ⟨by decide, by decide⟩, by decide, by decide⟩ FX4 0 (As := [.long (-p3)]) (rest := []) rfl rfl rfl (Nat.le_of_ble_eq_true rfl) dX4_goesOrder_152 ?_
          refine zw_goto C 302 dX4_goesOrder_155 (by decide) ?_
          subst hF; dsimp only
          exact zw_return C hr hlk dX4_goesOrder_302 rfl
      · rw [if_pos h3] at hF
        refine zw_aload_n C dX4_goesOrder_90 3 rfl rfl ?_
        refine zw_iload C dX4_goesOrder_91 2 rfl ?_
        refine zw_if_ne C 100 dX4_goesOrder_93 (by decide) (fun h39 => ?_) (fun h39 => ?_)
        · rw [if_neg h39] at hF
          refine zw_iload C dX4_goesOrder_100 2 rfl ?_
          refine zw_iconst C (v := 3) dX4_goesOrder_102 (by decide) ?_
          refine zw_icmp_ne C 110 dX4_goesOrder_103 (by decide) (fun h40 => ?_) (fun h40 => ?_)
          · rw [if_neg h40] at hF
            refine zw_iconst C (v := 2) dX4_goesOrder_110 (by decide) ?_
            refine zw_aload_n C dX4_goesOrder_111 3 rfl rfl ?_
            refine zw_get C FX4 0 7 (v := .ref (b 6)) rfl (by decide) lkX4_26 rfl dX4_goesOrder_112 ?_
            refine zw_iload_n C dX4_goesOrder_115 4 rfl rfl ?_
            refine zw_iald C 6 0 (f := K2) (i := p1) rfl rfl hy1 dX4_goesOrder_116 ?_
            refine zw_iload C dX4_goesOrder_117 1 rfl ?_
            refine zw_iload C dX4_goesOrder_119 2 rfl ?_
            refine zw_if_eq C 130 dX4_goesOrder_121 (by decide) (fun h41 => ?_) (fun h41 => ?_)
            · rw [if_pos h41] at hF
              refine zw_iload C dX4_goesOrder_130 1 rfl ?_
              refine zw_goto C 137 dX4_goesOrder_132 (by decide) ?_
              obtain ⟨q42, e43⟩ : ∃ z, fX4_begins M0 M1 M2 M3 M4 M7 U0 U2 2 (K2 p1.toNatClampNeg) (M2 (M0 - 1).toNatClampNeg) (M2 (M0 - 1).toNatClampNeg) = z := ⟨_, rfl⟩
              rw [zw_l_eq e43] at hF
              refine zw_callv C kvX4_115 (kX4_begins hy2 e43) ⟨rfl, rfl, ⟨by decide, by decide⟩, by decide, by decide⟩ FX4 0 (As := [.int 2, .int (K2 p1.toNatClampNeg), .int (M2 (M0 - 1).toNatClampNeg), .int (M2 (M0 - 1).toNatClampNeg)]) (rest := []) rfl rfl rfl (Nat.le_of_ble_eq_true rfl) dX4_goesOrder_137 ?_
              refine zw_goto C 302 dX4_goesOrder_140 (by decide) ?_
              subst hF; dsimp only
              exact zw_return C hr hlk dX4_goesOrder_302 rfl
            · rw [if_neg h41] at hF
              refine zw_iload C dX4_goesOrder_124 2 rfl ?_
              refine zw_iconst C (v := 3) dX4_goesOrder_126 (by decide) ?_
              refine zw_icmp_ne C 135 dX4_goesOrder_127 (by decide) (fun h44 => ?_) (fun h44 => ?_)
              · rw [if_neg h44] at hF
                refine zw_iload C dX4_goesOrder_135 0 rfl ?_
                obtain ⟨q45, e46⟩ : ∃ z, fX4_begins M0 M1 M2 M3 M4 M7 U0 U2 2 (K2 p1.toNatClampNeg) (M2 (M0 - 1).toNatClampNeg) (M3 (M0 - 1).toNatClampNeg) = z := ⟨_, rfl⟩
                rw [zw_l_eq e46] at hF
                refine zw_callv C kvX4_115 (kX4_begins hy2 e46) ⟨rfl, rfl, ⟨by decide, by decide⟩, by decide, by decide⟩ FX4 0 (As := [.int 2, .int (K2 p1.toNatClampNeg), .int (M2 (M0 - 1).toNatClampNeg), .int (M3 (M0 - 1).toNatClampNeg)]) (rest := []) rfl rfl rfl (Nat.le_of_ble_eq_true rfl) dX4_goesOrder_137 ?_
                refine zw_goto C 302 dX4_goesOrder_140 (by decide) ?_
                subst hF; dsimp only
                exact zw_return C hr hlk dX4_goesOrder_302 rfl
              · rw [if_pos h44] at hF
                refine zw_iload C dX4_goesOrder_130 1 rfl ?_
                refine zw_goto C 137 dX4_goesOrder_132 (by decide) ?_
                obtain ⟨q47, e48⟩ : ∃ z, fX4_begins M0 M1 M2 M3 M4 M7 U0 U2 2 (K2 p1.toNatClampNeg) (M2 (M0 - 1).toNatClampNeg) (M2 (M0 - 1).toNatClampNeg) = z := ⟨_, rfl⟩
                rw [zw_l_eq e48] at hF
                refine zw_callv C kvX4_115 (kX4_begins hy2 e48) ⟨rfl, rfl, ⟨by decide, by decide⟩, by decide, by decide⟩ FX4 0 (As := [.int 2, .int (K2 p1.toNatClampNeg), .int (M2 (M0 - 1).toNatClampNeg), .int (M2 (M0 - 1).toNatClampNeg)]) (rest := []) rfl rfl rfl (Nat.le_of_ble_eq_true rfl) dX4_goesOrder_137 ?_
                refine zw_goto C 302 dX4_goesOrder_140 (by decide) ?_
                subst hF; dsimp only
                exact zw_return C hr hlk dX4_goesOrder_302 rfl
          · rw [if_pos h40] at hF
            refine zw_iconst C (v := 1) dX4_goesOrder_106 (by decide) ?_
            refine zw_goto C 111 dX4_goesOrder_107 (by decide) ?_
            refine zw_aload_n C dX4_goesOrder_111 3 rfl rfl ?_
            refine zw_get C FX4 0 7 (v := .ref (b 6)) rfl (by decide) lkX4_26 rfl dX4_goesOrder_112 ?_
            refine zw_iload_n C dX4_goesOrder_115 4 rfl rfl ?_
            refine zw_iald C 6 0 (f := K2) (i := p1) rfl rfl hy1 dX4_goesOrder_116 ?_
            refine zw_iload C dX4_goesOrder_117 1 rfl ?_
            refine zw_iload C dX4_goesOrder_119 2 rfl ?_
            refine zw_if_eq C 130 dX4_goesOrder_121 (by decide) (fun h49 => ?_) (fun h49 => ?_)
            · rw [if_pos h49] at hF
              refine zw_iload C dX4_goesOrder_130 1 rfl ?_
              refine zw_goto C 137 dX4_goesOrder_132 (by decide) ?_
              obtain ⟨q50, e51⟩ : ∃ z, fX4_begins M0 M1 M2 M3 M4 M7 U0 U2 1 (K2 p1.toNatClampNeg) (M2 (M0 - 1).toNatClampNeg) (M2 (M0 - 1).toNatClampNeg) = z := ⟨_, rfl⟩
              rw [zw_l_eq e51] at hF
              refine zw_callv C kvX4_115 (kX4_begins hy2 e51) ⟨rfl, rfl, ⟨by decide, by decide⟩, by decide, by decide⟩ FX4 0 (As := [.int 1, .int (K2 p1.toNatClampNeg), .int (M2 (M0 - 1).toNatClampNeg), .int (M2 (M0 - 1).toNatClampNeg)]) (rest := []) rfl rfl rfl (Nat.le_of_ble_eq_true rfl) dX4_goesOrder_137 ?_
              refine zw_goto C 302 dX4_goesOrder_140 (by decide) ?_
              subst hF; dsimp only
              exact zw_return C hr hlk dX4_goesOrder_302 rfl
            · rw [if_neg h49] at hF
              refine zw_iload C dX4_goesOrder_124 2 rfl ?_
              refine zw_iconst C (v := 3) dX4_goesOrder_126 (by decide) ?_
              refine zw_icmp_ne C 135 dX4_goesOrder_127 (by decide) (fun h52 => ?_) (fun h52 => ?_)
              · rw [if_neg h52] at hF
                refine zw_iload C dX4_goesOrder_135 0 rfl ?_
                obtain ⟨q53, e54⟩ : ∃ z, fX4_begins M0 M1 M2 M3 M4 M7 U0 U2 1 (K2 p1.toNatClampNeg) (M2 (M0 - 1).toNatClampNeg) (M3 (M0 - 1).toNatClampNeg) = z := ⟨_, rfl⟩
                rw [zw_l_eq e54] at hF
                refine zw_callv C kvX4_115 (kX4_begins hy2 e54) ⟨rfl, rfl, ⟨by decide, by decide⟩, by decide, by decide⟩ FX4 0 (As := [.int 1, .int (K2 p1.toNatClampNeg), .int (M2 (M0 - 1).toNatClampNeg), .int (M3 (M0 - 1).toNatClampNeg)]) (rest := []) rfl rfl rfl (Nat.le_of_ble_eq_true rfl) dX4_goesOrder_137 ?_
                refine zw_goto C 302 dX4_goesOrder_140 (by decide) ?_
                subst hF; dsimp only
                exact zw_return C hr hlk dX4_goesOrder_302 rfl
              · rw [if_pos h52] at hF
                refine zw_iload C dX4_goesOrder_130 1 rfl ?_
                refine zw_goto C 137 dX4_goesOrder_132 (by decide) ?_
                obtain ⟨q55, e56⟩ : ∃ z, fX4_begins M0 M1 M2 M3 M4 M7 U0 U2 1 (K2 p1.toNatClampNeg) (M2 (M0 - 1).toNatClampNeg) (M2 (M0 - 1).toNatClampNeg) = z := ⟨_, rfl⟩
                rw [zw_l_eq e56] at hF
                refine zw_callv C kvX4_115 (kX4_begins hy2 e56) ⟨rfl, rfl, ⟨by decide, by decide⟩, by decide, by decide⟩ FX4 0 (As := [.int 1, .int (K2 p1.toNatClampNeg), .int (M2 (M0 - 1).toNatClampNeg), .int (M2 (M0 - 1).toNatClampNeg)]) (rest := []) rfl rfl rfl (Nat.le_of_ble_eq_true rfl) dX4_goesOrder_137 ?_
                refine zw_goto C 302 dX4_goesOrder_140 (by decide) ?_
                subst hF; dsimp only
                exact zw_return C hr hlk dX4_goesOrder_302 rfl
        · rw [if_pos h39] at hF
          refine zw_iconst C (v := 0) dX4_goesOrder_96 (by decide) ?_
          refine zw_goto C 111 dX4_goesOrder_97 (by decide) ?_
          refine zw_aload_n C dX4_goesOrder_111 3 rfl rfl ?_
          refine zw_get C FX4 0 7 (v := .ref (b 6)) rfl (by decide) lkX4_26 rfl dX4_goesOrder_112 ?_
          refine zw_iload_n C dX4_goesOrder_115 4 rfl rfl ?_
          refine zw_iald C 6 0 (f := K2) (i := p1) rfl rfl hy1 dX4_goesOrder_116 ?_
          refine zw_iload C dX4_goesOrder_117 1 rfl ?_
          refine zw_iload C dX4_goesOrder_119 2 rfl ?_
          refine zw_if_eq C 130 dX4_goesOrder_121 (by decide) (fun h57 => ?_) (fun h57 => ?_)
          · rw [if_pos h57] at hF
            refine zw_iload C dX4_goesOrder_130 1 rfl ?_
            refine zw_goto C 137 dX4_goesOrder_132 (by decide) ?_
            obtain ⟨q58, e59⟩ : ∃ z, fX4_begins M0 M1 M2 M3 M4 M7 U0 U2 0 (K2 p1.toNatClampNeg) (M2 (M0 - 1).toNatClampNeg) (M2 (M0 - 1).toNatClampNeg) = z := ⟨_, rfl⟩
            rw [zw_l_eq e59] at hF
            refine zw_callv C kvX4_115 (kX4_begins hy2 e59) ⟨rfl, rfl, ⟨by decide, by decide⟩, by decide, by decide⟩ FX4 0 (As := [.int 0, .int (K2 p1.toNatClampNeg), .int (M2 (M0 - 1).toNatClampNeg), .int (M2 (M0 - 1).toNatClampNeg)]) (rest := []) rfl rfl rfl (Nat.le_of_ble_eq_true rfl) dX4_goesOrder_137 ?_
            refine zw_goto C 302 dX4_goesOrder_140 (by decide) ?_
            subst hF; dsimp only
            exact zw_return C hr hlk dX4_goesOrder_302 rfl
          · rw [if_neg h57] at hF
            refine zw_iload C dX4_goesOrder_124 2 rfl ?_
            refine zw_iconst C (v := 3) dX4_goesOrder_126 (by decide) ?_
            refine zw_icmp_ne C 135 dX4_goesOrder_127 (by decide) (fun h60 => ?_) (fun h60 => ?_)
            · rw [if_neg h60] at hF
              refine zw_iload C dX4_goesOrder_135 0 rfl ?_
              obtain ⟨q61, e62⟩ : ∃ z, fX4_begins M0 M1 M2 M3 M4 M7 U0 U2 0 (K2 p1.toNatClampNeg) (M2 (M0 - 1).toNatClampNeg) (M3 (M0 - 1).toNatClampNeg) = z := ⟨_, rfl⟩
              rw [zw_l_eq e62] at hF
              refine zw_callv C kvX4_115 (kX4_begins hy2 e62) ⟨rfl, rfl, ⟨by decide, by decide⟩, by decide, by decide⟩ FX4 0 (As := [.int 0, .int (K2 p1.toNatClampNeg), .int (M2 (M0 - 1).toNatClampNeg), .int (M3 (M0 - 1).toNatClampNeg)]) (rest := []) rfl rfl rfl (Nat.le_of_ble_eq_true rfl) dX4_goesOrder_137 ?_
              refine zw_goto C 302 dX4_goesOrder_140 (by decide) ?_
              subst hF; dsimp only
              exact zw_return C hr hlk dX4_goesOrder_302 rfl
            · rw [if_pos h60] at hF
              refine zw_iload C dX4_goesOrder_130 1 rfl ?_
              refine zw_goto C 137 dX4_goesOrder_132 (by decide) ?_
              obtain ⟨q63, e64⟩ : ∃ z, fX4_begins M0 M1 M2 M3 M4 M7 U0 U2 0 (K2 p1.toNatClampNeg) (M2 (M0 - 1).toNatClampNeg) (M2 (M0 - 1).toNatClampNeg) = z := ⟨_, rfl⟩
              rw [zw_l_eq e64] at hF
              refine zw_callv C kvX4_115 (kX4_begins hy2 e64) ⟨rfl, rfl, ⟨by decide, by decide⟩, by decide, by decide⟩ FX4 0 (As := [.int 0, .int (K2 p1.toNatClampNeg), .int (M2 (M0 - 1).toNatClampNeg), .int (M2 (M0 - 1).toNatClampNeg)]) (rest := []) rfl rfl rfl (Nat.le_of_ble_eq_true rfl) dX4_goesOrder_137 ?_
              refine zw_goto C 302 dX4_goesOrder_140 (by decide) ?_
              subst hF; dsimp only
              exact zw_return C hr hlk dX4_goesOrder_302 rfl
    · rw [if_pos h2] at hF
      refine zw_aload_n C dX4_goesOrder_54 3 rfl rfl ?_
      refine zw_iload C dX4_goesOrder_55 1 rfl ?_
      refine zw_iload C dX4_goesOrder_57 0 rfl ?_
      refine zw_icmp_ge C 68 dX4_goesOrder_59 (by decide) (fun h65 => ?_) (fun h65 => ?_)
      · rw [if_pos h65] at hF
        refine zw_iload C dX4_goesOrder_68 1 rfl ?_
        refine zw_iload C dX4_goesOrder_70 0 rfl ?_
        refine zw_icmp_le C 79 dX4_goesOrder_72 (by decide) (fun h66 => ?_) (fun h66 => ?_)
        · rw [if_pos h66] at hF
          refine zw_lconst C (v := 0) dX4_goesOrder_79 (by decide) ?_
          obtain ⟨q67, e68⟩ : ∃ z, fX4_tells M0 0 = z := ⟨_, rfl⟩
          rw [zw_l_eq e68] at hF
          refine zw_callv C kvX4_111 (kX4_tells e68) ⟨rfl, rfl, ⟨by decide, by decide⟩, by decide, by decide⟩ FX4 0 (As := [.long 0]) (rest := []) rfl rfl rfl (Nat.le_of_ble_eq_true rfl) dX4_goesOrder_80 ?_
          refine zw_goto C 302 dX4_goesOrder_83 (by decide) ?_
          subst hF; dsimp only
          exact zw_return C hr hlk dX4_goesOrder_302 rfl
        · rw [if_neg h66] at hF
          refine zw_lconst C (v := 1) dX4_goesOrder_75 (by decide) ?_
          refine zw_goto C 80 dX4_goesOrder_76 (by decide) ?_
          obtain ⟨q69, e70⟩ : ∃ z, fX4_tells M0 1 = z := ⟨_, rfl⟩
          rw [zw_l_eq e70] at hF
          refine zw_callv C kvX4_111 (kX4_tells e70) ⟨rfl, rfl, ⟨by decide, by decide⟩, by decide, by decide⟩ FX4 0 (As := [.long 1]) (rest := []) rfl rfl rfl (Nat.le_of_ble_eq_true rfl) dX4_goesOrder_80 ?_
          refine zw_goto C 302 dX4_goesOrder_83 (by decide) ?_
          subst hF; dsimp only
          exact zw_return C hr hlk dX4_goesOrder_302 rfl
      · rw [if_neg h65] at hF
        refine zw_ldc2 C lkcX4_125 dX4_goesOrder_62 ?_
        refine zw_goto C 80 dX4_goesOrder_65 (by decide) ?_
        obtain ⟨q71, e72⟩ : ∃ z, fX4_tells M0 (-1) = z := ⟨_, rfl⟩
        rw [zw_l_eq e72] at hF
        refine zw_callv C kvX4_111 (kX4_tells e72) ⟨rfl, rfl, ⟨by decide, by decide⟩, by decide, by decide⟩ FX4 0 (As := [.long (-1)]) (rest := []) rfl rfl rfl (Nat.le_of_ble_eq_true rfl) dX4_goesOrder_80 ?_
        refine zw_goto C 302 dX4_goesOrder_83 (by decide) ?_
        subst hF; dsimp only
        exact zw_return C hr hlk dX4_goesOrder_302 rfl
  · rw [if_pos h1] at hF
    refine zw_aload_n C dX4_goesOrder_40 3 rfl rfl ?_
    refine zw_iconst C (v := 3) dX4_goesOrder_41 (by decide) ?_
    refine zw_put C FX4 GX4 0 18 (v := .int 3) (ws2 := (wM cI cL b B0 B1 B2 B3 B4 B5 B6 K0 K1 K2 K3 K4 E0 M0 M1 M2 M3 M4 M5 M6 3 U0 U1 U2 U3 U4 U5 G0 G1 G2 G3 G4 N0 N1 N2 N3)) rfl (by decide) lkX4_98 rfl rfl rfl (Nat.le_of_ble_eq_true rfl) rfl dX4_goesOrder_42 ?_
    refine zw_goto C 302 dX4_goesOrder_45 (by decide) ?_
    subst hF; dsimp only
    exact zw_return C hr hlk dX4_goesOrder_302 rfl
def fX4_recovers_loop (K1 M1 M4 : Nat → Int32) (M7 : Int32) : Nat → Int32 → Int32 → Int32 × Int32
  | 0, M0, x1 => (M0, x1)
  | n + 1, M0, x1 => (if M0 ≤ 0 then (M0, x1) else (if x1 = 0 then (if M7 = 4 then fX4_recovers_loop K1 M1 M4 M7 n (M0 - 1) 0 else (if (M1 (M0 - 1).toNatClampNeg) < 24 then fX4_recovers_loop K1 M1 M4 M7 n (M0 - 1) 0 else (if 48 ≤ (M1 (M0 - 1).toNatClampNeg) then fX4_recovers_loop K1 M1 M4 M7 n (M0 - 1) 0 else (if (K1 (M1 (M0 - 1).toNatClampNeg).toNatClampNeg) = 8 then (if (M4 (M0 - 1).toNatClampNeg) ≤ 0 then fX4_recovers_loop K1 M1 M4 M7 n (M0 - 1) 0 else fX4_recovers_loop K1 M1 M4 M7 n (M0 - 1) 1) else fX4_recovers_loop K1 M1 M4 M7 n (M0 - 1) 0)))) else (M0, x1)))
set_option maxHeartbeats 4000000 in
set_option maxRecDepth 100000 in
theorem kX4_recovers_loop {p : Program} {l : Launch} {e : Env} {s : State} {m : MethodId} {args : Array Value} {below : List Frame} {meth : Method} {c : Code} {A : Nat → Prop} {Q : State → Prop} {D : va_G} {cI cL : ClassId} {b : Nat → Nat} {B0 : Int32} {B1 : Int32} {B2 : Int64} {B3 : (Nat → Int64)} {B4 : (Nat → Int64)} {B5 : (Nat → Int32)} {B6 : (Nat → Int32)} {K0 : (Nat → Int32)} {K1 : (Nat → Int32)} {K2 : (Nat → Int32)} {K3 : (Nat → Int32)} {K4 : (Nat → Int64)} {E0 : (Nat → Int32)} {M1 : (Nat → Int32)} {M2 : (Nat → Int32)} {M3 : (Nat → Int32)} {M4 : (Nat → Int32)} {M5 : (Nat → Int64)} {M6 : Int64} {M7 : Int32} {U0 : Int32} {U1 : Int32} {U2 : Int32} {U3 : Int32} {U4 : Int32} {U5 : Int32} {G0 : Int32} {G1 : (Nat → Int64)} {G2 : (Nat → Int32)} {G3 : (Nat → Int64)} {G4 : (Nat → Int32)} {N0 : (Nat → Int64)} {N1 : (Nat → Int32)} {N2 : (Nat → Int64)} {N3 : (Nat → Int32)}  (C : zw_C p s m args c D (zw_tys cI cL) A RX4 cX4_recovers 3) : ∀ (n : Nat) (M0 : Int32) (x1 : Int32) (q : Int32 × Int32), (∃ i : Nat, M0 = nI i ∧ i ≤ 80 ∧ i < n) → fX4_recovers_loop K1 M1 M4 M7 n M0 x1 = q → (zw_W p l e (zw_rm 0 0) s m args below meth c D A 3 Q 0 0 (wM cI cL b B0 B1 B2 B3 B4 B5 B6 K0 K1 K2 K3 K4 E0 q.1 M1 M2 M3 M4 M5 M6 M7 U0 U1 U2 U3 U4 U5 G0 G1 G2 G3 G4 N0 N1 N2 N3) 89 [(0, .ref (b 0)), (1, .int q.2)] []) → zw_W p l e (zw_rm 0 0) s m args below meth c D A 3 Q 0 0 (wM cI cL b B0 B1 B2 B3 B4 B5 B6 K0 K1 K2 K3 K4 E0 M0 M1 M2 M3 M4 M5 M6 M7 U0 U1 U2 U3 U4 U5 G0 G1 G2 G3 G4 N0 N1 N2 N3) 2 [(0, .ref (b 0)), (1, .int x1)] [] := by
  intro n
  induction n with
  | zero =>
    intro M0 x1 q hI hF kx
    obtain ⟨i, -, -, h4⟩ := hI; exact absurd h4 (by omega)
  | succ n ih =>
    intro M0 x1 q hI hF kx
    obtain ⟨i, z0, hi, hn⟩ := hI
    rw [fX4_recovers_loop] at hF
    refine zw_aload_n C dX4_recovers_2 0 rfl rfl ?_
    refine zw_get C FX4 0 11 (v := .int M0) rfl (by decide) lkX4_104 rfl dX4_recovers_3 ?_
    refine zw_if_le C 89 dX4_recovers_6 (by decide) (fun h1 => ?_) (fun h1 => ?_)
    · rw [if_pos h1] at hF
      subst hF; dsimp only at kx
      exact zw_locals [0, 1] rfl kx
    · rw [if_neg h1] at hF
      refine zw_iload_n C dX4_recovers_9 1 rfl rfl ?_
      refine zw_if_ne C 89 dX4_recovers_10 (by decide) (fun h2 => ?_) (fun h2 => ?_)
      · rw [if_neg h2] at hF
        subst hF; dsimp only at kx
        exact zw_locals [0, 1] rfl kx
      · rw [if_pos h2] at hF
        refine zw_aload_n C dX4_recovers_13 0 rfl rfl ?_
        refine zw_get C FX4 0 12 (v := .ref (b 10)) rfl (by decide) lkX4_38 rfl dX4_recovers_14 ?_
        refine zw_aload_n C dX4_recovers_17 0 rfl rfl ?_
        refine zw_get C FX4 0 11 (v := .int M0) rfl (by decide) lkX4_104 rfl dX4_recovers_18 ?_
        refine zw_iconst C (v := 1) dX4_recovers_21 (by decide) ?_
        refine zw_isub C dX4_recovers_22 ?_
        refine zw_iald C 10 0 (f := M1) (i := (M0 - 1)) rfl rfl (by obtain ⟨m, em, e5, e6⟩ := dm_pred z0 hi (by assumption); exact e6) dX4_recovers_23 ?_
        refine zw_istore_n C dX4_recovers_24 rfl (by decide) rfl ?_
        refine zw_aload_n C dX4_recovers_25 1 rfl rfl ?_
        refine zw_get C FX4 0 18 (v := .int M7) rfl (by decide) lkX4_98 rfl dX4_recovers_26 ?_
        refine zw_iconst C (v := 4) dX4_recovers_29 (by decide) ?_
        refine zw_icmp_eq C 74 dX4_recovers_30 (by decide) (fun h3 => ?_) (fun h3 => ?_)
        · rw [if_pos h3] at hF
          refine zw_iconst C (v := 0) dX4_recovers_74 (by decide) ?_
          refine zw_istore_n C dX4_recovers_75 rfl (by decide) rfl ?_
          refine zw_aload_n C dX4_recovers_76 2 rfl rfl ?_
          refine zw_dup C dX4_recovers_77 rfl ?_
          refine zw_get C FX4 0 11 (v := .int M0) rfl (by decide) lkX4_104 rfl dX4_recovers_78 ?_
          refine zw_iconst C (v := 1) dX4_recovers_81 (by decide) ?_
          refine zw_isub C dX4_recovers_82 ?_
          refine zw_put C FX4 GX4 0 11 (v := .int (M0 - 1)) (ws2 := (wM cI cL b B0 B1 B2 B3 B4 B5 B6 K0 K1 K2 K3 K4 E0 (M0 - 1) M1 M2 M3 M4 M5 M6 M7 U0 U1 U2 U3 U4 U5 G0 G1 G2 G3 G4 N0 N1 N2 N3)) rfl (by decide) lkX4_104 rfl rfl rfl (Nat.le_of_ble_eq_true rfl) rfl dX4_recovers_83 ?_
          refine zw_goto C 2 dX4_recovers_86 (by decide) ?_
          refine zw_locals [2, 0] (lv2 := [(0, .ref (b 0)), (1, .int 0)]) rfl ?_
          exact ih (M0 - 1) 0 q (by obtain ⟨m, em, e5, e6⟩ := dm_pred z0 hi (by assumption); exact ⟨m, e5, by omega, by omega⟩) hF kx
        · rw [if_neg h3] at hF
          refine zw_iload_n C dX4_recovers_33 0 rfl rfl ?_
          refine zw_bipush C (v := 24) dX4_recovers_34 (by decide) ?_
          refine zw_icmp_lt C 74 dX4_recovers_36 (by decide) (fun h4 => ?_) (fun h4 => ?_)
          · rw [if_pos h4] at hF
            refine zw_iconst C (v := 0) dX4_recovers_74 (by decide) ?_
            refine zw_istore_n C dX4_recovers_75 rfl (by decide) rfl ?_
            refine zw_aload_n C dX4_recovers_76 2 rfl rfl ?_
            refine zw_dup C dX4_recovers_77 rfl ?_
            refine zw_get C FX4 0 11 (v := .int M0) rfl (by decide) lkX4_104 rfl dX4_recovers_78 ?_
            refine zw_iconst C (v := 1) dX4_recovers_81 (by decide) ?_
            refine zw_isub C dX4_recovers_82 ?_
            refine zw_put C FX4 GX4 0 11 (v := .int (M0 - 1)) (ws2 := (wM cI cL b B0 B1 B2 B3 B4 B5 B6 K0 K1 K2 K3 K4 E0 (M0 - 1) M1 M2 M3 M4 M5 M6 M7 U0 U1 U2 U3 U4 U5 G0 G1 G2 G3 G4 N0 N1 N2 N3)) rfl (by decide) lkX4_104 rfl rfl rfl (Nat.le_of_ble_eq_true rfl) rfl dX4_recovers_83 ?_
            refine zw_goto C 2 dX4_recovers_86 (by decide) ?_
            refine zw_locals [2, 0] (lv2 := [(0, .ref (b 0)), (1, .int 0)]) rfl ?_
            exact ih (M0 - 1) 0 q (by obtain ⟨m, em, e5, e6⟩ := dm_pred z0 hi (by assumption); exact ⟨m, e5, by omega, by omega⟩) hF kx
          · rw [if_neg h4] at hF
            refine zw_iload_n C dX4_recovers_39 0 rfl rfl ?_
            refine zw_bipush C (v := 48) dX4_recovers_40 (by decide) ?_
            refine zw_icmp_ge C 74 dX4_recovers_42 (by decide) (fun h5 => ?_) (fun h5 => ?_)
            · rw [if_pos h5] at hF
              refine zw_iconst C (v := 0) dX4_recovers_74 (by decide) ?_
              refine zw_istore_n C dX4_recovers_75 rfl (by decide) rfl ?_
              refine zw_aload_n C dX4_recovers_76 2 rfl rfl ?_
              refine zw_dup C dX4_recovers_77 rfl ?_
              refine zw_get C FX4 0 11 (v := .int M0) rfl (by decide) lkX4_104 rfl dX4_recovers_78 ?_
              refine zw_iconst C (v := 1) dX4_recovers_81 (by decide) ?_
              refine zw_isub C dX4_recovers_82 ?_
              refine zw_put C FX4 GX4 0 11 (v := .int (M0 - 1)) (ws2 := (wM cI cL b B0 B1 B2 B3 B4 B5 B6 K0 K1 K2 K3 K4 E0 (M0 - 1) M1 M2 M3 M4 M5 M6 M7 U0 U1 U2 U3 U4 U5 G0 G1 G2 G3 G4 N0 N1 N2 N3)) rfl (by decide) lkX4_104 rfl rfl rfl (Nat.le_of_ble_eq_true rfl) rfl dX4_recovers_83 ?_
              refine zw_goto C 2 dX4_recovers_86 (by decide) ?_
              refine zw_locals [2, 0] (lv2 := [(0, .ref (b 0)), (1, .int 0)]) rfl ?_
              exact ih (M0 - 1) 0 q (by obtain ⟨m, em, e5, e6⟩ := dm_pred z0 hi (by assumption); exact ⟨m, e5, by omega, by omega⟩) hF kx
            · rw [if_neg h5] at hF
              refine zw_aload_n C dX4_recovers_45 1 rfl rfl ?_
              refine zw_get C FX4 0 6 (v := .ref (b 5)) rfl (by decide) lkX4_23 rfl dX4_recovers_46 ?_
              refine zw_iload_n C dX4_recovers_49 0 rfl rfl ?_
              refine zw_iald C 5 0 (f := K1) (i := (M1 (M0 - 1).toNatClampNeg)) rfl rfl (dm_w72 (by assumption) (by assumption)) dX4_recovers_50 ?_
              refine zw_bipush C (v := 8) dX4_recovers_51 (by decide) ?_
              refine zw_icmp_ne C 74 dX4_recovers_53 (by decide) (fun h6 => ?_) (fun h6 => ?_)
              · rw [if_neg h6] at hF
                refine zw_iconst C (v := 0) dX4_recovers_74 (by decide) ?_
                refine zw_istore_n C dX4_recovers_75 rfl (by decide) rfl ?_
                refine zw_aload_n C dX4_recovers_76 2 rfl rfl ?_
                refine zw_dup C dX4_recovers_77 rfl ?_
                refine zw_get C FX4 0 11 (v := .int M0) rfl (by decide) lkX4_104 rfl dX4_recovers_78 ?_
                refine zw_iconst C (v := 1) dX4_recovers_81 (by decide) ?_
                refine zw_isub C dX4_recovers_82 ?_
                refine zw_put C FX4 GX4 0 11 (v := .int (M0 - 1)) (ws2 := (wM cI cL b B0 B1 B2 B3 B4 B5 B6 K0 K1 K2 K3 K4 E0 (M0 - 1) M1 M2 M3 M4 M5 M6 M7 U0 U1 U2 U3 U4 U5 G0 G1 G2 G3 G4 N0 N1 N2 N3)) rfl (by decide) lkX4_104 rfl rfl rfl (Nat.le_of_ble_eq_true rfl) rfl dX4_recovers_83 ?_
                refine zw_goto C 2 dX4_recovers_86 (by decide) ?_
                refine zw_locals [2, 0] (lv2 := [(0, .ref (b 0)), (1, .int 0)]) rfl ?_
                exact ih (M0 - 1) 0 q (by obtain ⟨m, em, e5, e6⟩ := dm_pred z0 hi (by assumption); exact ⟨m, e5, by omega, by omega⟩) hF kx
              · rw [if_pos h6] at hF
                refine zw_aload_n C dX4_recovers_56 1 rfl rfl ?_
                refine zw_get C FX4 0 15 (v := .ref (b 13)) rfl (by decide) lkX4_47 rfl dX4_recovers_57 ?_
                refine zw_aload_n C dX4_recovers_60 1 rfl rfl ?_
                refine zw_get C FX4 0 11 (v := .int M0) rfl (by decide) lkX4_104 rfl dX4_recovers_61 ?_
                refine zw_iconst C (v := 1) dX4_recovers_64 (by decide) ?_
                refine zw_isub C dX4_recovers_65 ?_
                refine zw_iald C 13 0 (f := M4) (i := (M0 - 1)) rfl rfl (by obtain ⟨m, em, e5, e6⟩ := dm_pred z0 hi (by assumption); exact e6) dX4_recovers_66 ?_
                refine zw_if_le C 74 dX4_recovers_67 (by decide) (fun h7 => ?_) (fun h7 => ?_)
                · rw [if_pos h7] at hF
                  refine zw_iconst C (v := 0) dX4_recovers_74 (by decide) ?_
                  refine zw_istore_n C dX4_recovers_75 rfl (by decide) rfl ?_
                  refine zw_aload_n C dX4_recovers_76 2 rfl rfl ?_
                  refine zw_dup C dX4_recovers_77 rfl ?_
                  refine zw_get C FX4 0 11 (v := .int M0) rfl (by decide) lkX4_104 rfl dX4_recovers_78 ?_
                  refine zw_iconst C (v := 1) dX4_recovers_81 (by decide) ?_
                  refine zw_isub C dX4_recovers_82 ?_
                  refine zw_put C FX4 GX4 0 11 (v := .int (M0 - 1)) (ws2 := (wM cI cL b B0 B1 B2 B3 B4 B5 B6 K0 K1 K2 K3 K4 E0 (M0 - 1) M1 M2 M3 M4 M5 M6 M7 U0 U1 U2 U3 U4 U5 G0 G1 G2 G3 G4 N0 N1 N2 N3)) rfl (by decide) lkX4_104 rfl rfl rfl (Nat.le_of_ble_eq_true rfl) rfl dX4_recovers_83 ?_
                  refine zw_goto C 2 dX4_recovers_86 (by decide) ?_
                  refine zw_locals [2, 0] (lv2 := [(0, .ref (b 0)), (1, .int 0)]) rfl ?_
                  exact ih (M0 - 1) 0 q (by obtain ⟨m, em, e5, e6⟩ := dm_pred z0 hi (by assumption); exact ⟨m, e5, by omega, by omega⟩) hF kx
                · rw [if_neg h7] at hF
                  refine zw_iconst C (v := 1) dX4_recovers_70 (by decide) ?_
                  refine zw_goto C 75 dX4_recovers_71 (by decide) ?_
                  refine zw_istore_n C dX4_recovers_75 rfl (by decide) rfl ?_
                  refine zw_aload_n C dX4_recovers_76 2 rfl rfl ?_
                  refine zw_dup C dX4_recovers_77 rfl ?_
                  refine zw_get C FX4 0 11 (v := .int M0) rfl (by decide) lkX4_104 rfl dX4_recovers_78 ?_
                  refine zw_iconst C (v := 1) dX4_recovers_81 (by decide) ?_
                  refine zw_isub C dX4_recovers_82 ?_
                  refine zw_put C FX4 GX4 0 11 (v := .int (M0 - 1)) (ws2 := (wM cI cL b B0 B1 B2 B3 B4 B5 B6 K0 K1 K2 K3 K4 E0 (M0 - 1) M1 M2 M3 M4 M5 M6 M7 U0 U1 U2 U3 U4 U5 G0 G1 G2 G3 G4 N0 N1 N2 N3)) rfl (by decide) lkX4_104 rfl rfl rfl (Nat.le_of_ble_eq_true rfl) rfl dX4_recovers_83 ?_
                  refine zw_goto C 2 dX4_recovers_86 (by decide) ?_
                  refine zw_locals [2, 0] (lv2 := [(0, .ref (b 0)), (1, .int 1)]) rfl ?_
                  exact ih (M0 - 1) 1 q (by obtain ⟨m, em, e5, e6⟩ := dm_pred z0 hi (by assumption); exact ⟨m, e5, by omega, by omega⟩) hF kx
def fX4_recovers (K1 : (Nat → Int32)) (M0 : Int32) (M1 : (Nat → Int32)) (M4 : (Nat → Int32)) (M6 : Int64) (M7 : Int32) (U3 : Int32) : Int32 × Int64 × Int32 × Int32 := (zw_l (fX4_recovers_loop K1 M1 M4 M7 81 M0 0) (fun q1 => (if q1.2 = 0 then (q1.1, M6, M7, U3) else (q1.1, 0, 0, U3 + 1))))
set_option maxHeartbeats 4000000 in
set_option maxRecDepth 100000 in
theorem kX4_recovers {l : Launch} {D : va_G} {cI cL : ClassId} {b : Nat → Nat} {B0 : Int32} {B1 : Int32} {B2 : Int64} {B3 : (Nat → Int64)} {B4 : (Nat → Int64)} {B5 : (Nat → Int32)} {B6 : (Nat → Int32)} {K0 : (Nat → Int32)} {K1 : (Nat → Int32)} {K2 : (Nat → Int32)} {K3 : (Nat → Int32)} {K4 : (Nat → Int64)} {E0 : (Nat → Int32)} {M0 : Int32} {M1 : (Nat → Int32)} {M2 : (Nat → Int32)} {M3 : (Nat → Int32)} {M4 : (Nat → Int32)} {M5 : (Nat → Int64)} {M6 : Int64} {M7 : Int32} {U0 : Int32} {U1 : Int32} {U2 : Int32} {U3 : Int32} {U4 : Int32} {U5 : Int32} {G0 : Int32} {G1 : (Nat → Int64)} {G2 : (Nat → Int32)} {G3 : (Nat → Int64)} {G4 : (Nat → Int32)} {N0 : (Nat → Int64)} {N1 : (Nat → Int32)} {N2 : (Nat → Int64)} {N3 : (Nat → Int32)} {q : Int32 × Int64 × Int32 × Int32} (hy1 : ∃ i : Nat, i ≤ 80 ∧ M0 = nI i) (hF : fX4_recovers K1 M0 M1 M4 M6 M7 U3 = q) : zw_Mv l yX4_recovers cX4_recovers 3 D (zw_tys cI cL) (zw_rm 0 0) [.ref (b 0)] (wM cI cL b B0 B1 B2 B3 B4 B5 B6 K0 K1 K2 K3 K4 E0 M0 M1 M2 M3 M4 M5 M6 M7 U0 U1 U2 U3 U4 U5 G0 G1 G2 G3 G4 N0 N1 N2 N3) (wM cI cL b B0 B1 B2 B3 B4 B5 B6 K0 K1 K2 K3 K4 E0 q.1 M1 M2 M3 M4 M5 q.2.1 q.2.2.1 U0 U1 U2 q.2.2.2 U4 U5 G0 G1 G2 G3 G4 N0 N1 N2 N3) := by
  unfold fX4_recovers at hF
  refine zw_Mv_of (own := RX4) (by decide) rfl (Nat.le_of_ble_eq_true rfl) ?_
  intro p e s m args below meth c A C hr hlk
  refine zw_eq (lv2 := [(0, .ref (b 0))]) rfl rfl rfl ?_
  refine zw_iconst C (v := 0) dX4_recovers_0 (by decide) ?_
  refine zw_istore_n C dX4_recovers_1 rfl (by decide) rfl ?_
  obtain ⟨q1, e2⟩ : ∃ z, fX4_recovers_loop K1 M1 M4 M7 81 M0 0 = z := ⟨_, rfl⟩
  rw [zw_l_eq e2] at hF
  refine zw_locals [1, 0] (lv2 := [(0, .ref (b 0)), (1, .int 0)]) rfl ?_
  refine kX4_recovers_loop C  81 M0 0 q1 (by obtain ⟨i, hi, ei⟩ := hy1; exact ⟨i, ei, hi, by omega⟩) e2 ?_
  refine zw_iload_n C dX4_recovers_89 1 rfl rfl ?_
  refine zw_if_eq C 113 dX4_recovers_90 (by decide) (fun h3 => ?_) (fun h3 => ?_)
  · rw [if_pos h3] at hF
    subst hF; dsimp only
    exact zw_return C hr hlk dX4_recovers_113 rfl
  · rw [if_neg h3] at hF
    refine zw_aload_n C dX4_recovers_93 0 rfl rfl ?_
    refine zw_iconst C (v := 0) dX4_recovers_94 (by decide) ?_
    refine zw_put C FX4 GX4 0 18 (v := .int 0) (ws2 := (wM cI cL b B0 B1 B2 B3 B4 B5 B6 K0 K1 K2 K3 K4 E0 q1.1 M1 M2 M3 M4 M5 M6 0 U0 U1 U2 U3 U4 U5 G0 G1 G2 G3 G4 N0 N1 N2 N3)) rfl (by decide) lkX4_98 rfl rfl rfl (Nat.le_of_ble_eq_true rfl) rfl dX4_recovers_95 ?_
    refine zw_aload_n C dX4_recovers_98 0 rfl rfl ?_
    refine zw_dup C dX4_recovers_99 rfl ?_
    refine zw_get C FX4 0 22 (v := .int U3) rfl (by decide) lkX4_127 rfl dX4_recovers_100 ?_
    refine zw_iconst C (v := 1) dX4_recovers_103 (by decide) ?_
    refine zw_iadd C dX4_recovers_104 ?_
    refine zw_put C FX4 GX4 0 22 (v := .int (U3 + 1)) (ws2 := (wM cI cL b B0 B1 B2 B3 B4 B5 B6 K0 K1 K2 K3 K4 E0 q1.1 M1 M2 M3 M4 M5 M6 0 U0 U1 U2 (U3 + 1) U4 U5 G0 G1 G2 G3 G4 N0 N1 N2 N3)) rfl (by decide) lkX4_127 rfl rfl rfl (Nat.le_of_ble_eq_true rfl) rfl dX4_recovers_105 ?_
    refine zw_aload_n C dX4_recovers_108 0 rfl rfl ?_
    refine zw_lconst C (v := 0) dX4_recovers_109 (by decide) ?_
    refine zw_put C FX4 GX4 0 17 (v := .long 0) (ws2 := (wM cI cL b B0 B1 B2 B3 B4 B5 B6 K0 K1 K2 K3 K4 E0 q1.1 M1 M2 M3 M4 M5 0 0 U0 U1 U2 (U3 + 1) U4 U5 G0 G1 G2 G3 G4 N0 N1 N2 N3)) rfl (by decide) lkX4_107 rfl rfl rfl (Nat.le_of_ble_eq_true rfl) rfl dX4_recovers_110 ?_
    subst hF; dsimp only
    exact zw_return C hr hlk dX4_recovers_113 rfl
end
