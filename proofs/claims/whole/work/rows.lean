section
-- ===== PART A: goes FIRST, ahead of the names: the tables' words, and 'selects' of the private methods out of them =====
/-- a private method of a class that the tables say can be made, by its rows of tables_1 -/
def lw_okq (q : MethodName × Nat) : Prop := (q.1.cls ≠ "java/lang/invoke/MethodHandle" ∧ q.1.cls ≠ "java/lang/invoke/VarHandle") ∧ Cond.instantiable q.1.cls q.2 ∈ tables_1 ∧ Cond.privateMethod q.1 ∈ tables_1 ∧ Cond.instanceMethod q.1 ∈ tables_1
theorem lw_p0 : lw_okq (⟨"SieveDesk", "isThing", "(I)Z"⟩, 13) := ⟨⟨by decide +kernel, by decide +kernel⟩, List.mem_of_getElem? (i := 9) (by decide +kernel), List.mem_of_getElem? (i := 150) (by decide +kernel), List.mem_of_getElem? (i := 151) (by decide +kernel)⟩
theorem lw_p1 : lw_okq (⟨"SieveDesk", "canMakeScale", "(III)Z"⟩, 13) := ⟨⟨by decide +kernel, by decide +kernel⟩, List.mem_of_getElem? (i := 9) (by decide +kernel), List.mem_of_getElem? (i := 181) (by decide +kernel), List.mem_of_getElem? (i := 182) (by decide +kernel)⟩
theorem lw_p2 : lw_okq (⟨"SieveDesk", "makeNow", "(II)I"⟩, 13) := ⟨⟨by decide +kernel, by decide +kernel⟩, List.mem_of_getElem? (i := 9) (by decide +kernel), List.mem_of_getElem? (i := 193) (by decide +kernel), List.mem_of_getElem? (i := 194) (by decide +kernel)⟩
theorem lw_p3 : lw_okq (⟨"SieveDesk", "askScale", "(II)J"⟩, 13) := ⟨⟨by decide +kernel, by decide +kernel⟩, List.mem_of_getElem? (i := 9) (by decide +kernel), List.mem_of_getElem? (i := 201) (by decide +kernel), List.mem_of_getElem? (i := 202) (by decide +kernel)⟩
theorem lw_p4 : lw_okq (⟨"SieveDesk", "quotient", "(JJ)J"⟩, 13) := ⟨⟨by decide +kernel, by decide +kernel⟩, List.mem_of_getElem? (i := 9) (by decide +kernel), List.mem_of_getElem? (i := 217) (by decide +kernel), List.mem_of_getElem? (i := 218) (by decide +kernel)⟩
theorem lw_p5 : lw_okq (⟨"SieveDesk", "askSieve", "(II)Z"⟩, 13) := ⟨⟨by decide +kernel, by decide +kernel⟩, List.mem_of_getElem? (i := 9) (by decide +kernel), List.mem_of_getElem? (i := 225) (by decide +kernel), List.mem_of_getElem? (i := 226) (by decide +kernel)⟩
theorem lw_p6 : lw_okq (⟨"SieveDesk", "askSafely", "(II)Z"⟩, 13) := ⟨⟨by decide +kernel, by decide +kernel⟩, List.mem_of_getElem? (i := 9) (by decide +kernel), List.mem_of_getElem? (i := 236) (by decide +kernel), List.mem_of_getElem? (i := 237) (by decide +kernel)⟩
theorem lw_p7 : lw_okq (⟨"SieveDesk", "itemAt", "(J)J"⟩, 13) := ⟨⟨by decide +kernel, by decide +kernel⟩, List.mem_of_getElem? (i := 9) (by decide +kernel), List.mem_of_getElem? (i := 244) (by decide +kernel), List.mem_of_getElem? (i := 245) (by decide +kernel)⟩
theorem lw_p8 : lw_okq (⟨"SieveDesk", "canMakeSieve", "(III)Z"⟩, 13) := ⟨⟨by decide +kernel, by decide +kernel⟩, List.mem_of_getElem? (i := 9) (by decide +kernel), List.mem_of_getElem? (i := 261) (by decide +kernel), List.mem_of_getElem? (i := 262) (by decide +kernel)⟩
theorem lw_p9 : lw_okq (⟨"SieveDesk", "canMakeOrder", "(III)Z"⟩, 13) := ⟨⟨by decide +kernel, by decide +kernel⟩, List.mem_of_getElem? (i := 9) (by decide +kernel), List.mem_of_getElem? (i := 269) (by decide +kernel), List.mem_of_getElem? (i := 270) (by decide +kernel)⟩
theorem lw_p10 : lw_okq (⟨"SieveDesk", "takeDraft", "(I)V"⟩, 13) := ⟨⟨by decide +kernel, by decide +kernel⟩, List.mem_of_getElem? (i := 9) (by decide +kernel), List.mem_of_getElem? (i := 281) (by decide +kernel), List.mem_of_getElem? (i := 282) (by decide +kernel)⟩
theorem lw_p11 : lw_okq (⟨"SieveDesk", "moveForward", "(II)I"⟩, 13) := ⟨⟨by decide +kernel, by decide +kernel⟩, List.mem_of_getElem? (i := 9) (by decide +kernel), List.mem_of_getElem? (i := 292) (by decide +kernel), List.mem_of_getElem? (i := 293) (by decide +kernel)⟩
theorem lw_p12 : lw_okq (⟨"SieveDesk", "askOrder", "(III)I"⟩, 13) := ⟨⟨by decide +kernel, by decide +kernel⟩, List.mem_of_getElem? (i := 9) (by decide +kernel), List.mem_of_getElem? (i := 296) (by decide +kernel), List.mem_of_getElem? (i := 297) (by decide +kernel)⟩
theorem lw_p13 : lw_okq (⟨"SieveDesk", "askThen", "(IIII)I"⟩, 13) := ⟨⟨by decide +kernel, by decide +kernel⟩, List.mem_of_getElem? (i := 9) (by decide +kernel), List.mem_of_getElem? (i := 303) (by decide +kernel), List.mem_of_getElem? (i := 304) (by decide +kernel)⟩
theorem lw_p14 : lw_okq (⟨"SieveDesk", "rankBySieve", "(II)I"⟩, 13) := ⟨⟨by decide +kernel, by decide +kernel⟩, List.mem_of_getElem? (i := 9) (by decide +kernel), List.mem_of_getElem? (i := 307) (by decide +kernel), List.mem_of_getElem? (i := 308) (by decide +kernel)⟩
theorem lw_p15 : lw_okq (⟨"SieveDesk$Grouping", "placeOf", "(J)I"⟩, 5) := ⟨⟨by decide +kernel, by decide +kernel⟩, List.mem_of_getElem? (i := 46) (by decide +kernel), List.mem_of_getElem? (i := 327) (by decide +kernel), List.mem_of_getElem? (i := 328) (by decide +kernel)⟩
def lw_privs_1 : List (MethodName × Nat) := [(⟨"SieveDesk", "isThing", "(I)Z"⟩, 13), (⟨"SieveDesk", "canMakeScale", "(III)Z"⟩, 13), (⟨"SieveDesk", "makeNow", "(II)I"⟩, 13), (⟨"SieveDesk", "askScale", "(II)J"⟩, 13), (⟨"SieveDesk", "quotient", "(JJ)J"⟩, 13), (⟨"SieveDesk", "askSieve", "(II)Z"⟩, 13), (⟨"SieveDesk", "askSafely", "(II)Z"⟩, 13), (⟨"SieveDesk", "itemAt", "(J)J"⟩, 13), (⟨"SieveDesk", "canMakeSieve", "(III)Z"⟩, 13), (⟨"SieveDesk", "canMakeOrder", "(III)Z"⟩, 13), (⟨"SieveDesk", "takeDraft", "(I)V"⟩, 13), (⟨"SieveDesk", "moveForward", "(II)I"⟩, 13), (⟨"SieveDesk", "askOrder", "(III)I"⟩, 13), (⟨"SieveDesk", "askThen", "(IIII)I"⟩, 13), (⟨"SieveDesk", "rankBySieve", "(II)I"⟩, 13), (⟨"SieveDesk$Grouping", "placeOf", "(J)I"⟩, 5)]
theorem lw_r1 : ∀ q ∈ lw_privs_1, lw_okq q := List.forall_mem_cons.mpr ⟨lw_p0, List.forall_mem_cons.mpr ⟨lw_p1, List.forall_mem_cons.mpr ⟨lw_p2, List.forall_mem_cons.mpr ⟨lw_p3, List.forall_mem_cons.mpr ⟨lw_p4, List.forall_mem_cons.mpr ⟨lw_p5, List.forall_mem_cons.mpr ⟨lw_p6, List.forall_mem_cons.mpr ⟨lw_p7, List.forall_mem_cons.mpr ⟨lw_p8, List.forall_mem_cons.mpr ⟨lw_p9, List.forall_mem_cons.mpr ⟨lw_p10, List.forall_mem_cons.mpr ⟨lw_p11, List.forall_mem_cons.mpr ⟨lw_p12, List.forall_mem_cons.mpr ⟨lw_p13, List.forall_mem_cons.mpr ⟨lw_p14, List.forall_mem_cons.mpr ⟨lw_p15, fun _ h => absurd h List.not_mem_nil⟩⟩⟩⟩⟩⟩⟩⟩⟩⟩⟩⟩⟩⟩⟩⟩
theorem lw_p16 : lw_okq (⟨"SieveDeskModel", "isThing", "(I)Z"⟩, 36) := ⟨⟨by decide +kernel, by decide +kernel⟩, List.mem_of_getElem? (i := 347) (by decide +kernel), List.mem_of_getElem? (i := 470) (by decide +kernel), List.mem_of_getElem? (i := 471) (by decide +kernel)⟩
theorem lw_p17 : lw_okq (⟨"SieveDeskModel", "is", "(II)Z"⟩, 36) := ⟨⟨by decide +kernel, by decide +kernel⟩, List.mem_of_getElem? (i := 347) (by decide +kernel), List.mem_of_getElem? (i := 489) (by decide +kernel), List.mem_of_getElem? (i := 490) (by decide +kernel)⟩
theorem lw_p18 : lw_okq (⟨"SieveDeskModel", "made", "(IIIIJ)I"⟩, 36) := ⟨⟨by decide +kernel, by decide +kernel⟩, List.mem_of_getElem? (i := 347) (by decide +kernel), List.mem_of_getElem? (i := 493) (by decide +kernel), List.mem_of_getElem? (i := 494) (by decide +kernel)⟩
theorem lw_p19 : lw_okq (⟨"SieveDeskModel", "startsCall", "()V"⟩, 36) := ⟨⟨by decide +kernel, by decide +kernel⟩, List.mem_of_getElem? (i := 347) (by decide +kernel), List.mem_of_getElem? (i := 497) (by decide +kernel), List.mem_of_getElem? (i := 498) (by decide +kernel)⟩
theorem lw_p20 : lw_okq (⟨"SieveDeskModel", "ask", "(IIII)Z"⟩, 36) := ⟨⟨by decide +kernel, by decide +kernel⟩, List.mem_of_getElem? (i := 347) (by decide +kernel), List.mem_of_getElem? (i := 501) (by decide +kernel), List.mem_of_getElem? (i := 502) (by decide +kernel)⟩
theorem lw_p21 : lw_okq (⟨"SieveDeskModel", "begins", "(IIII)V"⟩, 36) := ⟨⟨by decide +kernel, by decide +kernel⟩, List.mem_of_getElem? (i := 347) (by decide +kernel), List.mem_of_getElem? (i := 505) (by decide +kernel), List.mem_of_getElem? (i := 506) (by decide +kernel)⟩
theorem lw_p22 : lw_okq (⟨"SieveDeskModel", "goesScale", "(IIIJ)V"⟩, 36) := ⟨⟨by decide +kernel, by decide +kernel⟩, List.mem_of_getElem? (i := 347) (by decide +kernel), List.mem_of_getElem? (i := 509) (by decide +kernel), List.mem_of_getElem? (i := 510) (by decide +kernel)⟩
theorem lw_p23 : lw_okq (⟨"SieveDeskModel", "tells", "(J)V"⟩, 36) := ⟨⟨by decide +kernel, by decide +kernel⟩, List.mem_of_getElem? (i := 347) (by decide +kernel), List.mem_of_getElem? (i := 513) (by decide +kernel), List.mem_of_getElem? (i := 514) (by decide +kernel)⟩
theorem lw_p24 : lw_okq (⟨"SieveDeskModel", "both", "(IJJ)V"⟩, 36) := ⟨⟨by decide +kernel, by decide +kernel⟩, List.mem_of_getElem? (i := 347) (by decide +kernel), List.mem_of_getElem? (i := 518) (by decide +kernel), List.mem_of_getElem? (i := 519) (by decide +kernel)⟩
theorem lw_p25 : lw_okq (⟨"SieveDeskModel", "goesSieve", "(IIIJ)V"⟩, 36) := ⟨⟨by decide +kernel, by decide +kernel⟩, List.mem_of_getElem? (i := 347) (by decide +kernel), List.mem_of_getElem? (i := 522) (by decide +kernel), List.mem_of_getElem? (i := 523) (by decide +kernel)⟩
theorem lw_p26 : lw_okq (⟨"SieveDeskModel", "goesOrder", "(IIJ)V"⟩, 36) := ⟨⟨by decide +kernel, by decide +kernel⟩, List.mem_of_getElem? (i := 347) (by decide +kernel), List.mem_of_getElem? (i := 526) (by decide +kernel), List.mem_of_getElem? (i := 527) (by decide +kernel)⟩
theorem lw_p27 : lw_okq (⟨"SieveDeskModel", "recovers", "()V"⟩, 36) := ⟨⟨by decide +kernel, by decide +kernel⟩, List.mem_of_getElem? (i := 347) (by decide +kernel), List.mem_of_getElem? (i := 531) (by decide +kernel), List.mem_of_getElem? (i := 532) (by decide +kernel)⟩
theorem lw_p28 : lw_okq (⟨"SieveDeskModel", "ends", "(I)I"⟩, 36) := ⟨⟨by decide +kernel, by decide +kernel⟩, List.mem_of_getElem? (i := 347) (by decide +kernel), List.mem_of_getElem? (i := 535) (by decide +kernel), List.mem_of_getElem? (i := 536) (by decide +kernel)⟩
def lw_privs_2 : List (MethodName × Nat) := [(⟨"SieveDeskModel", "isThing", "(I)Z"⟩, 36), (⟨"SieveDeskModel", "is", "(II)Z"⟩, 36), (⟨"SieveDeskModel", "made", "(IIIIJ)I"⟩, 36), (⟨"SieveDeskModel", "startsCall", "()V"⟩, 36), (⟨"SieveDeskModel", "ask", "(IIII)Z"⟩, 36), (⟨"SieveDeskModel", "begins", "(IIII)V"⟩, 36), (⟨"SieveDeskModel", "goesScale", "(IIIJ)V"⟩, 36), (⟨"SieveDeskModel", "tells", "(J)V"⟩, 36), (⟨"SieveDeskModel", "both", "(IJJ)V"⟩, 36), (⟨"SieveDeskModel", "goesSieve", "(IIIJ)V"⟩, 36), (⟨"SieveDeskModel", "goesOrder", "(IIJ)V"⟩, 36), (⟨"SieveDeskModel", "recovers", "()V"⟩, 36), (⟨"SieveDeskModel", "ends", "(I)I"⟩, 36)]
theorem lw_r2 : ∀ q ∈ lw_privs_2, lw_okq q := List.forall_mem_cons.mpr ⟨lw_p16, List.forall_mem_cons.mpr ⟨lw_p17, List.forall_mem_cons.mpr ⟨lw_p18, List.forall_mem_cons.mpr ⟨lw_p19, List.forall_mem_cons.mpr ⟨lw_p20, List.forall_mem_cons.mpr ⟨lw_p21, List.forall_mem_cons.mpr ⟨lw_p22, List.forall_mem_cons.mpr ⟨lw_p23, List.forall_mem_cons.mpr ⟨lw_p24, List.forall_mem_cons.mpr ⟨lw_p25, List.forall_mem_cons.mpr ⟨lw_p26, List.forall_mem_cons.mpr ⟨lw_p27, List.forall_mem_cons.mpr ⟨lw_p28, fun _ h => absurd h List.not_mem_nil⟩⟩⟩⟩⟩⟩⟩⟩⟩⟩⟩⟩⟩
def lw_privs : List (MethodName × Nat) := lw_privs_1 ++ (lw_privs_2)
def lw_tbl : List Cond := k2_sels lw_privs ++ tables_1
theorem lw_privs_ok : ∀ q ∈ lw_privs, lw_okq q := by
  show ∀ q ∈ lw_privs_1 ++ (lw_privs_2), lw_okq q
  exact List.forall_mem_append.mpr ⟨lw_r1, lw_r2⟩
def RX0 : String := "SieveDesk$Grouping"
def TX0 : u_T := fun k => match k with
  | 0 => ("SieveDesk$Grouping", "key", "[J", true)
  | 1 => ("SieveDesk$Grouping", "members", "[I", true)
  | 2 => ("SieveDesk$Grouping", "total", "[J", true)
  | 3 => ("SieveDesk$Grouping", "first", "[I", true)
  | _ => ("SieveDesk$Grouping", "size", "I", false)
def tyX0 : Nat → FieldType := fun k => match k with
  | 0 => .array .long
  | 1 => .array .int
  | 2 => .array .long
  | 3 => .array .int
  | _ => .int
theorem nmX0 : ∀ a, a < 5 → ∀ b, b < 5 → a ≠ b → (TX0 a).2.1 ≠ (TX0 b).2.1 := by decide +kernel
theorem tyX0_ok : ∀ k, k < 5 → parseFieldDescriptor (TX0 k).2.2.1 = some (tyX0 k) := by decide +kernel
abbrev cX0_init : ByteArray := prog_2_method_1_code
def yX0_init : MethodName := ⟨RX0, "<init>", "()V"⟩
abbrev cX0_clear : ByteArray := prog_2_method_2_code
def yX0_clear : MethodName := ⟨RX0, "clear", "()V"⟩
abbrev cX0_add : ByteArray := prog_2_method_3_code
def yX0_add : MethodName := ⟨RX0, "add", "(JJI)V"⟩
abbrev cX0_tellOf : ByteArray := prog_2_method_4_code
def yX0_tellOf : MethodName := ⟨RX0, "tellOf", "(II)J"⟩
abbrev cX0_placeOf : ByteArray := prog_2_method_5_code
def yX0_placeOf : MethodName := ⟨RX0, "placeOf", "(J)I"⟩
def RX1 : String := "SieveDesk$Shelf"
def TX1 : u_T := fun k => match k with
  | 0 => ("SieveDesk$Shelf", "kind", "[I", true)
  | 1 => ("SieveDesk$Shelf", "a", "[I", true)
  | 2 => ("SieveDesk$Shelf", "b", "[I", true)
  | 3 => ("SieveDesk$Shelf", "kept", "[J", true)
  | _ => ("SieveDesk$Shelf", "size", "I", false)
def tyX1 : Nat → FieldType := fun k => match k with
  | 0 => .array .int
  | 1 => .array .int
  | 2 => .array .int
  | 3 => .array .long
  | _ => .int
theorem nmX1 : ∀ a, a < 5 → ∀ b, b < 5 → a ≠ b → (TX1 a).2.1 ≠ (TX1 b).2.1 := by decide +kernel
theorem tyX1_ok : ∀ k, k < 5 → parseFieldDescriptor (TX1 k).2.2.1 = some (tyX1 k) := by decide +kernel
abbrev cX1_init : ByteArray := prog_3_method_1_code
def yX1_init : MethodName := ⟨RX1, "<init>", "()V"⟩
abbrev cX1_has : ByteArray := prog_3_method_2_code
def yX1_has : MethodName := ⟨RX1, "has", "(I)Z"⟩
abbrev cX1_isFull : ByteArray := prog_3_method_3_code
def yX1_isFull : MethodName := ⟨RX1, "isFull", "()Z"⟩
abbrev cX1_make : ByteArray := prog_3_method_4_code
def yX1_make : MethodName := ⟨RX1, "make", "(IIIJ)I"⟩
abbrev cX1_countAsked : ByteArray := prog_3_method_5_code
def yX1_countAsked : MethodName := ⟨RX1, "countAsked", "(I)J"⟩
def RX2 : String := "SieveDesk$Tally"
def TX2 : u_T := fun k => match k with
  | 0 => ("SieveDesk$Tally", "begun", "I", false)
  | 1 => ("SieveDesk$Tally", "begunEver", "I", false)
  | 2 => ("SieveDesk$Tally", "met", "I", false)
  | 3 => ("SieveDesk$Tally", "failedCalls", "I", false)
  | 4 => ("SieveDesk$Tally", "latestFailure", "I", false)
  | _ => ("SieveDesk$Tally", "standing", "I", false)
def tyX2 : Nat → FieldType := fun k => match k with
  | 0 => .int
  | 1 => .int
  | 2 => .int
  | 3 => .int
  | 4 => .int
  | _ => .int
theorem nmX2 : ∀ a, a < 6 → ∀ b, b < 6 → a ≠ b → (TX2 a).2.1 ≠ (TX2 b).2.1 := by decide +kernel
theorem tyX2_ok : ∀ k, k < 6 → parseFieldDescriptor (TX2 k).2.2.1 = some (tyX2 k) := by decide +kernel
abbrev cX2_init : ByteArray := prog_4_method_1_code
def yX2_init : MethodName := ⟨RX2, "<init>", "()V"⟩
abbrev cX2_opensCall : ByteArray := prog_4_method_2_code
def yX2_opensCall : MethodName := ⟨RX2, "opensCall", "()Z"⟩
abbrev cX2_beginsAsking : ByteArray := prog_4_method_3_code
def yX2_beginsAsking : MethodName := ⟨RX2, "beginsAsking", "()Z"⟩
abbrev cX2_hasFailure : ByteArray := prog_4_method_4_code
def yX2_hasFailure : MethodName := ⟨RX2, "hasFailure", "()Z"⟩
abbrev cX2_fail : ByteArray := prog_4_method_5_code
def yX2_fail : MethodName := ⟨RX2, "fail", "(I)V"⟩
abbrev cX2_meetsFailure : ByteArray := prog_4_method_6_code
def yX2_meetsFailure : MethodName := ⟨RX2, "meetsFailure", "()Z"⟩
abbrev cX2_endFailedCall : ByteArray := prog_4_method_7_code
def yX2_endFailedCall : MethodName := ⟨RX2, "endFailedCall", "()I"⟩
def RX3 : String := "SieveDesk"
def TX3 : u_T := fun k => match k with
  | 0 => ("SieveDesk", "cells", "[J", true)
  | 1 => ("SieveDesk", "thingCount", "I", false)
  | 2 => ("SieveDesk", "row", "[J", true)
  | 3 => ("SieveDesk", "listed", "[I", true)
  | 4 => ("SieveDesk", "draft", "[I", true)
  | 5 => ("SieveDesk", "listLength", "I", false)
  | 6 => ("SieveDesk", "scales", "LSieveDesk$Shelf;", true)
  | 7 => ("SieveDesk", "sieves", "LSieveDesk$Shelf;", true)
  | 8 => ("SieveDesk", "orders", "LSieveDesk$Shelf;", true)
  | 9 => ("SieveDesk", "grouping", "LSieveDesk$Grouping;", false)
  | 10 => ("SieveDesk", "draftGrouping", "LSieveDesk$Grouping;", false)
  | 11 => ("SieveDesk", "tally", "LSieveDesk$Tally;", true)
  | _ => ("SieveDesk", "latestTold", "J", false)
def tyX3 : Nat → FieldType := fun k => match k with
  | 0 => .array .long
  | 1 => .int
  | 2 => .array .long
  | 3 => .array .int
  | 4 => .array .int
  | 5 => .int
  | 6 => .object "SieveDesk$Shelf"
  | 7 => .object "SieveDesk$Shelf"
  | 8 => .object "SieveDesk$Shelf"
  | 9 => .object "SieveDesk$Grouping"
  | 10 => .object "SieveDesk$Grouping"
  | 11 => .object "SieveDesk$Tally"
  | _ => .long
theorem nmX3 : ∀ a, a < 13 → ∀ b, b < 13 → a ≠ b → (TX3 a).2.1 ≠ (TX3 b).2.1 := by decide +kernel
theorem tyX3_ok : ∀ k, k < 13 → parseFieldDescriptor (TX3 k).2.2.1 = some (tyX3 k) := by decide +kernel
abbrev cX3_init : ByteArray := prog_1_method_1_code
def yX3_init : MethodName := ⟨RX3, "<init>", "()V"⟩
abbrev cX3_thing : ByteArray := prog_1_method_2_code
def yX3_thing : MethodName := ⟨RX3, "thing", "(JJJ)I"⟩
abbrev cX3_change : ByteArray := prog_1_method_3_code
def yX3_change : MethodName := ⟨RX3, "change", "(IIJ)I"⟩
abbrev cX3_get : ByteArray := prog_1_method_4_code
def yX3_get : MethodName := ⟨RX3, "get", "(II)J"⟩
abbrev cX3_item : ByteArray := prog_1_method_5_code
def yX3_item : MethodName := ⟨RX3, "item", "(IJ)I"⟩
abbrev cX3_all : ByteArray := prog_1_method_6_code
def yX3_all : MethodName := ⟨RX3, "all", "()I"⟩
abbrev cX3_list : ByteArray := prog_1_method_7_code
def yX3_list : MethodName := ⟨RX3, "list", "(I)I"⟩
abbrev cX3_scale : ByteArray := prog_1_method_8_code
def yX3_scale : MethodName := ⟨RX3, "scale", "(III)I"⟩
abbrev cX3_sieve : ByteArray := prog_1_method_9_code
def yX3_sieve : MethodName := ⟨RX3, "sieve", "(III)I"⟩
abbrev cX3_order : ByteArray := prog_1_method_10_code
def yX3_order : MethodName := ⟨RX3, "order", "(III)I"⟩
abbrev cX3_tell : ByteArray := prog_1_method_11_code
def yX3_tell : MethodName := ⟨RX3, "tell", "(II)I"⟩
abbrev cX3_sift : ByteArray := prog_1_method_12_code
def yX3_sift : MethodName := ⟨RX3, "sift", "(I)I"⟩
abbrev cX3_sort : ByteArray := prog_1_method_13_code
def yX3_sort : MethodName := ⟨RX3, "sort", "(I)I"⟩
abbrev cX3_sum : ByteArray := prog_1_method_14_code
def yX3_sum : MethodName := ⟨RX3, "sum", "(I)I"⟩
abbrev cX3_group : ByteArray := prog_1_method_15_code
def yX3_group : MethodName := ⟨RX3, "group", "(II)I"⟩
abbrev cX3_answer : ByteArray := prog_1_method_16_code
def yX3_answer : MethodName := ⟨RX3, "answer", "()J"⟩
abbrev cX3_groups : ByteArray := prog_1_method_17_code
def yX3_groups : MethodName := ⟨RX3, "groups", "(II)J"⟩
abbrev cX3_count : ByteArray := prog_1_method_18_code
def yX3_count : MethodName := ⟨RX3, "count", "(I)I"⟩
abbrev cX3_isThing : ByteArray := prog_1_method_19_code
def yX3_isThing : MethodName := ⟨RX3, "isThing", "(I)Z"⟩
abbrev cX3_isColumn : ByteArray := prog_1_method_20_code
def yX3_isColumn : MethodName := ⟨RX3, "isColumn", "(I)Z"⟩
abbrev cX3_isPlaceOfRow : ByteArray := prog_1_method_21_code
def yX3_isPlaceOfRow : MethodName := ⟨RX3, "isPlaceOfRow", "(J)Z"⟩
abbrev cX3_cellOf : ByteArray := prog_1_method_22_code
def yX3_cellOf : MethodName := ⟨RX3, "cellOf", "(II)I"⟩
abbrev cX3_canMakeScale : ByteArray := prog_1_method_23_code
def yX3_canMakeScale : MethodName := ⟨RX3, "canMakeScale", "(III)Z"⟩
abbrev cX3_canMakeSieve : ByteArray := prog_1_method_24_code
def yX3_canMakeSieve : MethodName := ⟨RX3, "canMakeSieve", "(III)Z"⟩
abbrev cX3_canMakeOrder : ByteArray := prog_1_method_25_code
def yX3_canMakeOrder : MethodName := ⟨RX3, "canMakeOrder", "(III)Z"⟩
abbrev cX3_makeNow : ByteArray := prog_1_method_26_code
def yX3_makeNow : MethodName := ⟨RX3, "makeNow", "(II)I"⟩
abbrev cX3_takeDraft : ByteArray := prog_1_method_27_code
def yX3_takeDraft : MethodName := ⟨RX3, "takeDraft", "(I)V"⟩
abbrev cX3_moveForward : ByteArray := prog_1_method_28_code
def yX3_moveForward : MethodName := ⟨RX3, "moveForward", "(II)I"⟩
abbrev cX3_askScale : ByteArray := prog_1_method_29_code
def yX3_askScale : MethodName := ⟨RX3, "askScale", "(II)J"⟩
abbrev cX3_askSieve : ByteArray := prog_1_method_30_code
def yX3_askSieve : MethodName := ⟨RX3, "askSieve", "(II)Z"⟩
abbrev cX3_askOrder : ByteArray := prog_1_method_31_code
def yX3_askOrder : MethodName := ⟨RX3, "askOrder", "(III)I"⟩
abbrev cX3_askSafely : ByteArray := prog_1_method_32_code
def yX3_askSafely : MethodName := ⟨RX3, "askSafely", "(II)Z"⟩
abbrev cX3_askThen : ByteArray := prog_1_method_33_code
def yX3_askThen : MethodName := ⟨RX3, "askThen", "(IIII)I"⟩
abbrev cX3_rankBySieve : ByteArray := prog_1_method_34_code
def yX3_rankBySieve : MethodName := ⟨RX3, "rankBySieve", "(II)I"⟩
abbrev cX3_lesserFirst : ByteArray := prog_1_method_35_code
def yX3_lesserFirst : MethodName := ⟨RX3, "lesserFirst", "(JJ)I"⟩
abbrev cX3_quotient : ByteArray := prog_1_method_36_code
def yX3_quotient : MethodName := ⟨RX3, "quotient", "(JJ)J"⟩
abbrev cX3_itemAt : ByteArray := prog_1_method_37_code
def yX3_itemAt : MethodName := ⟨RX3, "itemAt", "(J)J"⟩
def RX4 : String := "SieveDeskModel"
def TX4 : u_T := fun k => match k with
  | 0 => ("SieveDeskModel", "things", "I", false)
  | 1 => ("SieveDeskModel", "columns", "[J", true)
  | 2 => ("SieveDeskModel", "row", "[J", true)
  | 3 => ("SieveDeskModel", "listed", "I", false)
  | 4 => ("SieveDeskModel", "list", "[I", true)
  | 5 => ("SieveDeskModel", "many", "[I", true)
  | 6 => ("SieveDeskModel", "kind", "[I", true)
  | 7 => ("SieveDeskModel", "first", "[I", true)
  | 8 => ("SieveDeskModel", "second", "[I", true)
  | 9 => ("SieveDeskModel", "held", "[J", true)
  | 10 => ("SieveDeskModel", "asked", "[I", true)
  | 11 => ("SieveDeskModel", "waiting", "I", false)
  | 12 => ("SieveDeskModel", "which", "[I", true)
  | 13 => ("SieveDeskModel", "one", "[I", true)
  | 14 => ("SieveDeskModel", "other", "[I", true)
  | 15 => ("SieveDeskModel", "stage", "[I", true)
  | 16 => ("SieveDeskModel", "had", "[J", true)
  | 17 => ("SieveDeskModel", "told", "J", false)
  | 18 => ("SieveDeskModel", "failure", "I", false)
  | 19 => ("SieveDeskModel", "askings", "I", false)
  | 20 => ("SieveDeskModel", "askingsTold", "I", false)
  | 21 => ("SieveDeskModel", "askingsEver", "I", false)
  | 22 => ("SieveDeskModel", "met", "I", false)
  | 23 => ("SieveDeskModel", "failedCalls", "I", false)
  | 24 => ("SieveDeskModel", "latest", "I", false)
  | 25 => ("SieveDeskModel", "answer", "J", false)
  | 26 => ("SieveDeskModel", "groups", "I", false)
  | 27 => ("SieveDeskModel", "key", "[J", true)
  | 28 => ("SieveDeskModel", "size", "[I", true)
  | 29 => ("SieveDeskModel", "sums", "[J", true)
  | 30 => ("SieveDeskModel", "firsts", "[I", true)
  | 31 => ("SieveDeskModel", "next", "[I", true)
  | 32 => ("SieveDeskModel", "newKey", "[J", true)
  | 33 => ("SieveDeskModel", "newSize", "[I", true)
  | 34 => ("SieveDeskModel", "newSum", "[J", true)
  | _ => ("SieveDeskModel", "newFirst", "[I", true)
def tyX4 : Nat → FieldType := fun k => match k with
  | 0 => .int
  | 1 => .array .long
  | 2 => .array .long
  | 3 => .int
  | 4 => .array .int
  | 5 => .array .int
  | 6 => .array .int
  | 7 => .array .int
  | 8 => .array .int
  | 9 => .array .long
  | 10 => .array .int
  | 11 => .int
  | 12 => .array .int
  | 13 => .array .int
  | 14 => .array .int
  | 15 => .array .int
  | 16 => .array .long
  | 17 => .long
  | 18 => .int
  | 19 => .int
  | 20 => .int
  | 21 => .int
  | 22 => .int
  | 23 => .int
  | 24 => .int
  | 25 => .long
  | 26 => .int
  | 27 => .array .long
  | 28 => .array .int
  | 29 => .array .long
  | 30 => .array .int
  | 31 => .array .int
  | 32 => .array .long
  | 33 => .array .int
  | 34 => .array .long
  | _ => .array .int
theorem nmX4 : ∀ a, a < 36 → ∀ b, b < 36 → a ≠ b → (TX4 a).2.1 ≠ (TX4 b).2.1 := by decide +kernel
theorem tyX4_ok : ∀ k, k < 36 → parseFieldDescriptor (TX4 k).2.2.1 = some (tyX4 k) := by decide +kernel
abbrev cX4_init : ByteArray := prog_6_method_1_code
def yX4_init : MethodName := ⟨RX4, "<init>", "()V"⟩
abbrev cX4_in : ByteArray := prog_6_method_3_code
def yX4_in : MethodName := ⟨RX4, "in", "(III)Z"⟩
abbrev cX4_isThing : ByteArray := prog_6_method_4_code
def yX4_isThing : MethodName := ⟨RX4, "isThing", "(I)Z"⟩
abbrev cX4_is : ByteArray := prog_6_method_5_code
def yX4_is : MethodName := ⟨RX4, "is", "(II)Z"⟩
abbrev cX4_thing : ByteArray := prog_6_method_6_code
def yX4_thing : MethodName := ⟨RX4, "thing", "(JJJ)I"⟩
abbrev cX4_change : ByteArray := prog_6_method_7_code
def yX4_change : MethodName := ⟨RX4, "change", "(IIJ)I"⟩
abbrev cX4_get : ByteArray := prog_6_method_8_code
def yX4_get : MethodName := ⟨RX4, "get", "(II)J"⟩
abbrev cX4_item : ByteArray := prog_6_method_9_code
def yX4_item : MethodName := ⟨RX4, "item", "(IJ)I"⟩
abbrev cX4_begins : ByteArray := prog_6_method_10_code
def yX4_begins : MethodName := ⟨RX4, "begins", "(IIII)V"⟩
abbrev cX4_tells : ByteArray := prog_6_method_11_code
def yX4_tells : MethodName := ⟨RX4, "tells", "(J)V"⟩
abbrev cX4_goesScale : ByteArray := prog_6_method_12_code
def yX4_goesScale : MethodName := ⟨RX4, "goesScale", "(IIIJ)V"⟩
abbrev cX4_both : ByteArray := prog_6_method_13_code
def yX4_both : MethodName := ⟨RX4, "both", "(IJJ)V"⟩
abbrev cX4_goesSieve : ByteArray := prog_6_method_14_code
def yX4_goesSieve : MethodName := ⟨RX4, "goesSieve", "(IIIJ)V"⟩
abbrev cX4_goesOrder : ByteArray := prog_6_method_15_code
def yX4_goesOrder : MethodName := ⟨RX4, "goesOrder", "(IIJ)V"⟩
abbrev cX4_recovers : ByteArray := prog_6_method_16_code
def yX4_recovers : MethodName := ⟨RX4, "recovers", "()V"⟩
abbrev cX4_ask : ByteArray := prog_6_method_17_code
def yX4_ask : MethodName := ⟨RX4, "ask", "(IIII)Z"⟩
abbrev cX4_startsCall : ByteArray := prog_6_method_18_code
def yX4_startsCall : MethodName := ⟨RX4, "startsCall", "()V"⟩
abbrev cX4_ends : ByteArray := prog_6_method_19_code
def yX4_ends : MethodName := ⟨RX4, "ends", "(I)I"⟩
abbrev cX4_made : ByteArray := prog_6_method_20_code
def yX4_made : MethodName := ⟨RX4, "made", "(IIIIJ)I"⟩
abbrev cX4_scale : ByteArray := prog_6_method_21_code
def yX4_scale : MethodName := ⟨RX4, "scale", "(III)I"⟩
abbrev cX4_sieve : ByteArray := prog_6_method_22_code
def yX4_sieve : MethodName := ⟨RX4, "sieve", "(III)I"⟩
abbrev cX4_order : ByteArray := prog_6_method_23_code
def yX4_order : MethodName := ⟨RX4, "order", "(III)I"⟩
abbrev cX4_all : ByteArray := prog_6_method_24_code
def yX4_all : MethodName := ⟨RX4, "all", "()I"⟩
abbrev cX4_tell : ByteArray := prog_6_method_25_code
def yX4_tell : MethodName := ⟨RX4, "tell", "(II)I"⟩
abbrev cX4_sift : ByteArray := prog_6_method_26_code
def yX4_sift : MethodName := ⟨RX4, "sift", "(I)I"⟩
abbrev cX4_sort : ByteArray := prog_6_method_27_code
def yX4_sort : MethodName := ⟨RX4, "sort", "(I)I"⟩
abbrev cX4_sum : ByteArray := prog_6_method_28_code
def yX4_sum : MethodName := ⟨RX4, "sum", "(I)I"⟩
abbrev cX4_group : ByteArray := prog_6_method_29_code
def yX4_group : MethodName := ⟨RX4, "group", "(II)I"⟩
abbrev cX4_answer : ByteArray := prog_6_method_30_code
def yX4_answer : MethodName := ⟨RX4, "answer", "()J"⟩
abbrev cX4_list : ByteArray := prog_6_method_31_code
def yX4_list : MethodName := ⟨RX4, "list", "(I)I"⟩
abbrev cX4_groups : ByteArray := prog_6_method_32_code
def yX4_groups : MethodName := ⟨RX4, "groups", "(II)J"⟩
abbrev cX4_count : ByteArray := prog_6_method_33_code
def yX4_count : MethodName := ⟨RX4, "count", "(I)I"⟩
def RL : String := "SieveDeskLaw"
abbrev cL_law : ByteArray := code
abbrev vwCl : List vw_C := [(RX0, TX0, 5), (RX1, TX1, 5), (RX2, TX2, 6), (RX3, TX3, 13), (RX4, TX4, 36)]
end
section
/-! THE LAYER: zw_W: the machine stands at pc with locals lv, stack st, and the heap holds the world ws; a rule an instruction, over the kit's rows. -/
/-- the words that every method's contract asks for: the tables' words -/
def zw_tbl : List Cond := lw_tbl.filter goodWord
theorem zw_good : GoodIn zw_tbl zw_tbl := fun w h => ⟨h, good_of_word (List.mem_filter.mp h).2⟩
theorem zw_in1 {w : Cond} (i : Nat) (h : tables_1_1[i]? = some w) (hg : goodWord w = true) : w ∈ zw_tbl := List.mem_filter.mpr ⟨List.mem_append_right _ (List.mem_append_left _ (List.mem_of_getElem? h)), hg⟩
theorem zw_in2 {w : Cond} (i : Nat) (h : tables_1_2[i]? = some w) (hg : goodWord w = true) : w ∈ zw_tbl := List.mem_filter.mpr ⟨List.mem_append_right _ (List.mem_append_right _ (List.mem_append_left _ (List.mem_of_getElem? h))), hg⟩
theorem zw_in3 {w : Cond} (i : Nat) (h : tables_1_3[i]? = some w) (hg : goodWord w = true) : w ∈ zw_tbl := List.mem_filter.mpr ⟨List.mem_append_right _ (List.mem_append_right _ (List.mem_append_right _ (List.mem_of_getElem? h))), hg⟩
theorem zw_inS {w : Cond} (i : Nat) (h : (k2_sels lw_privs)[i]? = some w) (hg : goodWord w = true) : w ∈ zw_tbl := List.mem_filter.mpr ⟨List.mem_append_left _ (List.mem_of_getElem? h), hg⟩
/-- what is fixed in a walk -/
def zw_C (p : Program) (s : State) (m : MethodId) (args : Array Value) (c : Code) (D : va_G) (tys : List (ClassId × FieldType)) (A : Nat → Prop) (own : String) (cc : ByteArray) (nL : Nat) : Prop :=
  p.tables.exec = Jvm.exec ∧ c.code = cc ∧ c.maxLocals = nL ∧ s.vm.findClass own = some m.cls ∧ (∀ w ∈ zw_tbl, w.before args s = true) ∧ va_K D vwCl tys s ∧ (∀ q, s.heap.size ≤ q → A q)
def zw_W (p : Program) (l : Launch) (e : Env) (R : Room) (s : State) (m : MethodId) (args : Array Value) (below : List Frame) (meth : Method) (c : Code) (D : va_G) (A : Nat → Prop) (nL : Nat) (Q : State → Prop) (nc ns : Nat) (ws : va_W) (pc : Nat) (lv : List (Nat × Value)) (st : List Value) : Prop :=
  ∀ (H : Heap) (locs : List Loc) (ls : Array Slot), va_P D vwCl ws H → va_D A ws → va_S A s.heap H locs → lv_has ls nL lv → W p l e R s m args below meth c H locs nc ns Q (F0 m pc ls st)
section ZW
variable {p : Program} {l : Launch} {e : Env} {R : Room} {s : State} {m : MethodId} {args : Array Value} {below : List Frame} {meth : Method} {c : Code} {D : va_G} {tys : List (ClassId × FieldType)} {A : Nat → Prop} {own : String} {cc : ByteArray} {nL : Nat} {Q : State → Prop} {nc ns : Nat} {ws : va_W} {pc : Nat} {lv : List (Nat × Value)} {st : List Value}

theorem zw_iconst (C : zw_C p s m args c D tys A own cc nL) {n : Int} {v : Int32} (hd : decode cc pc = .ok (.iconst n, 1)) (hv : Int32.ofInt n = v) (k : zw_W p l e R s m args below meth c D A nL Q nc ns ws (pc + 1) lv (.int v :: st)) : zw_W p l e R s m args below meth c D A nL Q nc ns ws pc lv st := fun H locs ls hP hD hS hl => lv_iconst C.1 C.2.1 hd hv (k H locs ls hP hD hS hl)
theorem zw_bipush (C : zw_C p s m args c D tys A own cc nL) {n : Int} {v : Int32} (hd : decode cc pc = .ok (.bipush n, 2)) (hv : (Int8.ofInt n).toInt32 = v) (k : zw_W p l e R s m args below meth c D A nL Q nc ns ws (pc + 2) lv (.int v :: st)) : zw_W p l e R s m args below meth c D A nL Q nc ns ws pc lv st := fun H locs ls hP hD hS hl => lv_bipush C.1 C.2.1 hd hv (k H locs ls hP hD hS hl)
theorem zw_sipush (C : zw_C p s m args c D tys A own cc nL) {n : Int} {v : Int32} (hd : decode cc pc = .ok (.sipush n, 3)) (hv : (Int16.ofInt n).toInt32 = v) (k : zw_W p l e R s m args below meth c D A nL Q nc ns ws (pc + 3) lv (.int v :: st)) : zw_W p l e R s m args below meth c D A nL Q nc ns ws pc lv st := fun H locs ls hP hD hS hl => lv_sipush C.1 C.2.1 hd hv (k H locs ls hP hD hS hl)
theorem zw_lconst (C : zw_C p s m args c D tys A own cc nL) {n : Fin 2} {v : Int64} (hd : decode cc pc = .ok (.lconst n, 1)) (hv : Int64.ofNat (n : Nat) = v) (k : zw_W p l e R s m args below meth c D A nL Q nc ns ws (pc + 1) lv (.long v :: st)) : zw_W p l e R s m args below meth c D A nL Q nc ns ws pc lv st := fun H locs ls hP hD hS hl => lv_lconst C.1 C.2.1 hd hv (k H locs ls hP hD hS hl)
theorem zw_iload_n (C : zw_C p s m args c D tys A own cc nL) {q : Fin 4} {i : Nat} {x : Int32} (hd : decode cc pc = .ok (.iload_n q, 1)) (j : Nat) (hj : lv[j]? = some (i, .int x)) (hi : (q : Nat) = i) (k : zw_W p l e R s m args below meth c D A nL Q nc ns ws (pc + 1) lv (.int x :: st)) : zw_W p l e R s m args below meth c D A nL Q nc ns ws pc lv st := fun H locs ls hP hD hS hl => lv_iload_n C.1 C.2.1 hd hi (lv_at hl j hj) (k H locs ls hP hD hS hl)
theorem zw_iload (C : zw_C p s m args c D tys A own cc nL) {i : Nat} {x : Int32} (hd : decode cc pc = .ok (.iload i, 2)) (j : Nat) (hj : lv[j]? = some (i, .int x)) (k : zw_W p l e R s m args below meth c D A nL Q nc ns ws (pc + 2) lv (.int x :: st)) : zw_W p l e R s m args below meth c D A nL Q nc ns ws pc lv st := fun H locs ls hP hD hS hl => lv_iload C.1 C.2.1 hd (lv_at hl j hj) (k H locs ls hP hD hS hl)
theorem zw_istore_n (C : zw_C p s m args c D tys A own cc nL) {q : Fin 4} {i : Nat} {x : Int32} {lv2 : List (Nat × Value)} (hd : decode cc pc = .ok (.istore_n q, 1)) (hi : (q : Nat) = i) (hn : i < nL) (hl2 : (i, Value.int x) :: lv.filter (fun q => !(q.1 == i) && !(q.1 + 1 == i && q.2.category == 2)) = lv2) (k : zw_W p l e R s m args below meth c D A nL Q nc ns ws (pc + 1) lv2 st) : zw_W p l e R s m args below meth c D A nL Q nc ns ws pc lv (.int x :: st) := fun H locs ls hP hD hS hl => lv_istore_n C.1 C.2.1 hd hi hl hn hl2 (fun ls2 hl3 => k H locs ls2 hP hD hS hl3)
theorem zw_istore (C : zw_C p s m args c D tys A own cc nL) {i : Nat} {x : Int32} {lv2 : List (Nat × Value)} (hd : decode cc pc = .ok (.istore i, 2)) (hn : i < nL) (hl2 : (i, Value.int x) :: lv.filter (fun q => !(q.1 == i) && !(q.1 + 1 == i && q.2.category == 2)) = lv2) (k : zw_W p l e R s m args below meth c D A nL Q nc ns ws (pc + 2) lv2 st) : zw_W p l e R s m args below meth c D A nL Q nc ns ws pc lv (.int x :: st) := fun H locs ls hP hD hS hl => lv_istore C.1 C.2.1 hd hl hn hl2 (fun ls2 hl3 => k H locs ls2 hP hD hS hl3)
theorem zw_lload_n (C : zw_C p s m args c D tys A own cc nL) {q : Fin 4} {i : Nat} {x : Int64} (hd : decode cc pc = .ok (.lload_n q, 1)) (j : Nat) (hj : lv[j]? = some (i, .long x)) (hi : (q : Nat) = i) (k : zw_W p l e R s m args below meth c D A nL Q nc ns ws (pc + 1) lv (.long x :: st)) : zw_W p l e R s m args below meth c D A nL Q nc ns ws pc lv st := fun H locs ls hP hD hS hl => lv_lload_n C.1 C.2.1 hd hi (lv_at hl j hj) (k H locs ls hP hD hS hl)
theorem zw_lload (C : zw_C p s m args c D tys A own cc nL) {i : Nat} {x : Int64} (hd : decode cc pc = .ok (.lload i, 2)) (j : Nat) (hj : lv[j]? = some (i, .long x)) (k : zw_W p l e R s m args below meth c D A nL Q nc ns ws (pc + 2) lv (.long x :: st)) : zw_W p l e R s m args below meth c D A nL Q nc ns ws pc lv st := fun H locs ls hP hD hS hl => lv_lload C.1 C.2.1 hd (lv_at hl j hj) (k H locs ls hP hD hS hl)
theorem zw_lstore_n (C : zw_C p s m args c D tys A own cc nL) {q : Fin 4} {i : Nat} {x : Int64} {lv2 : List (Nat × Value)} (hd : decode cc pc = .ok (.lstore_n q, 1)) (hi : (q : Nat) = i) (hn : i + 1 < nL) (hl2 : (i, Value.long x) :: lv.filter (fun q => !(q.1 == i) && (!(q.1 == i + 1) && !(q.1 + 1 == i && q.2.category == 2))) = lv2) (k : zw_W p l e R s m args below meth c D A nL Q nc ns ws (pc + 1) lv2 st) : zw_W p l e R s m args below meth c D A nL Q nc ns ws pc lv (.long x :: st) := fun H locs ls hP hD hS hl => lv_lstore_n C.1 C.2.1 hd hi hl hn hl2 (fun ls2 hl3 => k H locs ls2 hP hD hS hl3)
theorem zw_lstore (C : zw_C p s m args c D tys A own cc nL) {i : Nat} {x : Int64} {lv2 : List (Nat × Value)} (hd : decode cc pc = .ok (.lstore i, 2)) (hn : i + 1 < nL) (hl2 : (i, Value.long x) :: lv.filter (fun q => !(q.1 == i) && (!(q.1 == i + 1) && !(q.1 + 1 == i && q.2.category == 2))) = lv2) (k : zw_W p l e R s m args below meth c D A nL Q nc ns ws (pc + 2) lv2 st) : zw_W p l e R s m args below meth c D A nL Q nc ns ws pc lv (.long x :: st) := fun H locs ls hP hD hS hl => lv_lstore C.1 C.2.1 hd hl hn hl2 (fun ls2 hl3 => k H locs ls2 hP hD hS hl3)
theorem zw_aload_n (C : zw_C p s m args c D tys A own cc nL) {q : Fin 4} {i : Nat} {x : Nat} (hd : decode cc pc = .ok (.aload_n q, 1)) (j : Nat) (hj : lv[j]? = some (i, .ref x)) (hi : (q : Nat) = i) (k : zw_W p l e R s m args below meth c D A nL Q nc ns ws (pc + 1) lv (.ref x :: st)) : zw_W p l e R s m args below meth c D A nL Q nc ns ws pc lv st := fun H locs ls hP hD hS hl => lv_aload_n C.1 C.2.1 hd hi (lv_at hl j hj) (k H locs ls hP hD hS hl)
theorem zw_aload (C : zw_C p s m args c D tys A own cc nL) {i : Nat} {x : Nat} (hd : decode cc pc = .ok (.aload i, 2)) (j : Nat) (hj : lv[j]? = some (i, .ref x)) (k : zw_W p l e R s m args below meth c D A nL Q nc ns ws (pc + 2) lv (.ref x :: st)) : zw_W p l e R s m args below meth c D A nL Q nc ns ws pc lv st := fun H locs ls hP hD hS hl => lv_aload C.1 C.2.1 hd (lv_at hl j hj) (k H locs ls hP hD hS hl)
theorem zw_astore_n (C : zw_C p s m args c D tys A own cc nL) {q : Fin 4} {i : Nat} {x : Nat} {lv2 : List (Nat × Value)} (hd : decode cc pc = .ok (.astore_n q, 1)) (hi : (q : Nat) = i) (hn : i < nL) (hl2 : (i, Value.ref x) :: lv.filter (fun q => !(q.1 == i) && !(q.1 + 1 == i && q.2.category == 2)) = lv2) (k : zw_W p l e R s m args below meth c D A nL Q nc ns ws (pc + 1) lv2 st) : zw_W p l e R s m args below meth c D A nL Q nc ns ws pc lv (.ref x :: st) := fun H locs ls hP hD hS hl => lv_astore_n C.1 C.2.1 hd hi hl hn hl2 (fun ls2 hl3 => k H locs ls2 hP hD hS hl3)
theorem zw_astore (C : zw_C p s m args c D tys A own cc nL) {i : Nat} {x : Nat} {lv2 : List (Nat × Value)} (hd : decode cc pc = .ok (.astore i, 2)) (hn : i < nL) (hl2 : (i, Value.ref x) :: lv.filter (fun q => !(q.1 == i) && !(q.1 + 1 == i && q.2.category == 2)) = lv2) (k : zw_W p l e R s m args below meth c D A nL Q nc ns ws (pc + 2) lv2 st) : zw_W p l e R s m args below meth c D A nL Q nc ns ws pc lv (.ref x :: st) := fun H locs ls hP hD hS hl => lv_astore C.1 C.2.1 hd hl hn hl2 (fun ls2 hl3 => k H locs ls2 hP hD hS hl3)
theorem zw_iinc (C : zw_C p s m args c D tys A own cc nL) {i j : Nat} {n : Int} {x v : Int32} {lv2 : List (Nat × Value)} (hd : decode cc pc = .ok (.iinc i n, 3)) (hj : lv[j]? = some (i, .int x)) (hv : x + Int32.ofInt n = v) (hn : i < nL) (hl2 : (i, Value.int v) :: lv.filter (fun q => !(q.1 == i) && !(q.1 + 1 == i && q.2.category == 2)) = lv2) (k : zw_W p l e R s m args below meth c D A nL Q nc ns ws (pc + 3) lv2 st) : zw_W p l e R s m args below meth c D A nL Q nc ns ws pc lv st := fun H locs ls hP hD hS hl => lv_iinc C.1 C.2.1 hd hl hj hv hn hl2 (fun ls2 hl3 => k H locs ls2 hP hD hS hl3)
theorem zw_iadd (C : zw_C p s m args c D tys A own cc nL) {x y : Int32} (hd : decode cc pc = .ok (.iadd, 1)) (k : zw_W p l e R s m args below meth c D A nL Q nc ns ws (pc + 1) lv (.int (x + y) :: st)) : zw_W p l e R s m args below meth c D A nL Q nc ns ws pc lv (.int y :: .int x :: st) := fun H locs ls hP hD hS hl => lv_iadd C.1 C.2.1 hd (k H locs ls hP hD hS hl)
theorem zw_isub (C : zw_C p s m args c D tys A own cc nL) {x y : Int32} (hd : decode cc pc = .ok (.isub, 1)) (k : zw_W p l e R s m args below meth c D A nL Q nc ns ws (pc + 1) lv (.int (x - y) :: st)) : zw_W p l e R s m args below meth c D A nL Q nc ns ws pc lv (.int y :: .int x :: st) := fun H locs ls hP hD hS hl => lv_isub C.1 C.2.1 hd (k H locs ls hP hD hS hl)
theorem zw_imul (C : zw_C p s m args c D tys A own cc nL) {x y : Int32} (hd : decode cc pc = .ok (.imul, 1)) (k : zw_W p l e R s m args below meth c D A nL Q nc ns ws (pc + 1) lv (.int (x * y) :: st)) : zw_W p l e R s m args below meth c D A nL Q nc ns ws pc lv (.int y :: .int x :: st) := fun H locs ls hP hD hS hl => lv_imul C.1 C.2.1 hd (k H locs ls hP hD hS hl)
theorem zw_iand (C : zw_C p s m args c D tys A own cc nL) {x y : Int32} (hd : decode cc pc = .ok (.iand, 1)) (k : zw_W p l e R s m args below meth c D A nL Q nc ns ws (pc + 1) lv (.int (x &&& y) :: st)) : zw_W p l e R s m args below meth c D A nL Q nc ns ws pc lv (.int y :: .int x :: st) := fun H locs ls hP hD hS hl => lv_iand C.1 C.2.1 hd (k H locs ls hP hD hS hl)
theorem zw_ior (C : zw_C p s m args c D tys A own cc nL) {x y : Int32} (hd : decode cc pc = .ok (.ior, 1)) (k : zw_W p l e R s m args below meth c D A nL Q nc ns ws (pc + 1) lv (.int (x ||| y) :: st)) : zw_W p l e R s m args below meth c D A nL Q nc ns ws pc lv (.int y :: .int x :: st) := fun H locs ls hP hD hS hl => lv_ior C.1 C.2.1 hd (k H locs ls hP hD hS hl)
theorem zw_ixor (C : zw_C p s m args c D tys A own cc nL) {x y : Int32} (hd : decode cc pc = .ok (.ixor, 1)) (k : zw_W p l e R s m args below meth c D A nL Q nc ns ws (pc + 1) lv (.int (x ^^^ y) :: st)) : zw_W p l e R s m args below meth c D A nL Q nc ns ws pc lv (.int y :: .int x :: st) := fun H locs ls hP hD hS hl => lv_ixor C.1 C.2.1 hd (k H locs ls hP hD hS hl)
theorem zw_ladd (C : zw_C p s m args c D tys A own cc nL) {x y : Int64} (hd : decode cc pc = .ok (.ladd, 1)) (k : zw_W p l e R s m args below meth c D A nL Q nc ns ws (pc + 1) lv (.long (x + y) :: st)) : zw_W p l e R s m args below meth c D A nL Q nc ns ws pc lv (.long y :: .long x :: st) := fun H locs ls hP hD hS hl => lv_ladd C.1 C.2.1 hd (k H locs ls hP hD hS hl)
theorem zw_lsub (C : zw_C p s m args c D tys A own cc nL) {x y : Int64} (hd : decode cc pc = .ok (.lsub, 1)) (k : zw_W p l e R s m args below meth c D A nL Q nc ns ws (pc + 1) lv (.long (x - y) :: st)) : zw_W p l e R s m args below meth c D A nL Q nc ns ws pc lv (.long y :: .long x :: st) := fun H locs ls hP hD hS hl => lv_lsub C.1 C.2.1 hd (k H locs ls hP hD hS hl)
theorem zw_lmul (C : zw_C p s m args c D tys A own cc nL) {x y : Int64} (hd : decode cc pc = .ok (.lmul, 1)) (k : zw_W p l e R s m args below meth c D A nL Q nc ns ws (pc + 1) lv (.long (x * y) :: st)) : zw_W p l e R s m args below meth c D A nL Q nc ns ws pc lv (.long y :: .long x :: st) := fun H locs ls hP hD hS hl => lv_lmul C.1 C.2.1 hd (k H locs ls hP hD hS hl)
theorem zw_land (C : zw_C p s m args c D tys A own cc nL) {x y : Int64} (hd : decode cc pc = .ok (.land, 1)) (k : zw_W p l e R s m args below meth c D A nL Q nc ns ws (pc + 1) lv (.long (x &&& y) :: st)) : zw_W p l e R s m args below meth c D A nL Q nc ns ws pc lv (.long y :: .long x :: st) := fun H locs ls hP hD hS hl => lv_land C.1 C.2.1 hd (k H locs ls hP hD hS hl)
theorem zw_lor (C : zw_C p s m args c D tys A own cc nL) {x y : Int64} (hd : decode cc pc = .ok (.lor, 1)) (k : zw_W p l e R s m args below meth c D A nL Q nc ns ws (pc + 1) lv (.long (x ||| y) :: st)) : zw_W p l e R s m args below meth c D A nL Q nc ns ws pc lv (.long y :: .long x :: st) := fun H locs ls hP hD hS hl => lv_lor C.1 C.2.1 hd (k H locs ls hP hD hS hl)
theorem zw_lxor (C : zw_C p s m args c D tys A own cc nL) {x y : Int64} (hd : decode cc pc = .ok (.lxor, 1)) (k : zw_W p l e R s m args below meth c D A nL Q nc ns ws (pc + 1) lv (.long (x ^^^ y) :: st)) : zw_W p l e R s m args below meth c D A nL Q nc ns ws pc lv (.long y :: .long x :: st) := fun H locs ls hP hD hS hl => lv_lxor C.1 C.2.1 hd (k H locs ls hP hD hS hl)
theorem zw_idiv (C : zw_C p s m args c D tys A own cc nL) {x y : Int32} (hd : decode cc pc = .ok (.idiv, 1)) (hne : ¬ y = 0) (k : zw_W p l e R s m args below meth c D A nL Q nc ns ws (pc + 1) lv (.int (x / y) :: st)) : zw_W p l e R s m args below meth c D A nL Q nc ns ws pc lv (.int y :: .int x :: st) := fun H locs ls hP hD hS hl => lv_idiv C.1 C.2.1 hd hne (k H locs ls hP hD hS hl)
theorem zw_irem (C : zw_C p s m args c D tys A own cc nL) {x y : Int32} (hd : decode cc pc = .ok (.irem, 1)) (hne : ¬ y = 0) (k : zw_W p l e R s m args below meth c D A nL Q nc ns ws (pc + 1) lv (.int (x - x / y * y) :: st)) : zw_W p l e R s m args below meth c D A nL Q nc ns ws pc lv (.int y :: .int x :: st) := fun H locs ls hP hD hS hl => lv_irem C.1 C.2.1 hd hne (k H locs ls hP hD hS hl)
theorem zw_ldiv (C : zw_C p s m args c D tys A own cc nL) {x y : Int64} (hd : decode cc pc = .ok (.ldiv, 1)) (hne : ¬ y = 0) (k : zw_W p l e R s m args below meth c D A nL Q nc ns ws (pc + 1) lv (.long (x / y) :: st)) : zw_W p l e R s m args below meth c D A nL Q nc ns ws pc lv (.long y :: .long x :: st) := fun H locs ls hP hD hS hl => lv_ldiv C.1 C.2.1 hd hne (k H locs ls hP hD hS hl)
theorem zw_lrem (C : zw_C p s m args c D tys A own cc nL) {x y : Int64} (hd : decode cc pc = .ok (.lrem, 1)) (hne : ¬ y = 0) (k : zw_W p l e R s m args below meth c D A nL Q nc ns ws (pc + 1) lv (.long (x - x / y * y) :: st)) : zw_W p l e R s m args below meth c D A nL Q nc ns ws pc lv (.long y :: .long x :: st) := fun H locs ls hP hD hS hl => lv_lrem C.1 C.2.1 hd hne (k H locs ls hP hD hS hl)
theorem zw_ineg (C : zw_C p s m args c D tys A own cc nL) {x : Int32} (hd : decode cc pc = .ok (.ineg, 1)) (k : zw_W p l e R s m args below meth c D A nL Q nc ns ws (pc + 1) lv (.int (-x) :: st)) : zw_W p l e R s m args below meth c D A nL Q nc ns ws pc lv (.int x :: st) := fun H locs ls hP hD hS hl => lv_ineg C.1 C.2.1 hd (k H locs ls hP hD hS hl)
theorem zw_lneg (C : zw_C p s m args c D tys A own cc nL) {x : Int64} (hd : decode cc pc = .ok (.lneg, 1)) (k : zw_W p l e R s m args below meth c D A nL Q nc ns ws (pc + 1) lv (.long (-x) :: st)) : zw_W p l e R s m args below meth c D A nL Q nc ns ws pc lv (.long x :: st) := fun H locs ls hP hD hS hl => lv_lneg C.1 C.2.1 hd (k H locs ls hP hD hS hl)
theorem zw_i2l (C : zw_C p s m args c D tys A own cc nL) {x : Int32} (hd : decode cc pc = .ok (.i2l, 1)) (k : zw_W p l e R s m args below meth c D A nL Q nc ns ws (pc + 1) lv (.long x.toInt64 :: st)) : zw_W p l e R s m args below meth c D A nL Q nc ns ws pc lv (.int x :: st) := fun H locs ls hP hD hS hl => lv_i2l C.1 C.2.1 hd rfl (k H locs ls hP hD hS hl)
theorem zw_l2i (C : zw_C p s m args c D tys A own cc nL) {x : Int64} (hd : decode cc pc = .ok (.l2i, 1)) (k : zw_W p l e R s m args below meth c D A nL Q nc ns ws (pc + 1) lv (.int x.toInt32 :: st)) : zw_W p l e R s m args below meth c D A nL Q nc ns ws pc lv (.long x :: st) := fun H locs ls hP hD hS hl => lv_l2i C.1 C.2.1 hd rfl (k H locs ls hP hD hS hl)
theorem zw_lshl (C : zw_C p s m args c D tys A own cc nL) {x : Int64} {y : Int32} (hd : decode cc pc = .ok (.lshl, 1)) (k : zw_W p l e R s m args below meth c D A nL Q nc ns ws (pc + 1) lv (.long (x <<< (y.toInt64 &&& 63)) :: st)) : zw_W p l e R s m args below meth c D A nL Q nc ns ws pc lv (.int y :: .long x :: st) := fun H locs ls hP hD hS hl => lv_lshl C.1 C.2.1 hd rfl (k H locs ls hP hD hS hl)
theorem zw_lcmp (C : zw_C p s m args c D tys A own cc nL) {x y : Int64} (hd : decode cc pc = .ok (.lcmp, 1)) (k : zw_W p l e R s m args below meth c D A nL Q nc ns ws (pc + 1) lv (.int (lg_cmp x y) :: st)) : zw_W p l e R s m args below meth c D A nL Q nc ns ws pc lv (.long y :: .long x :: st) := fun H locs ls hP hD hS hl => W.lcmp C.1 C.2.1 hd (k H locs ls hP hD hS hl)
theorem zw_dup (C : zw_C p s m args c D tys A own cc nL) {va : Value} (hd : decode cc pc = .ok (.dup, 1)) (h1 : va.category = 1) (k : zw_W p l e R s m args below meth c D A nL Q nc ns ws (pc + 1) lv (va :: va :: st)) : zw_W p l e R s m args below meth c D A nL Q nc ns ws pc lv (va :: st) := fun H locs ls hP hD hS hl => lv_dup C.1 C.2.1 hd h1 (k H locs ls hP hD hS hl)
theorem zw_pop (C : zw_C p s m args c D tys A own cc nL) {va : Value} (hd : decode cc pc = .ok (.pop, 1)) (h1 : va.category = 1) (k : zw_W p l e R s m args below meth c D A nL Q nc ns ws (pc + 1) lv st) : zw_W p l e R s m args below meth c D A nL Q nc ns ws pc lv (va :: st) := fun H locs ls hP hD hS hl => lv_pop C.1 C.2.1 hd h1 (k H locs ls hP hD hS hl)
theorem zw_pop2 (C : zw_C p s m args c D tys A own cc nL) {va : Value} (hd : decode cc pc = .ok (.pop2, 1)) (h1 : va.category = 2) (k : zw_W p l e R s m args below meth c D A nL Q nc ns ws (pc + 1) lv st) : zw_W p l e R s m args below meth c D A nL Q nc ns ws pc lv (va :: st) := fun H locs ls hP hD hS hl => lv_pop2_2 C.1 C.2.1 hd h1 (k H locs ls hP hD hS hl)
theorem zw_dup_x1 (C : zw_C p s m args c D tys A own cc nL) {va vb : Value} (hd : decode cc pc = .ok (.dup_x1, 1)) (h1 : va.category = 1) (h2 : vb.category = 1) (k : zw_W p l e R s m args below meth c D A nL Q nc ns ws (pc + 1) lv (va :: vb :: va :: st)) : zw_W p l e R s m args below meth c D A nL Q nc ns ws pc lv (va :: vb :: st) := fun H locs ls hP hD hS hl => lv_dup_x1 C.1 C.2.1 hd h1 h2 (k H locs ls hP hD hS hl)
theorem zw_dup_x2 (C : zw_C p s m args c D tys A own cc nL) {va vb vd : Value} (hd : decode cc pc = .ok (.dup_x2, 1)) (h1 : va.category = 1) (h2 : vb.category = 1) (h3 : vd.category = 1) (k : zw_W p l e R s m args below meth c D A nL Q nc ns ws (pc + 1) lv (va :: vb :: vd :: va :: st)) : zw_W p l e R s m args below meth c D A nL Q nc ns ws pc lv (va :: vb :: vd :: st) := fun H locs ls hP hD hS hl => lv_dup_x2 C.1 C.2.1 hd h1 h2 h3 (k H locs ls hP hD hS hl)
theorem zw_dup2_11 (C : zw_C p s m args c D tys A own cc nL) {va vb : Value} (hd : decode cc pc = .ok (.dup2, 1)) (h1 : va.category = 1) (h2 : vb.category = 1) (k : zw_W p l e R s m args below meth c D A nL Q nc ns ws (pc + 1) lv (va :: vb :: va :: vb :: st)) : zw_W p l e R s m args below meth c D A nL Q nc ns ws pc lv (va :: vb :: st) := fun H locs ls hP hD hS hl => lv_dup2_11 C.1 C.2.1 hd h1 h2 (k H locs ls hP hD hS hl)
theorem zw_dup2_2 (C : zw_C p s m args c D tys A own cc nL) {va : Value} (hd : decode cc pc = .ok (.dup2, 1)) (h1 : va.category = 2) (k : zw_W p l e R s m args below meth c D A nL Q nc ns ws (pc + 1) lv (va :: va :: st)) : zw_W p l e R s m args below meth c D A nL Q nc ns ws pc lv (va :: st) := fun H locs ls hP hD hS hl => lv_dup2_2 C.1 C.2.1 hd h1 (k H locs ls hP hD hS hl)
theorem zw_dup2_x1_2 (C : zw_C p s m args c D tys A own cc nL) {va vb : Value} (hd : decode cc pc = .ok (.dup2_x1, 1)) (h1 : va.category = 2) (h2 : vb.category = 1) (k : zw_W p l e R s m args below meth c D A nL Q nc ns ws (pc + 1) lv (va :: vb :: va :: st)) : zw_W p l e R s m args below meth c D A nL Q nc ns ws pc lv (va :: vb :: st) := fun H locs ls hP hD hS hl => lv_dup2_x1_2 C.1 C.2.1 hd h1 h2 (k H locs ls hP hD hS hl)
theorem zw_if_eq (C : zw_C p s m args c D tys A own cc nL) {x : Int32} {off : Int} (tgt : Nat) (hd : decode cc pc = .ok (.ifCond .eq off, 3)) (ht : (pc : Int) + off = (tgt : Int)) (kt : x = 0 → zw_W p l e R s m args below meth c D A nL Q nc ns ws tgt lv st) (kf : ¬ x = 0 → zw_W p l e R s m args below meth c D A nL Q nc ns ws (pc + 3) lv st) : zw_W p l e R s m args below meth c D A nL Q nc ns ws pc lv (.int x :: st) := fun H locs ls hP hD hS hl => lv_if_eq C.1 C.2.1 hd ht (fun h => kt h H locs ls hP hD hS hl) (fun h => kf h H locs ls hP hD hS hl)
theorem zw_if_ne (C : zw_C p s m args c D tys A own cc nL) {x : Int32} {off : Int} (tgt : Nat) (hd : decode cc pc = .ok (.ifCond .ne off, 3)) (ht : (pc : Int) + off = (tgt : Int)) (kt : ¬ x = 0 → zw_W p l e R s m args below meth c D A nL Q nc ns ws tgt lv st) (kf : x = 0 → zw_W p l e R s m args below meth c D A nL Q nc ns ws (pc + 3) lv st) : zw_W p l e R s m args below meth c D A nL Q nc ns ws pc lv (.int x :: st) := fun H locs ls hP hD hS hl => lv_if_ne C.1 C.2.1 hd ht (fun h => kt h H locs ls hP hD hS hl) (fun h => kf h H locs ls hP hD hS hl)
theorem zw_if_lt (C : zw_C p s m args c D tys A own cc nL) {x : Int32} {off : Int} (tgt : Nat) (hd : decode cc pc = .ok (.ifCond .lt off, 3)) (ht : (pc : Int) + off = (tgt : Int)) (kt : x < 0 → zw_W p l e R s m args below meth c D A nL Q nc ns ws tgt lv st) (kf : ¬ x < 0 → zw_W p l e R s m args below meth c D A nL Q nc ns ws (pc + 3) lv st) : zw_W p l e R s m args below meth c D A nL Q nc ns ws pc lv (.int x :: st) := fun H locs ls hP hD hS hl => lv_if_lt C.1 C.2.1 hd ht (fun h => kt h H locs ls hP hD hS hl) (fun h => kf h H locs ls hP hD hS hl)
theorem zw_if_ge (C : zw_C p s m args c D tys A own cc nL) {x : Int32} {off : Int} (tgt : Nat) (hd : decode cc pc = .ok (.ifCond .ge off, 3)) (ht : (pc : Int) + off = (tgt : Int)) (kt : 0 ≤ x → zw_W p l e R s m args below meth c D A nL Q nc ns ws tgt lv st) (kf : ¬ 0 ≤ x → zw_W p l e R s m args below meth c D A nL Q nc ns ws (pc + 3) lv st) : zw_W p l e R s m args below meth c D A nL Q nc ns ws pc lv (.int x :: st) := fun H locs ls hP hD hS hl => lv_if_ge C.1 C.2.1 hd ht (fun h => kt h H locs ls hP hD hS hl) (fun h => kf h H locs ls hP hD hS hl)
theorem zw_if_gt (C : zw_C p s m args c D tys A own cc nL) {x : Int32} {off : Int} (tgt : Nat) (hd : decode cc pc = .ok (.ifCond .gt off, 3)) (ht : (pc : Int) + off = (tgt : Int)) (kt : 0 < x → zw_W p l e R s m args below meth c D A nL Q nc ns ws tgt lv st) (kf : ¬ 0 < x → zw_W p l e R s m args below meth c D A nL Q nc ns ws (pc + 3) lv st) : zw_W p l e R s m args below meth c D A nL Q nc ns ws pc lv (.int x :: st) := fun H locs ls hP hD hS hl => lv_if_gt C.1 C.2.1 hd ht (fun h => kt h H locs ls hP hD hS hl) (fun h => kf h H locs ls hP hD hS hl)
theorem zw_if_le (C : zw_C p s m args c D tys A own cc nL) {x : Int32} {off : Int} (tgt : Nat) (hd : decode cc pc = .ok (.ifCond .le off, 3)) (ht : (pc : Int) + off = (tgt : Int)) (kt : x ≤ 0 → zw_W p l e R s m args below meth c D A nL Q nc ns ws tgt lv st) (kf : ¬ x ≤ 0 → zw_W p l e R s m args below meth c D A nL Q nc ns ws (pc + 3) lv st) : zw_W p l e R s m args below meth c D A nL Q nc ns ws pc lv (.int x :: st) := fun H locs ls hP hD hS hl => lv_if_le C.1 C.2.1 hd ht (fun h => kt h H locs ls hP hD hS hl) (fun h => kf h H locs ls hP hD hS hl)
theorem zw_icmp_eq (C : zw_C p s m args c D tys A own cc nL) {x y : Int32} {off : Int} (tgt : Nat) (hd : decode cc pc = .ok (.if_icmp .eq off, 3)) (ht : (pc : Int) + off = (tgt : Int)) (kt : x = y → zw_W p l e R s m args below meth c D A nL Q nc ns ws tgt lv st) (kf : ¬ x = y → zw_W p l e R s m args below meth c D A nL Q nc ns ws (pc + 3) lv st) : zw_W p l e R s m args below meth c D A nL Q nc ns ws pc lv (.int y :: .int x :: st) := fun H locs ls hP hD hS hl => lv_icmp_eq C.1 C.2.1 hd ht (fun h => kt h H locs ls hP hD hS hl) (fun h => kf h H locs ls hP hD hS hl)
theorem zw_icmp_ne (C : zw_C p s m args c D tys A own cc nL) {x y : Int32} {off : Int} (tgt : Nat) (hd : decode cc pc = .ok (.if_icmp .ne off, 3)) (ht : (pc : Int) + off = (tgt : Int)) (kt : ¬ x = y → zw_W p l e R s m args below meth c D A nL Q nc ns ws tgt lv st) (kf : x = y → zw_W p l e R s m args below meth c D A nL Q nc ns ws (pc + 3) lv st) : zw_W p l e R s m args below meth c D A nL Q nc ns ws pc lv (.int y :: .int x :: st) := fun H locs ls hP hD hS hl => lv_icmp_ne C.1 C.2.1 hd ht (fun h => kt h H locs ls hP hD hS hl) (fun h => kf h H locs ls hP hD hS hl)
theorem zw_icmp_lt (C : zw_C p s m args c D tys A own cc nL) {x y : Int32} {off : Int} (tgt : Nat) (hd : decode cc pc = .ok (.if_icmp .lt off, 3)) (ht : (pc : Int) + off = (tgt : Int)) (kt : x < y → zw_W p l e R s m args below meth c D A nL Q nc ns ws tgt lv st) (kf : ¬ x < y → zw_W p l e R s m args below meth c D A nL Q nc ns ws (pc + 3) lv st) : zw_W p l e R s m args below meth c D A nL Q nc ns ws pc lv (.int y :: .int x :: st) := fun H locs ls hP hD hS hl => lv_icmp_lt C.1 C.2.1 hd ht (fun h => kt h H locs ls hP hD hS hl) (fun h => kf h H locs ls hP hD hS hl)
theorem zw_icmp_ge (C : zw_C p s m args c D tys A own cc nL) {x y : Int32} {off : Int} (tgt : Nat) (hd : decode cc pc = .ok (.if_icmp .ge off, 3)) (ht : (pc : Int) + off = (tgt : Int)) (kt : y ≤ x → zw_W p l e R s m args below meth c D A nL Q nc ns ws tgt lv st) (kf : ¬ y ≤ x → zw_W p l e R s m args below meth c D A nL Q nc ns ws (pc + 3) lv st) : zw_W p l e R s m args below meth c D A nL Q nc ns ws pc lv (.int y :: .int x :: st) := fun H locs ls hP hD hS hl => lv_icmp_ge C.1 C.2.1 hd ht (fun h => kt h H locs ls hP hD hS hl) (fun h => kf h H locs ls hP hD hS hl)
theorem zw_icmp_gt (C : zw_C p s m args c D tys A own cc nL) {x y : Int32} {off : Int} (tgt : Nat) (hd : decode cc pc = .ok (.if_icmp .gt off, 3)) (ht : (pc : Int) + off = (tgt : Int)) (kt : y < x → zw_W p l e R s m args below meth c D A nL Q nc ns ws tgt lv st) (kf : ¬ y < x → zw_W p l e R s m args below meth c D A nL Q nc ns ws (pc + 3) lv st) : zw_W p l e R s m args below meth c D A nL Q nc ns ws pc lv (.int y :: .int x :: st) := fun H locs ls hP hD hS hl => lv_icmp_gt C.1 C.2.1 hd ht (fun h => kt h H locs ls hP hD hS hl) (fun h => kf h H locs ls hP hD hS hl)
theorem zw_icmp_le (C : zw_C p s m args c D tys A own cc nL) {x y : Int32} {off : Int} (tgt : Nat) (hd : decode cc pc = .ok (.if_icmp .le off, 3)) (ht : (pc : Int) + off = (tgt : Int)) (kt : x ≤ y → zw_W p l e R s m args below meth c D A nL Q nc ns ws tgt lv st) (kf : ¬ x ≤ y → zw_W p l e R s m args below meth c D A nL Q nc ns ws (pc + 3) lv st) : zw_W p l e R s m args below meth c D A nL Q nc ns ws pc lv (.int y :: .int x :: st) := fun H locs ls hP hD hS hl => lv_icmp_le C.1 C.2.1 hd ht (fun h => kt h H locs ls hP hD hS hl) (fun h => kf h H locs ls hP hD hS hl)
theorem zw_goto (C : zw_C p s m args c D tys A own cc nL) {off : Int} (tgt : Nat) (hd : decode cc pc = .ok (.goto off, 3)) (ht : (pc : Int) + off = (tgt : Int)) (k : zw_W p l e R s m args below meth c D A nL Q nc ns ws tgt lv st) : zw_W p l e R s m args below meth c D A nL Q nc ns ws pc lv st := fun H locs ls hP hD hS hl => lv_goto C.1 C.2.1 hd ht (k H locs ls hP hD hS hl)
theorem zw_tableOut (C : zw_C p s m args c D tys A own cc nL) {dflt lo hi : Int} {offs : Array Int} {len : Nat} {x : Int32} (tgt : Nat) (hd : decode cc pc = .ok (.tableswitch dflt lo hi offs, len)) (h : x.toInt < lo ∨ hi < x.toInt) (ht : (pc : Int) + dflt = (tgt : Int)) (k : zw_W p l e R s m args below meth c D A nL Q nc ns ws tgt lv st) : zw_W p l e R s m args below meth c D A nL Q nc ns ws pc lv (.int x :: st) := fun H locs ls hP hD hS hl => lv_tableOut C.1 C.2.1 hd h ht (k H locs ls hP hD hS hl)
theorem zw_tableIn (C : zw_C p s m args c D tys A own cc nL) {dflt lo hi : Int} {offs : Array Int} {len : Nat} {x : Int32} {off : Int} (tgt : Nat) (hd : decode cc pc = .ok (.tableswitch dflt lo hi offs, len)) (h1 : ¬ x.toInt < lo) (h2 : ¬ hi < x.toInt) (ho : offs[(x.toInt - lo).toNat]? = some off) (ht : (pc : Int) + off = (tgt : Int)) (k : zw_W p l e R s m args below meth c D A nL Q nc ns ws tgt lv st) : zw_W p l e R s m args below meth c D A nL Q nc ns ws pc lv (.int x :: st) := fun H locs ls hP hD hS hl => lv_tableIn C.1 C.2.1 hd h1 h2 ho ht (k H locs ls hP hD hS hl)
theorem zw_locals {lv2 : List (Nat × Value)} (ks : List Nat) (h : lv_pick lv ks = lv2) (k : zw_W p l e R s m args below meth c D A nL Q nc ns ws pc lv2 st) : zw_W p l e R s m args below meth c D A nL Q nc ns ws pc lv st := fun H locs ls hP hD hS hl => k H locs ls hP hD hS (lv_sub hl ks h)
theorem zw_eq {ws2 : va_W} {lv2 : List (Nat × Value)} {st2 : List Value} (h1 : ws = ws2) (h2 : lv = lv2) (h3 : st = st2) (k : zw_W p l e R s m args below meth c D A nL Q nc ns ws2 pc lv2 st2) : zw_W p l e R s m args below meth c D A nL Q nc ns ws pc lv st := by subst h1; subst h2; subst h3; exact k
/-- a class's layout words are among the tables' -/
def zw_F (Cn : String) (T : u_T) (N ci : Nat) : Prop := vwCl[ci]? = some (Cn, T, N) ∧ ∀ w ∈ u_ws Cn T N, w ∈ zw_tbl
theorem zw_get (C : zw_C p s m args c D tys A own cc nL) {Cn : String} {T : u_T} {N ci index a : Nat} (F : zw_F Cn T N ci) (q0 f : Nat) {fs : List Value} {v : Value} (he : ws[q0]? = some (a, .inr (ci, fs))) (hf : f < N) (hlink : Cond.fieldLink own index (T f).1 (T f).2.1 (T f).2.2.1 ∈ zw_tbl) (hv : fs[f]? = some v) (hd : decode cc pc = .ok (.getfield index, 3)) (k : zw_W p l e R s m args below meth c D A nL Q nc ns ws (pc + 3) lv (v :: st)) : zw_W p l e R s m args below meth c D A nL Q nc ns ws pc lv (.ref a :: st) := fun H locs ls hP hD hS hl => va_get C.1 C.2.1 C.2.2.2.2.1 F.2 C.2.2.2.1 C.2.2.2.2.2.1 hP q0 he F.1 f hf (C.2.2.2.2.1 _ hlink) (fun _ h => h) hv hd (k H locs ls hP hD hS hl)
/-- a class's types and names, for writing -/
def zw_FW (T : u_T) (N : Nat) (ty : Nat → FieldType) : Prop := (∀ k, k < N → parseFieldDescriptor (T k).2.2.1 = some (ty k)) ∧ (∀ a, a < N → ∀ b, b < N → a ≠ b → (T a).2.1 ≠ (T b).2.1)
theorem zw_put (C : zw_C p s m args c D tys A own cc nL) {Cn : String} {T : u_T} {N ci index a : Nat} {ty : Nat → FieldType} (F : zw_F Cn T N ci) (FW : zw_FW T N ty) (q0 f : Nat) {fs : List Value} {v : Value} {ws2 : va_W} (he : ws[q0]? = some (a, .inr (ci, fs))) (hf : f < N) (hlink : Cond.fieldLink own index (T f).1 (T f).2.1 (T f).2.2.1 ∈ zw_tbl) (hfin : (T f).2.2.2 = false) (hn : narrow (ty f) v = v) (hfit : fits (ty f) v = true) (hl0 : f < fs.length) (hw : ws.set q0 (a, .inr (ci, fs.set f v)) = ws2) (hd : decode cc pc = .ok (.putfield index, 3)) (k : zw_W p l e R s m args below meth c D A nL Q nc ns ws2 (pc + 3) lv st) : zw_W p l e R s m args below meth c D A nL Q nc ns ws pc lv (v :: .ref a :: st) := fun H locs ls hP hD hS hl => va_put C.1 C.2.1 C.2.2.2.2.1 F.2 ty FW.1 FW.2 C.2.2.2.1 C.2.2.2.2.2.1 hP hD hS q0 he F.1 f hf (C.2.2.2.2.1 _ hlink) (fun _ h => h) hfin (FW.1 f hf) hn hfit hl0 hd (fun H1 locs1 hP1 hD1 hS1 => k H1 locs1 ls (hw ▸ hP1) (hw ▸ hD1) hS1 hl)
theorem zw_putF (C : zw_C p s m args c D tys A own cc nL) {Cn : String} {T : u_T} {N ci index a : Nat} {ty : Nat → FieldType} (F : zw_F Cn T N ci) (FW : zw_FW T N ty) (q0 f : Nat) {fs : List Value} {v : Value} {ws2 : va_W} (he : ws[q0]? = some (a, .inr (ci, fs))) (hf : f < N) (hlink : Cond.fieldLink own index (T f).1 (T f).2.1 (T f).2.2.1 ∈ zw_tbl) (hfin : (T f).2.2.2 = true) (hin : meth.name = "<init>") (hdecl : (T f).1 = own) (hn : narrow (ty f) v = v) (hfit : fits (ty f) v = true) (hl0 : f < fs.length) (hw : ws.set q0 (a, .inr (ci, fs.set f v)) = ws2) (hd : decode cc pc = .ok (.putfield index, 3)) (k : zw_W p l e R s m args below meth c D A nL Q nc ns ws2 (pc + 3) lv st) : zw_W p l e R s m args below meth c D A nL Q nc ns ws pc lv (v :: .ref a :: st) := fun H locs ls hP hD hS hl => va_putF C.1 C.2.1 C.2.2.2.2.1 F.2 ty FW.1 FW.2 C.2.2.2.1 C.2.2.2.2.2.1 hP hD hS q0 he F.1 f hf (C.2.2.2.2.1 _ hlink) (fun _ h => h) hfin hin hdecl (FW.1 f hf) hn hfit hl0 hd (fun H1 locs1 hP1 hD1 hS1 => k H1 locs1 ls (hw ▸ hP1) (hw ▸ hD1) hS1 hl)
theorem zw_iald (C : zw_C p s m args c D tys A own cc nL) (q0 t0 : Nat) {a : Nat} {cA : ClassId} {n : Nat} {f : Nat → Int32} {i : Int32} (ha : ws[q0]? = some (a, .inl (cA, n, .inl f))) (ht : tys[t0]? = some (cA, .int)) (hin : vp_in i n) (hd : decode cc pc = .ok (.iaload, 1)) (k : zw_W p l e R s m args below meth c D A nL Q nc ns ws (pc + 1) lv (.int (f i.toNatClampNeg) :: st)) : zw_W p l e R s m args below meth c D A nL Q nc ns ws pc lv (.int i :: .ref a :: st) := fun H locs ls hP hD hS hl => va_iald C.1 C.2.1 C.2.2.2.2.2.1 hP q0 t0 ha ht hin hd (k H locs ls hP hD hS hl)
theorem zw_iast (C : zw_C p s m args c D tys A own cc nL) (q0 t0 : Nat) {a : Nat} {cA : ClassId} {n : Nat} {f : Nat → Int32} {i : Int32} {x : Int32} {ws2 : va_W} (ha : ws[q0]? = some (a, .inl (cA, n, .inl f))) (ht : tys[t0]? = some (cA, .int)) (hin : vp_in i n) (hw : ws.set q0 (a, .inl (cA, n, .inl (upd f i.toNatClampNeg x))) = ws2) (hd : decode cc pc = .ok (.iastore, 1)) (k : zw_W p l e R s m args below meth c D A nL Q nc ns ws2 (pc + 1) lv st) : zw_W p l e R s m args below meth c D A nL Q nc ns ws pc lv (.int x :: .int i :: .ref a :: st) := fun H locs ls hP hD hS hl => va_iast C.1 C.2.1 C.2.2.2.2.2.1 hP hD hS q0 t0 ha ht hin hd (fun H1 locs1 hP1 hD1 hS1 => k H1 locs1 ls (hw ▸ hP1) (hw ▸ hD1) hS1 hl)
theorem zw_lald (C : zw_C p s m args c D tys A own cc nL) (q0 t0 : Nat) {a : Nat} {cA : ClassId} {n : Nat} {f : Nat → Int64} {i : Int32} (ha : ws[q0]? = some (a, .inl (cA, n, .inr (.inl f)))) (ht : tys[t0]? = some (cA, .long)) (hin : vp_in i n) (hd : decode cc pc = .ok (.laload, 1)) (k : zw_W p l e R s m args below meth c D A nL Q nc ns ws (pc + 1) lv (.long (f i.toNatClampNeg) :: st)) : zw_W p l e R s m args below meth c D A nL Q nc ns ws pc lv (.int i :: .ref a :: st) := fun H locs ls hP hD hS hl => va_lald C.1 C.2.1 C.2.2.2.2.2.1 hP q0 t0 ha ht hin hd (k H locs ls hP hD hS hl)
theorem zw_last (C : zw_C p s m args c D tys A own cc nL) (q0 t0 : Nat) {a : Nat} {cA : ClassId} {n : Nat} {f : Nat → Int64} {i : Int32} {x : Int64} {ws2 : va_W} (ha : ws[q0]? = some (a, .inl (cA, n, .inr (.inl f)))) (ht : tys[t0]? = some (cA, .long)) (hin : vp_in i n) (hw : ws.set q0 (a, .inl (cA, n, .inr (.inl (vp_updL f i.toNatClampNeg x)))) = ws2) (hd : decode cc pc = .ok (.lastore, 1)) (k : zw_W p l e R s m args below meth c D A nL Q nc ns ws2 (pc + 1) lv st) : zw_W p l e R s m args below meth c D A nL Q nc ns ws pc lv (.long x :: .int i :: .ref a :: st) := fun H locs ls hP hD hS hl => va_last C.1 C.2.1 C.2.2.2.2.2.1 hP hD hS q0 t0 ha ht hin hd (fun H1 locs1 hP1 hD1 hS1 => k H1 locs1 ls (hw ▸ hP1) (hw ▸ hD1) hS1 hl)
end ZW
/-! CONTRACTS AND CALLS: a method's contract: from the world ws it ends with the world ws2 and the answer r; nothing new is made. -/
def zw_Pre (D : va_G) (tys : List (ClassId × FieldType)) (av : List Value) (ws : va_W) (sz : Nat) : Array Value → State → Prop := va_Pc av (fun U => U.heap.size = sz ∧ va_P D vwCl ws U.heap ∧ va_K D vwCl tys U ∧ va_D (fun _ => True) ws)
theorem zw_blind {D : va_G} {tys : List (ClassId × FieldType)} {av : List Value} {ws : va_W} {sz : Nat} : FrameBlind (zw_Pre D tys av ws sz) := fun a U g mk q => by
  obtain ⟨q0, q1, qP, qK, qD⟩ := q
  exact ⟨q0, q1, qP, va_K.moved (u := U) (U := U.calling g mk a) (Vm.Alike.refl U.vm) qK, qD⟩
def zw_Post (D : va_G) (A : Nat → Prop) (ws2 : va_W) (t : State) : Prop := va_P D vwCl ws2 t.heap ∧ va_D A ws2
def zw_Mi (l : Launch) (y : MethodName) (cc : ByteArray) (nL : Nat) (rt : FieldType) (D : va_G) (tys : List (ClassId × FieldType)) (rm : Room) (av : List Value) (ws ws2 : va_W) (r : Int32) : Prop :=
  ∀ sz : Nat, Met l y (Cond.code y cc nL (some rt) :: zw_tbl) rm (zw_Pre D tys av ws sz) (va_Qi (fun (r2 : Int32) (_ : Unit) => r2 = r) (fun _ t => zw_Post D (va_A ws sz) ws2 t) (va_A ws sz)) 0 0 (va_A ws sz)
def zw_Ml (l : Launch) (y : MethodName) (cc : ByteArray) (nL : Nat) (D : va_G) (tys : List (ClassId × FieldType)) (rm : Room) (av : List Value) (ws ws2 : va_W) (r : Int64) : Prop :=
  ∀ sz : Nat, Met l y (Cond.code y cc nL (some .long) :: zw_tbl) rm (zw_Pre D tys av ws sz) (va_Ql (fun (r2 : Int64) (_ : Unit) => r2 = r) (fun _ t => zw_Post D (va_A ws sz) ws2 t) (va_A ws sz)) 0 0 (va_A ws sz)
def zw_Mv (l : Launch) (y : MethodName) (cc : ByteArray) (nL : Nat) (D : va_G) (tys : List (ClassId × FieldType)) (rm : Room) (av : List Value) (ws ws2 : va_W) : Prop :=
  ∀ sz : Nat, Met l y (Cond.code y cc nL none :: zw_tbl) rm (zw_Pre D tys av ws sz) (va_Qv (fun (_ : Unit) => True) (fun _ t => zw_Post D (va_A ws sz) ws2 t) (va_A ws sz)) 0 0 (va_A ws sz)
def zw_Qi (D : va_G) (A : Nat → Prop) (ws2 : va_W) (r : Int32) (below : List Frame) (args : Array Value) (s : State) : State → Prop := MQ below (va_Qi (fun (r2 : Int32) (_ : Unit) => r2 = r) (fun _ t => zw_Post D A ws2 t) A) args s 0 0 A
def zw_Ql (D : va_G) (A : Nat → Prop) (ws2 : va_W) (r : Int64) (below : List Frame) (args : Array Value) (s : State) : State → Prop := MQ below (va_Ql (fun (r2 : Int64) (_ : Unit) => r2 = r) (fun _ t => zw_Post D A ws2 t) A) args s 0 0 A
def zw_Qv (D : va_G) (A : Nat → Prop) (ws2 : va_W) (below : List Frame) (args : Array Value) (s : State) : State → Prop := MQ below (va_Qv (fun (_ : Unit) => True) (fun _ t => zw_Post D A ws2 t) A) args s 0 0 A
section ZM
variable {l : Launch} {y : MethodName} {cc : ByteArray} {nL : Nat} {rt : FieldType} {D : va_G} {tys : List (ClassId × FieldType)} {rm : Room} {av : List Value} {ws ws2 : va_W} {own : String}
theorem zw_Mi_of {r : Int32} (hy : plainName y.cls = true) (hyc : y.cls = own) (hlen : (lg_sl av).length ≤ nL) (h : ∀ (p : Program) (e : Env) (s : State) (m : MethodId) (args : Array Value) (below : List Frame) (meth : Method) (c : Code) (A : Nat → Prop), zw_C p s m args c D tys A own cc nL → meth.sig.returnType = some rt → meth.locks = false → zw_W p l e rm s m args below meth c D A nL (zw_Qi D A ws2 r below args s) 0 0 ws 0 (lv_args 0 av) []) : zw_Mi l y cc nL rt D tys rm av ws ws2 r := by
  intro sz
  refine Met.ofW (cc := cc) (maxL := nL) (ret := some rt) hy rfl ?_
  intro p e s m args below meth c s₁ B hml hv
  obtain ⟨rfl, hsz, hP, hK, hD0⟩ := hv
  have hts := atoms_spec (ws := Cond.code y cc nL (some rt) :: zw_tbl) B.pre
  have hown : s.vm.findClass y.cls = some m.cls := findClass_of_methodNamed B.named
  subst hsz
  have hl := lv_entry av (n := nL) hlen
  rw [lg_entry_eq]
  exact h p e s m _ below meth c (va_A ws s.heap.size) ⟨B.exec, B.bytes, hml, hyc ▸ hown, fun w hw => hts w (List.mem_cons_of_mem _ hw), hK, fun q hq => Or.inr hq⟩ B.returns B.notSynchronized s.heap [] _ hP hD0.self va_S.rf hl
theorem zw_Ml_of {r : Int64} (hy : plainName y.cls = true) (hyc : y.cls = own) (hlen : (lg_sl av).length ≤ nL) (h : ∀ (p : Program) (e : Env) (s : State) (m : MethodId) (args : Array Value) (below : List Frame) (meth : Method) (c : Code) (A : Nat → Prop), zw_C p s m args c D tys A own cc nL → meth.sig.returnType = some .long → meth.locks = false → zw_W p l e rm s m args below meth c D A nL (zw_Ql D A ws2 r below args s) 0 0 ws 0 (lv_args 0 av) []) : zw_Ml l y cc nL D tys rm av ws ws2 r := by
  intro sz
  refine Met.ofW (cc := cc) (maxL := nL) (ret := some .long) hy rfl ?_
  intro p e s m args below meth c s₁ B hml hv
  obtain ⟨rfl, hsz, hP, hK, hD0⟩ := hv
  have hts := atoms_spec (ws := Cond.code y cc nL (some .long) :: zw_tbl) B.pre
  have hown : s.vm.findClass y.cls = some m.cls := findClass_of_methodNamed B.named
  subst hsz
  have hl := lv_entry av (n := nL) hlen
  rw [lg_entry_eq]
  exact h p e s m _ below meth c (va_A ws s.heap.size) ⟨B.exec, B.bytes, hml, hyc ▸ hown, fun w hw => hts w (List.mem_cons_of_mem _ hw), hK, fun q hq => Or.inr hq⟩ B.returns B.notSynchronized s.heap [] _ hP hD0.self va_S.rf hl
theorem zw_Mv_of (hy : plainName y.cls = true) (hyc : y.cls = own) (hlen : (lg_sl av).length ≤ nL) (h : ∀ (p : Program) (e : Env) (s : State) (m : MethodId) (args : Array Value) (below : List Frame) (meth : Method) (c : Code) (A : Nat → Prop), zw_C p s m args c D tys A own cc nL → meth.sig.returnType = none → meth.locks = false → zw_W p l e rm s m args below meth c D A nL (zw_Qv D A ws2 below args s) 0 0 ws 0 (lv_args 0 av) []) : zw_Mv l y cc nL D tys rm av ws ws2 := by
  intro sz
  refine Met.ofW (cc := cc) (maxL := nL) (ret := none) hy rfl ?_
  intro p e s m args below meth c s₁ B hml hv
  obtain ⟨rfl, hsz, hP, hK, hD0⟩ := hv
  have hts := atoms_spec (ws := Cond.code y cc nL none :: zw_tbl) B.pre
  have hown : s.vm.findClass y.cls = some m.cls := findClass_of_methodNamed B.named
  subst hsz
  have hl := lv_entry av (n := nL) hlen
  rw [lg_entry_eq]
  exact h p e s m _ below meth c (va_A ws s.heap.size) ⟨B.exec, B.bytes, hml, hyc ▸ hown, fun w hw => hts w (List.mem_cons_of_mem _ hw), hK, fun q hq => Or.inr hq⟩ B.returns B.notSynchronized s.heap [] _ hP hD0.self va_S.rf hl
end ZM
section ZR
variable {p : Program} {l : Launch} {e : Env} {R : Room} {s : State} {m : MethodId} {args : Array Value} {below : List Frame} {meth : Method} {c : Code} {D : va_G} {tys : List (ClassId × FieldType)} {A : Nat → Prop} {own : String} {cc : ByteArray} {nL : Nat} {Q : State → Prop} {nc ns : Nat} {ws ws2 : va_W} {pc : Nat} {lv : List (Nat × Value)} {st : List Value}
theorem zw_ireturn (C : zw_C p s m args c D tys A own cc nL) (hr : meth.sig.returnType = some .int) (hlk : meth.locks = false) {v r : Int32} (hd : decode cc pc = .ok (.ireturn, 1)) (hv : v = r) (hw : ws = ws2) : zw_W p l e R s m args below meth c D A nL (zw_Qi D A ws2 r below args s) 0 0 ws pc lv [.int v] := by
  subst hv; subst hw
  intro H locs ls hP hD hS hl
  exact W.iret C.1 C.2.1 hr (fun t ht _ => ⟨⟨v, (), rfl, rfl, by rw [ht]; exact hP, hD⟩, hS.F ht⟩) hS.2.2 hd hlk
theorem zw_zreturn (C : zw_C p s m args c D tys A own cc nL) (hr : meth.sig.returnType = some .boolean) (hlk : meth.locks = false) {v r : Int32} (hn : narrow .boolean (.int v) = .int v) (hd : decode cc pc = .ok (.ireturn, 1)) (hv : v = r) (hw : ws = ws2) : zw_W p l e R s m args below meth c D A nL (zw_Qi D A ws2 r below args s) 0 0 ws pc lv [.int v] := by
  subst hv; subst hw
  intro H locs ls hP hD hS hl
  exact W.zret C.1 C.2.1 hr hn (fun t ht _ => ⟨⟨v, (), rfl, rfl, by rw [ht]; exact hP, hD⟩, hS.F ht⟩) hS.2.2 hd hlk
theorem zw_lreturn (C : zw_C p s m args c D tys A own cc nL) (hr : meth.sig.returnType = some .long) (hlk : meth.locks = false) {v r : Int64} (hd : decode cc pc = .ok (.lreturn, 1)) (hv : v = r) (hw : ws = ws2) : zw_W p l e R s m args below meth c D A nL (zw_Ql D A ws2 r below args s) 0 0 ws pc lv [.long v] := by
  subst hv; subst hw
  intro H locs ls hP hD hS hl
  exact W.lret C.1 C.2.1 hr (fun t ht _ => ⟨⟨v, (), rfl, rfl, by rw [ht]; exact hP, hD⟩, hS.F ht⟩) hS.2.2 hd hlk
theorem zw_return (C : zw_C p s m args c D tys A own cc nL) (hr : meth.sig.returnType = none) (hlk : meth.locks = false) (hd : decode cc pc = .ok (.return_, 1)) (hw : ws = ws2) : zw_W p l e R s m args below meth c D A nL (zw_Qv D A ws2 below args s) 0 0 ws pc lv [] := by
  subst hw
  intro H locs ls hP hD hS hl
  exact W.vret C.1 C.2.1 hr (fun t ht _ => ⟨⟨(), rfl, trivial, by rw [ht]; exact hP, hD⟩, hS.F ht⟩) hS.2.2 hd hlk
theorem zw_free {H0 H : Heap} {locs : List Loc} (hD : va_D A ws) (hS : va_S A H0 H locs) (hA : ∀ q, H0.size ≤ q → A q) : ∀ q, va_A ws H.size q → A q := by
  intro q h
  rcases h with ⟨k, e, hk⟩ | h
  · exact hD.2 k _ hk
  · exact hA q (Nat.le_trans hS.1 h)
/-- the words of a call of an object's method -/
def zw_KV (own : String) (index : Nat) (Cn : String) (y : MethodName) (bytes : ByteArray) (maxL : Nat) (ret : Option FieldType) (n : Nat) : Prop :=
  Cond.code y bytes maxL ret ∈ zw_tbl ∧ (Cond.methodLink own index y ∈ zw_tbl ∧ Cond.instanceMethod y ∈ zw_tbl ∧ Cond.selects Cn y y ∈ zw_tbl ∧ Cond.initialized Cn ∈ zw_tbl) ∧ (y.cls = Cn ∧ y.cls ≠ "java/lang/invoke/MethodHandle" ∧ y.cls ≠ "java/lang/invoke/VarHandle" ∧ (parseMethodDescriptor y.desc).map (fun d => d.parameters.length) = some n)
def zw_KS (own : String) (index : Nat) (y : MethodName) (bytes : ByteArray) (maxL : Nat) (ret : Option FieldType) (n : Nat) : Prop :=
  Cond.code y bytes maxL ret ∈ zw_tbl ∧ (Cond.methodLink own index y ∈ zw_tbl ∧ Cond.static y ∈ zw_tbl ∧ Cond.initialized own ∈ zw_tbl) ∧ (y.cls = own ∧ y.cls ≠ "java/lang/invoke/MethodHandle" ∧ y.cls ≠ "java/lang/invoke/VarHandle" ∧ (parseMethodDescriptor y.desc).map (fun d => d.parameters.length) = some n)
theorem zw_goodV {own : String} {index : Nat} {Cn : String} {y : MethodName} {bytes : ByteArray} {maxL : Nat} {ret : Option FieldType} {n : Nat} (K : zw_KV own index Cn y bytes maxL ret n) : GoodIn zw_tbl (wsV own index Cn y (Cond.code y bytes maxL ret :: zw_tbl)) := by
  intro w hw
  rcases List.mem_append.mp hw with h | h
  · have h2 : w ∈ zw_tbl := by
      simp only [List.mem_cons, List.not_mem_nil, or_false] at h
      rcases h with rfl | rfl | rfl | rfl
      · exact K.2.1.1
      · exact K.2.1.2.1
      · exact K.2.1.2.2.1
      · exact K.2.1.2.2.2
    exact zw_good w h2
  · rcases List.mem_cons.mp h with rfl | h
    · exact zw_good _ K.1
    · exact zw_good _ h
theorem zw_goodS {own : String} {index : Nat} {y : MethodName} {bytes : ByteArray} {maxL : Nat} {ret : Option FieldType} {n : Nat} (K : zw_KS own index y bytes maxL ret n) : GoodIn zw_tbl (wsS own index y (Cond.code y bytes maxL ret :: zw_tbl)) := by
  intro w hw
  rcases List.mem_append.mp hw with h | h
  · have h2 : w ∈ zw_tbl := by
      simp only [List.mem_cons, List.not_mem_nil, or_false] at h
      rcases h with rfl | rfl | rfl
      · exact K.2.1.1
      · exact K.2.1.2.1
      · exact K.2.1.2.2
    exact zw_good w h2
  · rcases List.mem_cons.mp h with rfl | h
    · exact zw_good _ K.1
    · exact zw_good _ h
/-- the room that a callee wants of the caller's -/
def zw_RR (rm R : Room) (maxL nc ns : Nat) : Prop := rm.cells = 0 ∧ rm.slots = 0 ∧ (rm.frames + 1 ≤ R.frames ∧ 8 + (maxL + 11) + rm.locals ≤ R.locals) ∧ nc + 0 ≤ R.cells ∧ ns + 0 ≤ R.slots
theorem zw_calli (C : zw_C p s m args c D tys A own cc nL) {y : MethodName} {bytes : ByteArray} {maxL n index : Nat} {rt : FieldType} {rm : Room} {Cn : String} {b ci N : Nat} {T : u_T} {fs As rest : List Value} {r : Int32} (K : zw_KV own index Cn y bytes maxL (some rt) n) (hM : zw_Mi l y bytes maxL rt D tys rm (.ref b :: As) ws ws2 r) (hR : zw_RR rm R maxL nc ns) (F : zw_F Cn T N ci) (q0 : Nat) (he : ws[q0]? = some (b, .inr (ci, fs))) (hn : As.length = n) (hst : st = As.reverse ++ .ref b :: rest) (hcat : (rest.map fun v => v.category).sum ≤ 8) (hd : decode cc pc = .ok (.invokevirtual index, 3)) (k : zw_W p l e R s m args below meth c D A nL Q nc ns ws2 (pc + 3) lv (.int r :: rest)) : zw_W p l e R s m args below meth c D A nL Q nc ns ws pc lv st := by
  intro H locs ls hP hD hS hl
  subst hst
  have hF := zw_free hD hS C.2.2.2.2.2.2
  refine va_calli (va_runV (As := As) (rest := rest) ⟨C.1, C.2.1, C.2.2.1, C.2.2.2.1, C.2.2.2.2.1⟩ (hM H.size) (cwV n C.2.2.2.2.1 (zw_goodV K) rfl hR.1 hR.2.1 K.2.2 hR.2.2.1) ⟨zw_blind, va_recv C.2.2.2.2.2.1 hP F.1 he, fun U hU hW => ⟨rfl, by rw [hU], by rw [hU]; exact hP, va_K.moved hW.alike C.2.2.2.2.2.1, hD.weaken (fun _ _ _ _ => trivial)⟩⟩ rfl hn hl.1 rfl (lv_room hcat) hd hR.2.2.2) hS (fun q _ h => hF q h) hF (fun r2 u t H1 locs1 ht hvm hw hB hz1 hk1 hS1 => ?_)
  subst hw
  exact k H1 locs1 ls (ht ▸ hB.1) (hB.2.weaken (fun _ _ _ h => hF _ h)) hS1 hl
theorem zw_calll (C : zw_C p s m args c D tys A own cc nL) {y : MethodName} {bytes : ByteArray} {maxL n index : Nat} {rm : Room} {Cn : String} {b ci N : Nat} {T : u_T} {fs As rest : List Value} {r : Int64} (K : zw_KV own index Cn y bytes maxL (some .long) n) (hM : zw_Ml l y bytes maxL D tys rm (.ref b :: As) ws ws2 r) (hR : zw_RR rm R maxL nc ns) (F : zw_F Cn T N ci) (q0 : Nat) (he : ws[q0]? = some (b, .inr (ci, fs))) (hn : As.length = n) (hst : st = As.reverse ++ .ref b :: rest) (hcat : (rest.map fun v => v.category).sum ≤ 8) (hd : decode cc pc = .ok (.invokevirtual index, 3)) (k : zw_W p l e R s m args below meth c D A nL Q nc ns ws2 (pc + 3) lv (.long r :: rest)) : zw_W p l e R s m args below meth c D A nL Q nc ns ws pc lv st := by
  intro H locs ls hP hD hS hl
  subst hst
  have hF := zw_free hD hS C.2.2.2.2.2.2
  refine va_calll (va_runV (As := As) (rest := rest) ⟨C.1, C.2.1, C.2.2.1, C.2.2.2.1, C.2.2.2.2.1⟩ (hM H.size) (cwV n C.2.2.2.2.1 (zw_goodV K) rfl hR.1 hR.2.1 K.2.2 hR.2.2.1) ⟨zw_blind, va_recv C.2.2.2.2.2.1 hP F.1 he, fun U hU hW => ⟨rfl, by rw [hU], by rw [hU]; exact hP, va_K.moved hW.alike C.2.2.2.2.2.1, hD.weaken (fun _ _ _ _ => trivial)⟩⟩ rfl hn hl.1 rfl (lv_room hcat) hd hR.2.2.2) hS (fun q _ h => hF q h) hF (fun r2 u t H1 locs1 ht hvm hw hB hz1 hk1 hS1 => ?_)
  subst hw
  exact k H1 locs1 ls (ht ▸ hB.1) (hB.2.weaken (fun _ _ _ h => hF _ h)) hS1 hl
theorem zw_callv (C : zw_C p s m args c D tys A own cc nL) {y : MethodName} {bytes : ByteArray} {maxL n index : Nat} {rm : Room} {Cn : String} {b ci N : Nat} {T : u_T} {fs As rest : List Value} (K : zw_KV own index Cn y bytes maxL none n) (hM : zw_Mv l y bytes maxL D tys rm (.ref b :: As) ws ws2) (hR : zw_RR rm R maxL nc ns) (F : zw_F Cn T N ci) (q0 : Nat) (he : ws[q0]? = some (b, .inr (ci, fs))) (hn : As.length = n) (hst : st = As.reverse ++ .ref b :: rest) (hcat : (rest.map fun v => v.category).sum ≤ 8) (hd : decode cc pc = .ok (.invokevirtual index, 3)) (k : zw_W p l e R s m args below meth c D A nL Q nc ns ws2 (pc + 3) lv rest) : zw_W p l e R s m args below meth c D A nL Q nc ns ws pc lv st := by
  intro H locs ls hP hD hS hl
  subst hst
  have hF := zw_free hD hS C.2.2.2.2.2.2
  refine va_callv (va_runV (As := As) (rest := rest) ⟨C.1, C.2.1, C.2.2.1, C.2.2.2.1, C.2.2.2.2.1⟩ (hM H.size) (cwV n C.2.2.2.2.1 (zw_goodV K) rfl hR.1 hR.2.1 K.2.2 hR.2.2.1) ⟨zw_blind, va_recv C.2.2.2.2.2.1 hP F.1 he, fun U hU hW => ⟨rfl, by rw [hU], by rw [hU]; exact hP, va_K.moved hW.alike C.2.2.2.2.2.1, hD.weaken (fun _ _ _ _ => trivial)⟩⟩ rfl hn hl.1 rfl (lv_room hcat) hd hR.2.2.2) hS (fun q _ h => hF q h) hF (fun u t H1 locs1 ht hvm hw hB hz1 hk1 hS1 => ?_)
  exact k H1 locs1 ls (ht ▸ hB.1) (hB.2.weaken (fun _ _ _ h => hF _ h)) hS1 hl
theorem zw_scalli (C : zw_C p s m args c D tys A own cc nL) {y : MethodName} {bytes : ByteArray} {maxL n index : Nat} {rt : FieldType} {rm : Room} {As rest : List Value} {r : Int32} (K : zw_KS own index y bytes maxL (some rt) n) (hM : zw_Mi l y bytes maxL rt D tys rm As ws ws2 r) (hR : zw_RR rm R maxL nc ns) (hn : As.length = n) (hst : st = As.reverse ++ rest) (hcat : (rest.map fun v => v.category).sum ≤ 8) (hd : decode cc pc = .ok (.invokestatic index, 3)) (k : zw_W p l e R s m args below meth c D A nL Q nc ns ws2 (pc + 3) lv (.int r :: rest)) : zw_W p l e R s m args below meth c D A nL Q nc ns ws pc lv st := by
  intro H locs ls hP hD hS hl
  subst hst
  have hF := zw_free hD hS C.2.2.2.2.2.2
  refine va_calli (va_runS (As := As) (rest := rest) ⟨C.1, C.2.1, C.2.2.1, C.2.2.2.1, C.2.2.2.2.1⟩ (hM H.size) (cwS n C.2.2.2.2.1 (zw_goodS K) rfl hR.1 hR.2.1 K.2.2 hR.2.2.1) ⟨zw_blind, fun U hU hW => ⟨rfl, by rw [hU], by rw [hU]; exact hP, va_K.moved hW.alike C.2.2.2.2.2.1, hD.weaken (fun _ _ _ _ => trivial)⟩⟩ rfl hn hl.1 rfl (lv_room hcat) hd hR.2.2.2) hS (fun q _ h => hF q h) hF (fun r2 u t H1 locs1 ht hvm hw hB hz1 hk1 hS1 => ?_)
  subst hw
  exact k H1 locs1 ls (ht ▸ hB.1) (hB.2.weaken (fun _ _ _ h => hF _ h)) hS1 hl
end ZR
/-! small words, and the rules for Math and arraycopy -/
def zw_l {α β : Type} (x : α) (k : α → β) : β := k x
theorem zw_l_eq {α β : Type} {x y : α} {k : α → β} (e : x = y) : zw_l x k = k y := by subst e; rfl
abbrev zw_tys (cI cL : ClassId) : List (ClassId × FieldType) := [(cI, .int), (cL, .long)]
abbrev zw_rm (f k : Nat) : Room := { frames := f, cells := 0, slots := 0, locals := k }
theorem zw_tout {x : Int32} {n : Nat} (hn : n < 2 ^ 31) (h : ∀ k : Nat, k ≤ n → ¬ x = nI k) : x.toInt < 0 ∨ (n : Int) < x.toInt := by
  rcases Int.lt_or_le x.toInt 0 with h0 | h0
  · exact Or.inl h0
  · rcases Int.lt_or_le (n : Int) x.toInt with h1 | h1
    · exact Or.inr h1
    · obtain ⟨j, hj, e⟩ := nI_of (x := x) (by intro hlt; have := Int32.lt_iff_toInt_lt.mp hlt; have z : (0 : Int32).toInt = 0 := rfl; omega)
      have hx : x.toInt = (j : Int) := by rw [e]; exact nI_toInt hj
      exact absurd e (h j (by omega))
theorem zw_nb {r : Int32} (h : r = 0 ∨ r = 1) : narrow .boolean (.int r) = .int r := by
  rcases h with rfl | rfl <;> rfl
section ZX
variable {p : Program} {l : Launch} {e : Env} {R : Room} {s : State} {m : MethodId} {args : Array Value} {below : List Frame} {meth : Method} {c : Code} {D : va_G} {tys : List (ClassId × FieldType)} {A : Nat → Prop} {own : String} {cc : ByteArray} {nL : Nat} {Q : State → Prop} {nc ns : Nat} {ws : va_W} {pc : Nat} {lv : List (Nat × Value)} {st : List Value}
theorem zw_mmax (C : zw_C p s m args c D tys A own cc nL) {index : Nat} (K : Cond.methodLink own index Lib.Math.max.name ∈ zw_tbl ∧ Cond.static Lib.Math.max.name ∈ zw_tbl ∧ Cond.initialized "java/lang/Math" ∈ zw_tbl ∧ Cond.code Lib.Math.max.name Lib.Math.max.code 2 (some .int) ∈ zw_tbl) (hf : 1 ≤ R.frames) (hlo : 40 ≤ R.locals) (hcat : (st.map fun v => v.category).sum ≤ 8) (hc : nc ≤ R.cells) (hs : ns ≤ R.slots) {x y : Int32} (hd : decode cc pc = .ok (.invokestatic index, 3)) (k : zw_W p l e R s m args below meth c D A nL Q nc ns ws (pc + 3) lv (.int (if x < y then y else x) :: st)) : zw_W p l e R s m args below meth c D A nL Q nc ns ws pc lv (.int y :: .int x :: st) := fun H locs ls hP hD hS hl => va_mmax C.1 C.2.1 (C.2.2.1.trans hl.1.symm) C.2.2.2.1 (C.2.2.2.2.1 _ K.1) (C.2.2.2.2.1 _ K.2.1) (C.2.2.2.2.1 _ K.2.2.1) (C.2.2.2.2.1 _ K.2.2.2) hf (by omega) hc hs hd (k H locs ls hP hD hS hl)
theorem zw_mminL (C : zw_C p s m args c D tys A own cc nL) {index : Nat} (K : Cond.methodLink own index Lib.MathLoose.min_long.x ∈ zw_tbl ∧ Cond.static Lib.MathLoose.min_long.x ∈ zw_tbl ∧ Cond.initialized "java/lang/Math" ∈ zw_tbl ∧ Cond.code Lib.MathLoose.min_long.x Lib.MathLoose.min_long.code 4 (some .long) ∈ zw_tbl) (hf : 1 ≤ R.frames) (hlo : 40 ≤ R.locals) (hcat : (st.map fun v => v.category).sum ≤ 8) (hc : nc ≤ R.cells) (hs : ns ≤ R.slots) {x y : Int64} (hd : decode cc pc = .ok (.invokestatic index, 3)) (k : zw_W p l e R s m args below meth c D A nL Q nc ns ws (pc + 3) lv (.long (if y < x then y else x) :: st)) : zw_W p l e R s m args below meth c D A nL Q nc ns ws pc lv (.long y :: .long x :: st) := fun H locs ls hP hD hS hl => va_mmin_long C.1 C.2.1 (C.2.2.1.trans hl.1.symm) C.2.2.2.1 (C.2.2.2.2.1 _ K.1) (C.2.2.2.2.1 _ K.2.1) (C.2.2.2.2.1 _ K.2.2.1) (C.2.2.2.2.1 _ K.2.2.2) hf (by omega) hc hs hd (k H locs ls hP hD hS hl)
theorem zw_copyi (C : zw_C p s m args c D tys A own cc nL) {index : Nat} (q0 q1 : Nat) (K : Cond.methodLink own index arraycopyName ∈ zw_tbl ∧ Cond.native arraycopyName ∈ zw_tbl ∧ Cond.static arraycopyName ∈ zw_tbl ∧ Cond.initialized "java/lang/System" ∈ zw_tbl) {a a0 : Nat} {cA : ClassId} {n0 n1 : Nat} {f g : Nat → Int32} {ws2 : va_W} (ht : tys[0]? = some (cA, .int)) (ha0 : ws[q0]? = some (a0, .inl (cA, n0, .inl f))) (ha1 : ws[q1]? = some (a, .inl (cA, n1, .inl g))) {sp dp n : Int32} (h1 : ¬ sp < 0) (h2 : ¬ dp < 0) (h3 : (¬ n < 0) ∧ sp.toNatClampNeg + n.toNatClampNeg ≤ n0 ∧ dp.toNatClampNeg + n.toNatClampNeg ≤ n1) (hf : 1 ≤ R.frames) (hlo : 60 ≤ R.locals) (hcat : (st.map fun v => v.category).sum ≤ 8) (hw : ws.set q1 (a, .inl (cA, n1, .inl (va_cpy f g sp.toNatClampNeg dp.toNatClampNeg n.toNatClampNeg))) = ws2) (hd : decode cc pc = .ok (.invokestatic index, 3)) (k : zw_W p l e R s m args below meth c D A nL Q nc ns ws2 (pc + 3) lv st) : zw_W p l e R s m args below meth c D A nL Q nc ns ws pc lv (.int n :: .int dp :: .ref a :: .int sp :: .ref a0 :: st) := fun H locs ls hP hD hS hl => va_copyi C.1 C.2.1 (C.2.2.1.trans hl.1.symm) C.2.2.2.1 (C.2.2.2.2.1 _ K.1) (C.2.2.2.2.1 _ K.2.1) (C.2.2.2.2.1 _ K.2.2.1) (C.2.2.2.2.1 _ K.2.2.2) C.2.2.2.2.2.1 hP hD hS q0 q1 0 0 ha0 ha1 ht ht rfl h1 h2 h3.1 h3.2.1 h3.2.2 (fun _ _ => rfl) hf (Nat.le_trans (Nat.add_le_add hcat (Nat.le_of_ble_eq_true (m := 52) rfl)) hlo) hd (fun H1 locs1 hP1 hD1 hS1 => k H1 locs1 ls (hw ▸ hP1) (hw ▸ hD1) hS1 hl)
end ZX
end
