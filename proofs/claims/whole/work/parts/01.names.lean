-- ===== PART A: goes FIRST, ahead of the names: the tables' words, and 'selects' of the private methods out of them =====
/-- a private method of a class that the tables say can be made, by its rows of tables_1 -/
def lw_okq (q : MethodName × Nat) : Prop := (q.1.cls ≠ "java/lang/invoke/MethodHandle" ∧ q.1.cls ≠ "java/lang/invoke/VarHandle") ∧ Cond.instantiable q.1.cls q.2 ∈ tables_1 ∧ Cond.privateMethod q.1 ∈ tables_1 ∧ Cond.instanceMethod q.1 ∈ tables_1
theorem lw_p0 : lw_okq (⟨"SieveDesk", "isThing", "(I)Z"⟩, 13) := ⟨⟨by decide +kernel, by decide +kernel⟩, List.mem_of_getElem? (i := 9) (by decide +kernel), List.mem_of_getElem? (i := 150) (by decide +kernel), List.mem_of_getElem? (i := 151) (by decide +kernel)⟩
theorem lw_p1 : lw_okq (⟨"SieveDesk", "canMakeScale", "(III)Z"⟩, 13) := ⟨⟨by decide +kernel, by decide +kernel⟩, List.mem_of_getElem? (i := 9) (by decide +kernel), List.mem_of_getElem? (i := 181) (by decide +kernel), List.mem_of_getElem? (i := 182) (by decide +kernel)⟩
theorem lw_p2 : lw_okq (⟨"SieveDesk", "makeNow", "(II)I"⟩, 13) := ⟨⟨by decide +kernel, by decide +kernel⟩, List.mem_of_getElem? (i := 9) (by decide +kernel), List.mem_of_getElem? (i := 193) (by decide +kernel), List.mem_of_getElem? (i := 194) (by decide +kernel)⟩
theorem lw_p3 : lw_okq (⟨"SieveDesk", "askScale", "(II)J"⟩, 13) := ⟨⟨by decide +kernel, by decide +kernel⟩, List.mem_of_getElem? (i := 9) (by decide +kernel), List.mem_of_getElem? (i := 201) (by decide +kernel), List.mem_of_getElem? (i := 202) (by decide +kernel)⟩
theorem lw_p4 : lw_okq (⟨"SieveDesk", "quotient", "(JJ)J"⟩, 13) := ⟨⟨by decide +kernel, by decide +kernel⟩, List.mem_of_getElem? (i := 9) (by decide +kernel), List.mem_of_getElem? (i := 217) (by decide +kernel), List.mem_of_getElem? (i := 218) (by decide +kernel)⟩
theorem lw_p5 : lw_okq (⟨"SieveDesk", "askSieve", "(II)Z"⟩, 13) := ⟨⟨by decide +kernel, by decide +kernel⟩, List.mem_of_getElem? (i := 9) (by decide +kernel), List.mem_of_getElem? (i := 225) (by decide +kernel), List.mem_of_getElem? (i := 226) (by decide +kernel)⟩
theorem lw_p6 : lw_okq (⟨"SieveDesk", "askSafely", "(II)Z"⟩, 13) := ⟨⟨by decide +kernel, by decide +kernel⟩, List.mem_of_getElem? (i := 9) (by decide +kernel), List.mem_of_getElem? (i := 236) (by decide +kernel), List.mem_of_getElem? (i := 237) (by decide +kernel)⟩
theorem lw_p7 : lw_okq (⟨"SieveDesk", "itemAt", "(J)J"⟩, 13) := ⟨⟨by decide +kernel, by decide +kernel⟩, List.mem_of_getElem? (i := 9) (by decide +kernel), List.mem_of_getElem? (i := 244) (by decide +kernel), List.mem_of_getElem? (i := 245) (by decide +kernel)⟩
theorem lw_p8 : lw_okq (⟨"SieveDesk", "canMakeSieve", "(III)Z"⟩, 13) := ⟨⟨by decide +kernel, by decide +kernel⟩, List.mem_of_getElem? (i := 9) (by decide +kernel), List.mem_of_getElem? (i := 261) (by decide +kernel), List.mem_of_getElem? (i := 262) (by decide +kernel)⟩
theorem lw_p9 : lw_okq (⟨"SieveDesk", "canMakeOrder", "(III)Z"⟩, 13) := ⟨⟨by decide +kernel, by decide +kernel⟩, List.mem_of_getElem? (i := 9) (by decide +kernel), List.mem_of_getElem? (i := 269) (by decide +kernel), List.mem_of_getElem? (i := 270) (by decide +kernel)⟩
theorem lw_p10 : lw_okq (⟨"SieveDesk", "takeDraft", "(I)V"⟩, 13) := ⟨⟨by decide +kernel, by decide +kernel⟩, List.mem_of_getElem? (i := 9) (by decide +kernel), List.mem_of_getElem? (i := 281) (by decide +kernel), List.mem_of_getElem? (i := 282) (by decide +kernel)⟩
theorem lw_p11 : lw_okq (⟨"SieveDesk", "moveForward", "(II)I"⟩, 13) := ⟨⟨by decide +kernel, by decide +kernel⟩, List.mem_of_getElem? (i := 9) (by decide +kernel), List.mem_of_getElem? (i := 292) (by decide +kernel), List.mem_of_getElem? (i := 293) (by decide +kernel)⟩
theorem lw_p12 : lw_okq (⟨"SieveDesk", "askOrder", "(III)I"⟩, 13) := ⟨⟨by decide +kernel, by decide +kernel⟩, List.mem_of_getElem? (i := 9) (by decide +kernel), List.mem_of_getElem? (i := 296) (by decide +kernel), List.mem_of_getElem? (i := 297) (by decide +kernel)⟩
theorem lw_p13 : lw_okq (⟨"SieveDesk", "askThen", "(IIII)I"⟩, 13) := ⟨⟨by decide +kernel, by decide +kernel⟩, List.mem_of_getElem? (i := 9) (by decide +kernel), List.mem_of_getElem? (i := 303) (by decide +kernel), List.mem_of_getElem? (i := 304) (by decide +kernel)⟩
theorem lw_p14 : lw_okq (⟨"SieveDesk", "rankBySieve", "(II)I"⟩, 13) := ⟨⟨by decide +kernel, by decide +kernel⟩, List.mem_of_getElem? (i := 9) (by decide +kernel), List.mem_of_getElem? (i := 307) (by decide +kernel), List.mem_of_getElem? (i := 308) (by decide +kernel)⟩
theorem lw_p15 : lw_okq (⟨"SieveDesk$Grouping", "placeOf", "(J)I"⟩, 5) := ⟨⟨by decide +kernel, by decide +kernel⟩, List.mem_of_getElem? (i := 46) (by decide +kernel), List.mem_of_getElem? (i := 327) (by decide +kernel), List.mem_of_getElem? (i := 328) (by decide +kernel)⟩
def lw_privs_1 : List (MethodName × Nat) := [(⟨"SieveDesk", "isThing", "(I)Z"⟩, 13), (⟨"SieveDesk", "canMakeScale", "(III)Z"⟩, 13), (⟨"SieveDesk", "makeNow", "(II)I"⟩, 13), (⟨"SieveDesk", "askScale", "(II)J"⟩, 13), (⟨"SieveDesk", "quotient", "(JJ)J"⟩, 13), (⟨"SieveDesk", "askSieve", "(II)Z"⟩, 13), (⟨"SieveDesk", "askSafely", "(II)Z"⟩, 13), (⟨"SieveDesk", "itemAt", "(J)J"⟩, 13), (⟨"SieveDesk", "canMakeSieve", "(III)Z"⟩, 13), (⟨"SieveDesk", "canMakeOrder", "(III)Z"⟩, 13), (⟨"SieveDesk", "takeDraft", "(I)V"⟩, 13), (⟨"SieveDesk", "moveForward", "(II)I"⟩, 13), (⟨"SieveDesk", "askOrder", "(III)I"⟩, 13), (⟨"SieveDesk", "askThen", "(IIII)I"⟩, 13), (⟨"SieveDesk", "rankBySieve", "(II)I"⟩, 13), (⟨"SieveDesk$Grouping", "placeOf", "(J)I"⟩, 5)]
theorem lw_r1 : ∀ q ∈ lw_privs_1, lw_okq q := List.forall_mem_cons.mpr ⟨lw_p0, List.forall_mem_cons.mpr ⟨lw_p1, List.forall_mem_cons.mpr ⟨lw_p2, List.forall_mem_cons.mpr ⟨lw_p3, List.forall_mem_cons.mpr ⟨lw_p4, List.forall_mem_cons.mpr ⟨lw_p5, List.forall_mem_cons.mpr ⟨lw_p6, List.forall_mem_cons.mpr ⟨lw_p7, List.forall_mem_cons.mpr ⟨lw_p8, List.forall_mem_cons.mpr ⟨lw_p9, List.forall_mem_cons.mpr ⟨lw_p10, List.forall_mem_cons.mpr ⟨lw_p11, List.forall_mem_cons.mpr ⟨lw_p12, List.forall_mem_cons.mpr ⟨lw_p13, List.forall_mem_cons.mpr ⟨lw_p14, List.forall_mem_cons.mpr ⟨lw_p15, fun _ h => absurd h List.not_mem_nil⟩⟩⟩⟩⟩⟩⟩⟩⟩⟩⟩⟩⟩⟩⟩⟩
theorem lw_p16 : lw_okq (⟨"SieveDeskModel", "isThing", "(I)Z"⟩, 36) := ⟨⟨by decide +kernel, by decide +kernel⟩, List.mem_of_getElem? (i := 347) (by decide +kernel), List.mem_of_getElem? (i := 470) (by decide +kernel), List.mem_of_getElem? (i := 471) (by decide +kernel)⟩
theorem lw_p17 : lw_okq (⟨"SieveDeskModel", "is", "(II)Z"⟩, 36) := ⟨⟨by decide +kernel, by decide +kernel⟩, List.mem_of_getElem? (i := 347) (by decide +kernel), List.mem_of_getElem? (i := 489) (by decide +kernel), List.mem_of_getElem? (i := 490) (by decide +kernel)⟩
theorem lw_p18 : lw_okq (⟨"SieveDeskModel", "made", "(IIIIJ)I"⟩, 36) := ⟨⟨by decide +kernel, by decide +kernel⟩, List.mem_of_getElem? (i := 347) (by decide +kernel), List.mem_of_getElem? (i := 493) (by decide +kernel), List.mem_of_getElem? (i := 494) (by decide +kernel)⟩
theorem lw_p19 : lw_okq (⟨"SieveDeskModel", "startsCall", "()V"⟩, 36) := ⟨⟨by decide +kernel, by decide +kernel⟩, List.mem_of_getElem? (i := 347) (by decide +kernel), List.mem_of_getElem? (i := 497) (by decide +kernel), List.mem_of_getElem? (i := 498) (by decide +kernel)⟩
theorem lw_p20 : lw_okq (⟨"SieveDeskModel", "ask", "(IIII)Z"⟩, 36) := ⟨⟨by decide +kernel, by decide +kernel⟩, List.mem_of_getElem? (i := 347) (by decide +kernel), List.mem_of_getElem? (i := 501) (by decide +kernel), List.mem_of_getElem? (i := 502) (by decide +kernel)⟩
theorem lw_p21 : lw_okq (⟨"SieveDeskModel", "begins", "(IIII)V"⟩, 36) := ⟨⟨by decide +kernel, by decide +kernel⟩, List.mem_of_getElem? (i := 347) (by decide +kernel), List.mem_of_getElem? (i := 505) (by decide +kernel), List.mem_of_getElem? (i := 506) (by decide +kernel)⟩
theorem lw_p22 : lw_okq (⟨"SieveDeskModel", "goesScale", "(IIIJ)V"⟩, 36) := ⟨⟨by decide +kernel, by decide +kernel⟩, List.mem_of_getElem? (i := 347) (by decide +kernel), List.mem_of_getElem? (i := 509) (by decide +kernel), List.mem_of_getElem? (i := 510) (by decide +kernel)⟩
theorem lw_p23 : lw_okq (⟨"SieveDeskModel", "tells", "(J)V"⟩, 36) := ⟨⟨by decide +kernel, by decide +kernel⟩, List.mem_of_getElem? (i := 347) (by decide +kernel), List.mem_of_getElem? (i := 513) (by decide +kernel), List.mem_of_getElem? (i := 514) (by decide +kernel)⟩
theorem lw_p24 : lw_okq (⟨"SieveDeskModel", "both", "(IJJ)V"⟩, 36) := ⟨⟨by decide +kernel, by decide +kernel⟩, List.mem_of_getElem? (i := 347) (by decide +kernel), List.mem_of_getElem? (i := 518) (by decide +kernel), List.mem_of_getElem? (i := 519) (by decide +kernel)⟩
theorem lw_p25 : lw_okq (⟨"SieveDeskModel", "goesSieve", "(IIIJ)V"⟩, 36) := ⟨⟨by decide +kernel, by decide +kernel⟩, List.mem_of_getElem? (i := 347) (by decide +kernel), List.mem_of_getElem? (i := 522) (by decide +kernel), List.mem_of_getElem? (i := 523) (by decide +kernel)⟩
theorem lw_p26 : lw_okq (⟨"SieveDeskModel", "goesOrder", "(IIJ)V"⟩, 36) := ⟨⟨by decide +kernel, by decide +kernel⟩, List.mem_of_getElem? (i := 347) (by decide +kernel), List.mem_of_getElem? (i := 526) (by decide +kernel), List.mem_of_getElem? (i := 527) (by decide +kernel)⟩
theorem lw_p27 : lw_okq (⟨"SieveDeskModel", "recovers", "()V"⟩, 36) := ⟨⟨by decide +kernel, by decide +kernel⟩, List.mem_of_getElem? (i := 347) (by decide +kernel), List.mem_of_getElem? (i := 531) (by decide +kernel), List.mem_of_getElem? (i := 532) (by decide +kernel)⟩
theorem lw_p28 : lw_okq (⟨"SieveDeskModel", "ends", "(I)I"⟩, 36) := ⟨⟨by decide +kernel, by decide +kernel⟩, List.mem_of_getElem? (i := 347) (by decide +kernel), List.mem_of_getElem? (i := 535) (by decide +kernel), List.mem_of_getElem? (i := 536) (by decide +kernel)⟩
def lw_privs_2 : List (MethodName × Nat) := [(⟨"SieveDeskModel", "isThing", "(I)Z"⟩, 36), (⟨"SieveDeskModel", "is", "(II)Z"⟩, 36), (⟨"SieveDeskModel", "made", "(IIIIJ)I"⟩, 36), (⟨"SieveDeskModel", "startsCall", "()V"⟩, 36), (⟨"SieveDeskModel", "ask", "(IIII)Z"⟩, 36), (⟨"SieveDeskModel", "begins", "(IIII)V"⟩, 36), (⟨"SieveDeskModel", "goesScale", "(IIIJ)V"⟩, 36), (⟨"SieveDeskModel", "tells", "(J)V"⟩, 36), (⟨"SieveDeskModel", "both", "(IJJ)V"⟩, 36), (⟨"SieveDeskModel", "goesSieve", "(IIIJ)V"⟩, 36), (⟨"SieveDeskModel", "goesOrder", "(IIJ)V"⟩, 36), (⟨"SieveDeskModel", "recovers", "()V"⟩, 36), (⟨"SieveDeskModel", "ends", "(I)I"⟩, 36)]
theorem lw_r2 : ∀ q ∈ lw_privs_2, lw_okq q := List.forall_mem_cons.mpr ⟨lw_p16, List.forall_mem_cons.mpr ⟨lw_p17, List.forall_mem_cons.mpr ⟨lw_p18, List.forall_mem_cons.mpr ⟨lw_p19, List.forall_mem_cons.mpr ⟨lw_p20, List.forall_mem_cons.mpr ⟨lw_p21, List.forall_mem_cons.mpr ⟨lw_p22, List.forall_mem_cons.mpr ⟨lw_p23, List.forall_mem_cons.mpr ⟨lw_p24, List.forall_mem_cons.mpr ⟨lw_p25, List.forall_mem_cons.mpr ⟨lw_p26, List.forall_mem_cons.mpr ⟨lw_p27, List.forall_mem_cons.mpr ⟨lw_p28, fun _ h => absurd h List.not_mem_nil⟩⟩⟩⟩⟩⟩⟩⟩⟩⟩⟩⟩⟩
def lw_privs : List (MethodName × Nat) := lw_privs_1 ++ (lw_privs_2)
def lw_tbl : List Cond := k2_sels lw_privs ++ tables_1
theorem lw_privs_ok : ∀ q ∈ lw_privs, lw_okq q := by
  show ∀ q ∈ lw_privs_1 ++ (lw_privs_2), lw_okq q
  exact List.forall_mem_append.mpr ⟨lw_r1, lw_r2⟩
/-! ===== BEGIN words of one list among another's, by their places ===== -/
theorem goodIn_r {big : List Cond} (ws : List Cond) (ps : List Nat) (hp : ws = ps.filterMap (fun i => big[i]?)) (h : ws.all goodWord = true) : GoodIn big ws := by
  intro w hw
  have h1 := List.all_eq_true.mp h w hw
  rw [hp] at hw
  obtain ⟨i, -, hi⟩ := List.mem_filterMap.mp hw
  have hm : w ∈ big := by first | exact List.mem_of_getElem? hi | exact List.getElem?_mem hi
  exact ⟨hm, good_of_word h1⟩
theorem goodIn_app {big a b : List Cond} (ha : GoodIn big a) (hb : GoodIn big b) : GoodIn big (a ++ b) := fun w h => (List.mem_append.mp h).elim (ha w) (hb w)
theorem goodIn_ca {big a b : List Cond} {c : Cond} (ha : GoodIn big (c :: a)) (hb : GoodIn big b) : GoodIn big (c :: (a ++ b)) := fun w h => (List.mem_cons.mp h).elim (fun e => ha w (List.mem_cons.mpr (Or.inl e))) (fun h => (List.mem_append.mp h).elim (fun h => ha w (List.mem_cons.mpr (Or.inr h))) (hb w))
theorem goodIn_sub {big ws : List Cond} (hm : ∀ w ∈ ws, w ∈ big) (h : ws.all goodWord = true) : GoodIn big ws := fun w hw => ⟨hm w hw, good_of_word (List.all_eq_true.mp h w hw)⟩
/-! ===== END ===== -/

/-! ===== BEGIN printed: names, fields, word lists, decode rows ===== -/
def RX0 : String := "SieveDesk$Grouping"
def TX0 : u_T := fun k => match k with
  | 0 => ("SieveDesk$Grouping", "key", "[J", true)
  | 1 => ("SieveDesk$Grouping", "members", "[I", true)
  | 2 => ("SieveDesk$Grouping", "total", "[J", true)
  | 3 => ("SieveDesk$Grouping", "first", "[I", true)
  | _ => ("SieveDesk$Grouping", "size", "I", false)
def tyX0 : Nat → FieldType := fun k => match k with
  | 0 => .array .long
  | 1 => .array .int
  | 2 => .array .long
  | 3 => .array .int
  | _ => .int
abbrev wsX00 : List Cond := u_ws RX0 TX0 5
theorem nmX0 : ∀ a, a < 5 → ∀ b, b < 5 → a ≠ b → (TX0 a).2.1 ≠ (TX0 b).2.1 := by decide +kernel
theorem tyX0_ok : ∀ k, k < 5 → parseFieldDescriptor (TX0 k).2.2.1 = some (tyX0 k) := by decide +kernel
abbrev cX0_init : ByteArray := prog_2_method_1_code
def yX0_init : MethodName := ⟨RX0, "<init>", "()V"⟩
abbrev cX0_clear : ByteArray := prog_2_method_2_code
def yX0_clear : MethodName := ⟨RX0, "clear", "()V"⟩
abbrev cX0_add : ByteArray := prog_2_method_3_code
def yX0_add : MethodName := ⟨RX0, "add", "(JJI)V"⟩
abbrev cX0_tellOf : ByteArray := prog_2_method_4_code
def yX0_tellOf : MethodName := ⟨RX0, "tellOf", "(II)J"⟩
abbrev cX0_placeOf : ByteArray := prog_2_method_5_code
def yX0_placeOf : MethodName := ⟨RX0, "placeOf", "(J)I"⟩
def RX1 : String := "SieveDesk$Shelf"
def TX1 : u_T := fun k => match k with
  | 0 => ("SieveDesk$Shelf", "kind", "[I", true)
  | 1 => ("SieveDesk$Shelf", "a", "[I", true)
  | 2 => ("SieveDesk$Shelf", "b", "[I", true)
  | 3 => ("SieveDesk$Shelf", "kept", "[J", true)
  | _ => ("SieveDesk$Shelf", "size", "I", false)
def tyX1 : Nat → FieldType := fun k => match k with
  | 0 => .array .int
  | 1 => .array .int
  | 2 => .array .int
  | 3 => .array .long
  | _ => .int
abbrev wsX10 : List Cond := u_ws RX1 TX1 5
theorem nmX1 : ∀ a, a < 5 → ∀ b, b < 5 → a ≠ b → (TX1 a).2.1 ≠ (TX1 b).2.1 := by decide +kernel
theorem tyX1_ok : ∀ k, k < 5 → parseFieldDescriptor (TX1 k).2.2.1 = some (tyX1 k) := by decide +kernel
abbrev cX1_init : ByteArray := prog_3_method_1_code
def yX1_init : MethodName := ⟨RX1, "<init>", "()V"⟩
abbrev cX1_has : ByteArray := prog_3_method_2_code
def yX1_has : MethodName := ⟨RX1, "has", "(I)Z"⟩
abbrev cX1_isFull : ByteArray := prog_3_method_3_code
def yX1_isFull : MethodName := ⟨RX1, "isFull", "()Z"⟩
abbrev cX1_make : ByteArray := prog_3_method_4_code
def yX1_make : MethodName := ⟨RX1, "make", "(IIIJ)I"⟩
abbrev cX1_countAsked : ByteArray := prog_3_method_5_code
def yX1_countAsked : MethodName := ⟨RX1, "countAsked", "(I)J"⟩
def RX2 : String := "SieveDesk$Tally"
def TX2 : u_T := fun k => match k with
  | 0 => ("SieveDesk$Tally", "begun", "I", false)
  | 1 => ("SieveDesk$Tally", "begunEver", "I", false)
  | 2 => ("SieveDesk$Tally", "met", "I", false)
  | 3 => ("SieveDesk$Tally", "failedCalls", "I", false)
  | 4 => ("SieveDesk$Tally", "latestFailure", "I", false)
  | _ => ("SieveDesk$Tally", "standing", "I", false)
def tyX2 : Nat → FieldType := fun k => match k with
  | 0 => .int
  | 1 => .int
  | 2 => .int
  | 3 => .int
  | 4 => .int
  | _ => .int
abbrev wsX20 : List Cond := u_ws RX2 TX2 6
theorem nmX2 : ∀ a, a < 6 → ∀ b, b < 6 → a ≠ b → (TX2 a).2.1 ≠ (TX2 b).2.1 := by decide +kernel
theorem tyX2_ok : ∀ k, k < 6 → parseFieldDescriptor (TX2 k).2.2.1 = some (tyX2 k) := by decide +kernel
abbrev cX2_init : ByteArray := prog_4_method_1_code
def yX2_init : MethodName := ⟨RX2, "<init>", "()V"⟩
abbrev cX2_opensCall : ByteArray := prog_4_method_2_code
def yX2_opensCall : MethodName := ⟨RX2, "opensCall", "()Z"⟩
abbrev cX2_beginsAsking : ByteArray := prog_4_method_3_code
def yX2_beginsAsking : MethodName := ⟨RX2, "beginsAsking", "()Z"⟩
abbrev cX2_hasFailure : ByteArray := prog_4_method_4_code
def yX2_hasFailure : MethodName := ⟨RX2, "hasFailure", "()Z"⟩
abbrev cX2_fail : ByteArray := prog_4_method_5_code
def yX2_fail : MethodName := ⟨RX2, "fail", "(I)V"⟩
abbrev cX2_meetsFailure : ByteArray := prog_4_method_6_code
def yX2_meetsFailure : MethodName := ⟨RX2, "meetsFailure", "()Z"⟩
abbrev cX2_endFailedCall : ByteArray := prog_4_method_7_code
def yX2_endFailedCall : MethodName := ⟨RX2, "endFailedCall", "()I"⟩
def RX3 : String := "SieveDesk"
def TX3 : u_T := fun k => match k with
  | 0 => ("SieveDesk", "cells", "[J", true)
  | 1 => ("SieveDesk", "thingCount", "I", false)
  | 2 => ("SieveDesk", "row", "[J", true)
  | 3 => ("SieveDesk", "listed", "[I", true)
  | 4 => ("SieveDesk", "draft", "[I", true)
  | 5 => ("SieveDesk", "listLength", "I", false)
  | 6 => ("SieveDesk", "scales", "LSieveDesk$Shelf;", true)
  | 7 => ("SieveDesk", "sieves", "LSieveDesk$Shelf;", true)
  | 8 => ("SieveDesk", "orders", "LSieveDesk$Shelf;", true)
  | 9 => ("SieveDesk", "grouping", "LSieveDesk$Grouping;", false)
  | 10 => ("SieveDesk", "draftGrouping", "LSieveDesk$Grouping;", false)
  | 11 => ("SieveDesk", "tally", "LSieveDesk$Tally;", true)
  | _ => ("SieveDesk", "latestTold", "J", false)
def tyX3 : Nat → FieldType := fun k => match k with
  | 0 => .array .long
  | 1 => .int
  | 2 => .array .long
  | 3 => .array .int
  | 4 => .array .int
  | 5 => .int
  | 6 => .object "SieveDesk$Shelf"
  | 7 => .object "SieveDesk$Shelf"
  | 8 => .object "SieveDesk$Shelf"
  | 9 => .object "SieveDesk$Grouping"
  | 10 => .object "SieveDesk$Grouping"
  | 11 => .object "SieveDesk$Tally"
  | _ => .long
abbrev wsX30 : List Cond := u_ws RX3 TX3 13
theorem nmX3 : ∀ a, a < 13 → ∀ b, b < 13 → a ≠ b → (TX3 a).2.1 ≠ (TX3 b).2.1 := by decide +kernel
theorem tyX3_ok : ∀ k, k < 13 → parseFieldDescriptor (TX3 k).2.2.1 = some (tyX3 k) := by decide +kernel
abbrev cX3_init : ByteArray := prog_1_method_1_code
def yX3_init : MethodName := ⟨RX3, "<init>", "()V"⟩
abbrev cX3_thing : ByteArray := prog_1_method_2_code
def yX3_thing : MethodName := ⟨RX3, "thing", "(JJJ)I"⟩
abbrev cX3_change : ByteArray := prog_1_method_3_code
def yX3_change : MethodName := ⟨RX3, "change", "(IIJ)I"⟩
abbrev cX3_get : ByteArray := prog_1_method_4_code
def yX3_get : MethodName := ⟨RX3, "get", "(II)J"⟩
abbrev cX3_item : ByteArray := prog_1_method_5_code
def yX3_item : MethodName := ⟨RX3, "item", "(IJ)I"⟩
abbrev cX3_all : ByteArray := prog_1_method_6_code
def yX3_all : MethodName := ⟨RX3, "all", "()I"⟩
abbrev cX3_list : ByteArray := prog_1_method_7_code
def yX3_list : MethodName := ⟨RX3, "list", "(I)I"⟩
abbrev cX3_scale : ByteArray := prog_1_method_8_code
def yX3_scale : MethodName := ⟨RX3, "scale", "(III)I"⟩
abbrev cX3_sieve : ByteArray := prog_1_method_9_code
def yX3_sieve : MethodName := ⟨RX3, "sieve", "(III)I"⟩
abbrev cX3_order : ByteArray := prog_1_method_10_code
def yX3_order : MethodName := ⟨RX3, "order", "(III)I"⟩
abbrev cX3_tell : ByteArray := prog_1_method_11_code
def yX3_tell : MethodName := ⟨RX3, "tell", "(II)I"⟩
abbrev cX3_sift : ByteArray := prog_1_method_12_code
def yX3_sift : MethodName := ⟨RX3, "sift", "(I)I"⟩
abbrev cX3_sort : ByteArray := prog_1_method_13_code
def yX3_sort : MethodName := ⟨RX3, "sort", "(I)I"⟩
abbrev cX3_sum : ByteArray := prog_1_method_14_code
def yX3_sum : MethodName := ⟨RX3, "sum", "(I)I"⟩
abbrev cX3_group : ByteArray := prog_1_method_15_code
def yX3_group : MethodName := ⟨RX3, "group", "(II)I"⟩
abbrev cX3_answer : ByteArray := prog_1_method_16_code
def yX3_answer : MethodName := ⟨RX3, "answer", "()J"⟩
abbrev cX3_groups : ByteArray := prog_1_method_17_code
def yX3_groups : MethodName := ⟨RX3, "groups", "(II)J"⟩
abbrev cX3_count : ByteArray := prog_1_method_18_code
def yX3_count : MethodName := ⟨RX3, "count", "(I)I"⟩
abbrev cX3_isThing : ByteArray := prog_1_method_19_code
def yX3_isThing : MethodName := ⟨RX3, "isThing", "(I)Z"⟩
abbrev cX3_isColumn : ByteArray := prog_1_method_20_code
def yX3_isColumn : MethodName := ⟨RX3, "isColumn", "(I)Z"⟩
abbrev cX3_isPlaceOfRow : ByteArray := prog_1_method_21_code
def yX3_isPlaceOfRow : MethodName := ⟨RX3, "isPlaceOfRow", "(J)Z"⟩
abbrev cX3_cellOf : ByteArray := prog_1_method_22_code
def yX3_cellOf : MethodName := ⟨RX3, "cellOf", "(II)I"⟩
abbrev cX3_canMakeScale : ByteArray := prog_1_method_23_code
def yX3_canMakeScale : MethodName := ⟨RX3, "canMakeScale", "(III)Z"⟩
abbrev cX3_canMakeSieve : ByteArray := prog_1_method_24_code
def yX3_canMakeSieve : MethodName := ⟨RX3, "canMakeSieve", "(III)Z"⟩
abbrev cX3_canMakeOrder : ByteArray := prog_1_method_25_code
def yX3_canMakeOrder : MethodName := ⟨RX3, "canMakeOrder", "(III)Z"⟩
abbrev cX3_makeNow : ByteArray := prog_1_method_26_code
def yX3_makeNow : MethodName := ⟨RX3, "makeNow", "(II)I"⟩
abbrev cX3_takeDraft : ByteArray := prog_1_method_27_code
def yX3_takeDraft : MethodName := ⟨RX3, "takeDraft", "(I)V"⟩
abbrev cX3_moveForward : ByteArray := prog_1_method_28_code
def yX3_moveForward : MethodName := ⟨RX3, "moveForward", "(II)I"⟩
abbrev cX3_askScale : ByteArray := prog_1_method_29_code
def yX3_askScale : MethodName := ⟨RX3, "askScale", "(II)J"⟩
abbrev cX3_askSieve : ByteArray := prog_1_method_30_code
def yX3_askSieve : MethodName := ⟨RX3, "askSieve", "(II)Z"⟩
abbrev cX3_askOrder : ByteArray := prog_1_method_31_code
def yX3_askOrder : MethodName := ⟨RX3, "askOrder", "(III)I"⟩
abbrev cX3_askSafely : ByteArray := prog_1_method_32_code
def yX3_askSafely : MethodName := ⟨RX3, "askSafely", "(II)Z"⟩
abbrev cX3_askThen : ByteArray := prog_1_method_33_code
def yX3_askThen : MethodName := ⟨RX3, "askThen", "(IIII)I"⟩
abbrev cX3_rankBySieve : ByteArray := prog_1_method_34_code
def yX3_rankBySieve : MethodName := ⟨RX3, "rankBySieve", "(II)I"⟩
abbrev cX3_lesserFirst : ByteArray := prog_1_method_35_code
def yX3_lesserFirst : MethodName := ⟨RX3, "lesserFirst", "(JJ)I"⟩
abbrev cX3_quotient : ByteArray := prog_1_method_36_code
def yX3_quotient : MethodName := ⟨RX3, "quotient", "(JJ)J"⟩
abbrev cX3_itemAt : ByteArray := prog_1_method_37_code
def yX3_itemAt : MethodName := ⟨RX3, "itemAt", "(J)J"⟩
def RX4 : String := "SieveDeskModel"
def TX4 : u_T := fun k => match k with
  | 0 => ("SieveDeskModel", "things", "I", false)
  | 1 => ("SieveDeskModel", "columns", "[J", true)
  | 2 => ("SieveDeskModel", "row", "[J", true)
  | 3 => ("SieveDeskModel", "listed", "I", false)
  | 4 => ("SieveDeskModel", "list", "[I", true)
  | 5 => ("SieveDeskModel", "many", "[I", true)
  | 6 => ("SieveDeskModel", "kind", "[I", true)
  | 7 => ("SieveDeskModel", "first", "[I", true)
  | 8 => ("SieveDeskModel", "second", "[I", true)
  | 9 => ("SieveDeskModel", "held", "[J", true)
  | 10 => ("SieveDeskModel", "asked", "[I", true)
  | 11 => ("SieveDeskModel", "waiting", "I", false)
  | 12 => ("SieveDeskModel", "which", "[I", true)
  | 13 => ("SieveDeskModel", "one", "[I", true)
  | 14 => ("SieveDeskModel", "other", "[I", true)
  | 15 => ("SieveDeskModel", "stage", "[I", true)
  | 16 => ("SieveDeskModel", "had", "[J", true)
  | 17 => ("SieveDeskModel", "told", "J", false)
  | 18 => ("SieveDeskModel", "failure", "I", false)
  | 19 => ("SieveDeskModel", "askings", "I", false)
  | 20 => ("SieveDeskModel", "askingsTold", "I", false)
  | 21 => ("SieveDeskModel", "askingsEver", "I", false)
  | 22 => ("SieveDeskModel", "met", "I", false)
  | 23 => ("SieveDeskModel", "failedCalls", "I", false)
  | 24 => ("SieveDeskModel", "latest", "I", false)
  | 25 => ("SieveDeskModel", "answer", "J", false)
  | 26 => ("SieveDeskModel", "groups", "I", false)
  | 27 => ("SieveDeskModel", "key", "[J", true)
  | 28 => ("SieveDeskModel", "size", "[I", true)
  | 29 => ("SieveDeskModel", "sums", "[J", true)
  | 30 => ("SieveDeskModel", "firsts", "[I", true)
  | 31 => ("SieveDeskModel", "next", "[I", true)
  | 32 => ("SieveDeskModel", "newKey", "[J", true)
  | 33 => ("SieveDeskModel", "newSize", "[I", true)
  | 34 => ("SieveDeskModel", "newSum", "[J", true)
  | _ => ("SieveDeskModel", "newFirst", "[I", true)
def tyX4 : Nat → FieldType := fun k => match k with
  | 0 => .int
  | 1 => .array .long
  | 2 => .array .long
  | 3 => .int
  | 4 => .array .int
  | 5 => .array .int
  | 6 => .array .int
  | 7 => .array .int
  | 8 => .array .int
  | 9 => .array .long
  | 10 => .array .int
  | 11 => .int
  | 12 => .array .int
  | 13 => .array .int
  | 14 => .array .int
  | 15 => .array .int
  | 16 => .array .long
  | 17 => .long
  | 18 => .int
  | 19 => .int
  | 20 => .int
  | 21 => .int
  | 22 => .int
  | 23 => .int
  | 24 => .int
  | 25 => .long
  | 26 => .int
  | 27 => .array .long
  | 28 => .array .int
  | 29 => .array .long
  | 30 => .array .int
  | 31 => .array .int
  | 32 => .array .long
  | 33 => .array .int
  | 34 => .array .long
  | _ => .array .int
abbrev wsX40 : List Cond := u_ws RX4 TX4 36
theorem nmX4 : ∀ a, a < 36 → ∀ b, b < 36 → a ≠ b → (TX4 a).2.1 ≠ (TX4 b).2.1 := by decide +kernel
theorem tyX4_ok : ∀ k, k < 36 → parseFieldDescriptor (TX4 k).2.2.1 = some (tyX4 k) := by decide +kernel
abbrev cX4_init : ByteArray := prog_6_method_1_code
def yX4_init : MethodName := ⟨RX4, "<init>", "()V"⟩
abbrev cX4_in : ByteArray := prog_6_method_3_code
def yX4_in : MethodName := ⟨RX4, "in", "(III)Z"⟩
abbrev cX4_isThing : ByteArray := prog_6_method_4_code
def yX4_isThing : MethodName := ⟨RX4, "isThing", "(I)Z"⟩
abbrev cX4_is : ByteArray := prog_6_method_5_code
def yX4_is : MethodName := ⟨RX4, "is", "(II)Z"⟩
abbrev cX4_thing : ByteArray := prog_6_method_6_code
def yX4_thing : MethodName := ⟨RX4, "thing", "(JJJ)I"⟩
abbrev cX4_change : ByteArray := prog_6_method_7_code
def yX4_change : MethodName := ⟨RX4, "change", "(IIJ)I"⟩
abbrev cX4_get : ByteArray := prog_6_method_8_code
def yX4_get : MethodName := ⟨RX4, "get", "(II)J"⟩
abbrev cX4_item : ByteArray := prog_6_method_9_code
def yX4_item : MethodName := ⟨RX4, "item", "(IJ)I"⟩
abbrev cX4_begins : ByteArray := prog_6_method_10_code
def yX4_begins : MethodName := ⟨RX4, "begins", "(IIII)V"⟩
abbrev cX4_tells : ByteArray := prog_6_method_11_code
def yX4_tells : MethodName := ⟨RX4, "tells", "(J)V"⟩
abbrev cX4_goesScale : ByteArray := prog_6_method_12_code
def yX4_goesScale : MethodName := ⟨RX4, "goesScale", "(IIIJ)V"⟩
abbrev cX4_both : ByteArray := prog_6_method_13_code
def yX4_both : MethodName := ⟨RX4, "both", "(IJJ)V"⟩
abbrev cX4_goesSieve : ByteArray := prog_6_method_14_code
def yX4_goesSieve : MethodName := ⟨RX4, "goesSieve", "(IIIJ)V"⟩
abbrev cX4_goesOrder : ByteArray := prog_6_method_15_code
def yX4_goesOrder : MethodName := ⟨RX4, "goesOrder", "(IIJ)V"⟩
abbrev cX4_recovers : ByteArray := prog_6_method_16_code
def yX4_recovers : MethodName := ⟨RX4, "recovers", "()V"⟩
abbrev cX4_ask : ByteArray := prog_6_method_17_code
def yX4_ask : MethodName := ⟨RX4, "ask", "(IIII)Z"⟩
abbrev cX4_startsCall : ByteArray := prog_6_method_18_code
def yX4_startsCall : MethodName := ⟨RX4, "startsCall", "()V"⟩
abbrev cX4_ends : ByteArray := prog_6_method_19_code
def yX4_ends : MethodName := ⟨RX4, "ends", "(I)I"⟩
abbrev cX4_made : ByteArray := prog_6_method_20_code
def yX4_made : MethodName := ⟨RX4, "made", "(IIIIJ)I"⟩
abbrev cX4_scale : ByteArray := prog_6_method_21_code
def yX4_scale : MethodName := ⟨RX4, "scale", "(III)I"⟩
abbrev cX4_sieve : ByteArray := prog_6_method_22_code
def yX4_sieve : MethodName := ⟨RX4, "sieve", "(III)I"⟩
abbrev cX4_order : ByteArray := prog_6_method_23_code
def yX4_order : MethodName := ⟨RX4, "order", "(III)I"⟩
abbrev cX4_all : ByteArray := prog_6_method_24_code
def yX4_all : MethodName := ⟨RX4, "all", "()I"⟩
abbrev cX4_tell : ByteArray := prog_6_method_25_code
def yX4_tell : MethodName := ⟨RX4, "tell", "(II)I"⟩
abbrev cX4_sift : ByteArray := prog_6_method_26_code
def yX4_sift : MethodName := ⟨RX4, "sift", "(I)I"⟩
abbrev cX4_sort : ByteArray := prog_6_method_27_code
def yX4_sort : MethodName := ⟨RX4, "sort", "(I)I"⟩
abbrev cX4_sum : ByteArray := prog_6_method_28_code
def yX4_sum : MethodName := ⟨RX4, "sum", "(I)I"⟩
abbrev cX4_group : ByteArray := prog_6_method_29_code
def yX4_group : MethodName := ⟨RX4, "group", "(II)I"⟩
abbrev cX4_answer : ByteArray := prog_6_method_30_code
def yX4_answer : MethodName := ⟨RX4, "answer", "()J"⟩
abbrev cX4_list : ByteArray := prog_6_method_31_code
def yX4_list : MethodName := ⟨RX4, "list", "(I)I"⟩
abbrev cX4_groups : ByteArray := prog_6_method_32_code
def yX4_groups : MethodName := ⟨RX4, "groups", "(II)J"⟩
abbrev cX4_count : ByteArray := prog_6_method_33_code
def yX4_count : MethodName := ⟨RX4, "count", "(I)I"⟩
def RJ9 : String := "java/lang/Math"
def TJ9 : u_T := fun k => match k with
  | _ => ("", "", "", false)
def tyJ9 : Nat → FieldType := fun k => match k with
  | _ => .int
abbrev wsJ90 : List Cond := u_ws RJ9 TJ9 0
theorem nmJ9 : ∀ a, a < 0 → ∀ b, b < 0 → a ≠ b → (TJ9 a).2.1 ≠ (TJ9 b).2.1 := by decide +kernel
theorem tyJ9_ok : ∀ k, k < 0 → parseFieldDescriptor (TJ9 k).2.2.1 = some (tyJ9 k) := by decide +kernel
abbrev cJ9_max_7cf53 : ByteArray := prog_7_method_65_code
def yJ9_max_7cf53 : MethodName := ⟨RJ9, "max", "(II)I"⟩
abbrev cJ9_min_f86c9 : ByteArray := prog_7_method_70_code
def yJ9_min_f86c9 : MethodName := ⟨RJ9, "min", "(JJ)J"⟩
def RJ10 : String := "java/lang/System"
def TJ10 : u_T := fun k => match k with
  | _ => ("", "", "", false)
def tyJ10 : Nat → FieldType := fun k => match k with
  | _ => .int
abbrev wsJ100 : List Cond := u_ws RJ10 TJ10 0
theorem nmJ10 : ∀ a, a < 0 → ∀ b, b < 0 → a ≠ b → (TJ10 a).2.1 ≠ (TJ10 b).2.1 := by decide +kernel
theorem tyJ10_ok : ∀ k, k < 0 → parseFieldDescriptor (TJ10 k).2.2.1 = some (tyJ10 k) := by decide +kernel
def RL : String := "SieveDeskLaw"
abbrev cL_law : ByteArray := code
def yL_law : MethodName := ⟨RL, "law", "([I)Z"⟩
def wsL_law_r1 : List Cond := [Cond.classLink RL 7 RX3, Cond.instantiable RX3 13, Cond.initialized RX3, Cond.classLink RL 10 RX4, Cond.instantiable RX4 36, Cond.initialized RX4, Cond.constantLong RL 13 (4294967295), Cond.methodLink RL 9 yX3_init, Cond.instanceMethod yX3_init, Cond.code yX3_init cX3_init 1 none, Cond.methodLink RX3 1 objectInit, Cond.instanceMethod objectInit, Cond.code objectInit ⟨#[0xb1]⟩ 1 none, Cond.arrayClass .long, Cond.fieldLink RX3 9 "SieveDesk" "cells" "[J", Cond.fieldLink RX3 13 "SieveDesk" "thingCount" "I", Cond.fieldLink RX3 17 "SieveDesk" "row" "[J", Cond.arrayClass .int, Cond.fieldLink RX3 20 "SieveDesk" "listed" "[I", Cond.fieldLink RX3 24 "SieveDesk" "draft" "[I", Cond.fieldLink RX3 27 "SieveDesk" "listLength" "I", Cond.classLink RX3 30 RX1, Cond.instantiable RX1 5, Cond.initialized RX1]
def wsL_law_r2 : List Cond := [Cond.fieldLink RX3 33 "SieveDesk" "scales" "LSieveDesk$Shelf;", Cond.fieldLink RX3 37 "SieveDesk" "sieves" "LSieveDesk$Shelf;", Cond.fieldLink RX3 40 "SieveDesk" "orders" "LSieveDesk$Shelf;", Cond.classLink RX3 43 RX0, Cond.instantiable RX0 5, Cond.initialized RX0, Cond.fieldLink RX3 46 "SieveDesk" "grouping" "LSieveDesk$Grouping;", Cond.fieldLink RX3 50 "SieveDesk" "draftGrouping" "LSieveDesk$Grouping;", Cond.classLink RX3 53 RX2, Cond.instantiable RX2 6, Cond.initialized RX2, Cond.fieldLink RX3 56 "SieveDesk" "tally" "LSieveDesk$Tally;", Cond.fieldLink RX3 60 "SieveDesk" "latestTold" "J", Cond.instanceMethod yX1_init, Cond.code yX1_init cX1_init 1 none, Cond.methodLink RX1 1 objectInit, Cond.fieldLink RX1 9 "SieveDesk$Shelf" "kind" "[I", Cond.fieldLink RX1 13 "SieveDesk$Shelf" "a" "[I", Cond.fieldLink RX1 16 "SieveDesk$Shelf" "b" "[I", Cond.fieldLink RX1 19 "SieveDesk$Shelf" "kept" "[J", Cond.fieldLink RX1 23 "SieveDesk$Shelf" "size" "I", Cond.instanceMethod yX0_init, Cond.code yX0_init cX0_init 1 none, Cond.methodLink RX0 3 objectInit]
def wsL_law_r3 : List Cond := [Cond.fieldLink RX0 9 "SieveDesk$Grouping" "key" "[J", Cond.fieldLink RX0 15 "SieveDesk$Grouping" "members" "[I", Cond.fieldLink RX0 19 "SieveDesk$Grouping" "total" "[J", Cond.fieldLink RX0 22 "SieveDesk$Grouping" "first" "[I", Cond.fieldLink RX0 25 "SieveDesk$Grouping" "size" "I", Cond.instanceMethod yX2_init, Cond.code yX2_init cX2_init 1 none, Cond.methodLink RX2 3 objectInit, Cond.fieldLink RX2 9 "SieveDesk$Tally" "begun" "I", Cond.fieldLink RX2 15 "SieveDesk$Tally" "begunEver" "I", Cond.fieldLink RX2 18 "SieveDesk$Tally" "met" "I", Cond.fieldLink RX2 21 "SieveDesk$Tally" "failedCalls" "I", Cond.fieldLink RX2 24 "SieveDesk$Tally" "latestFailure" "I", Cond.fieldLink RX2 27 "SieveDesk$Tally" "standing" "I", Cond.methodLink RL 12 yX4_init, Cond.instanceMethod yX4_init, Cond.code yX4_init cX4_init 1 none, Cond.methodLink RX4 1 objectInit, Cond.fieldLink RX4 7 "SieveDeskModel" "columns" "[J", Cond.fieldLink RX4 13 "SieveDeskModel" "row" "[J", Cond.fieldLink RX4 16 "SieveDeskModel" "list" "[I", Cond.fieldLink RX4 20 "SieveDeskModel" "many" "[I", Cond.fieldLink RX4 23 "SieveDeskModel" "kind" "[I", Cond.fieldLink RX4 26 "SieveDeskModel" "first" "[I"]
def wsL_law_r4 : List Cond := [Cond.fieldLink RX4 29 "SieveDeskModel" "second" "[I", Cond.fieldLink RX4 32 "SieveDeskModel" "held" "[J", Cond.fieldLink RX4 35 "SieveDeskModel" "asked" "[I", Cond.fieldLink RX4 38 "SieveDeskModel" "which" "[I", Cond.fieldLink RX4 41 "SieveDeskModel" "one" "[I", Cond.fieldLink RX4 44 "SieveDeskModel" "other" "[I", Cond.fieldLink RX4 47 "SieveDeskModel" "stage" "[I", Cond.fieldLink RX4 50 "SieveDeskModel" "had" "[J", Cond.fieldLink RX4 53 "SieveDeskModel" "key" "[J", Cond.fieldLink RX4 56 "SieveDeskModel" "size" "[I", Cond.fieldLink RX4 59 "SieveDeskModel" "sums" "[J", Cond.fieldLink RX4 62 "SieveDeskModel" "firsts" "[I", Cond.fieldLink RX4 65 "SieveDeskModel" "next" "[I", Cond.fieldLink RX4 68 "SieveDeskModel" "newKey" "[J", Cond.fieldLink RX4 71 "SieveDeskModel" "newSize" "[I", Cond.fieldLink RX4 74 "SieveDeskModel" "newSum" "[J", Cond.fieldLink RX4 77 "SieveDeskModel" "newFirst" "[I", Cond.fieldLink RX4 80 "SieveDeskModel" "things" "I", Cond.methodLink RL 15 yX3_thing, Cond.instanceMethod yX3_thing, Cond.selects RX3 yX3_thing yX3_thing, Cond.code yX3_thing cX3_thing 8 (some .int), Cond.methodLink RX3 64 yX3_cellOf, Cond.static yX3_cellOf]
def wsL_law_r5 : List Cond := [Cond.code yX3_cellOf cX3_cellOf 2 (some .int), Cond.methodLink RL 19 yX4_thing, Cond.instanceMethod yX4_thing, Cond.selects RX4 yX4_thing yX4_thing, Cond.code yX4_thing cX4_thing 7 (some .int), Cond.fieldLink RX4 88 "SieveDeskModel" "listed" "I", Cond.methodLink RL 20 yX3_change, Cond.instanceMethod yX3_change, Cond.selects RX3 yX3_change yX3_change, Cond.code yX3_change cX3_change 5 (some .int), Cond.methodLink RX3 68 yX3_isThing, Cond.instanceMethod yX3_isThing, Cond.selects RX3 yX3_isThing yX3_isThing, Cond.code yX3_isThing cX3_isThing 2 (some .boolean), Cond.methodLink RX3 72 yX3_isColumn, Cond.static yX3_isColumn, Cond.code yX3_isColumn cX3_isColumn 1 (some .boolean), Cond.methodLink RL 24 yX4_change, Cond.instanceMethod yX4_change, Cond.selects RX4 yX4_change yX4_change, Cond.code yX4_change cX4_change 5 (some .int), Cond.methodLink RX4 91 yX4_isThing, Cond.instanceMethod yX4_isThing, Cond.selects RX4 yX4_isThing yX4_isThing]
def wsL_law_r6 : List Cond := [Cond.code yX4_isThing cX4_isThing 2 (some .boolean), Cond.methodLink RX4 84 yX4_in, Cond.static yX4_in, Cond.code yX4_in cX4_in 3 (some .boolean), Cond.methodLink RL 25 yX3_get, Cond.instanceMethod yX3_get, Cond.selects RX3 yX3_get yX3_get, Cond.code yX3_get cX3_get 3 (some .long), Cond.methodLink RL 29 yX4_get, Cond.instanceMethod yX4_get, Cond.selects RX4 yX4_get yX4_get, Cond.code yX4_get cX4_get 3 (some .long), Cond.methodLink RL 30 yX3_item, Cond.instanceMethod yX3_item, Cond.selects RX3 yX3_item yX3_item, Cond.code yX3_item cX3_item 4 (some .int), Cond.methodLink RX3 75 yX3_isPlaceOfRow, Cond.static yX3_isPlaceOfRow, Cond.code yX3_isPlaceOfRow cX3_isPlaceOfRow 2 (some .boolean), Cond.constantLong RX3 163 (8), Cond.methodLink RL 34 yX4_item, Cond.instanceMethod yX4_item, Cond.selects RX4 yX4_item yX4_item, Cond.code yX4_item cX4_item 4 (some .int)]
def wsL_law_r7 : List Cond := [Cond.methodLink RL 35 yX3_scale, Cond.instanceMethod yX3_scale, Cond.selects RX3 yX3_scale yX3_scale, Cond.code yX3_scale cX3_scale 4 (some .int), Cond.methodLink RX3 79 yX3_canMakeScale, Cond.instanceMethod yX3_canMakeScale, Cond.selects RX3 yX3_canMakeScale yX3_canMakeScale, Cond.code yX3_canMakeScale cX3_canMakeScale 4 (some .boolean), Cond.methodLink RX3 100 yX1_has, Cond.instanceMethod yX1_has, Cond.selects RX1 yX1_has yX1_has, Cond.code yX1_has cX1_has 2 (some .boolean), Cond.methodLink RX3 83 yX1_isFull, Cond.instanceMethod yX1_isFull, Cond.selects RX1 yX1_isFull yX1_isFull, Cond.code yX1_isFull cX1_isFull 1 (some .boolean), Cond.methodLink RX3 87 yX3_makeNow, Cond.instanceMethod yX3_makeNow, Cond.selects RX3 yX3_makeNow yX3_makeNow, Cond.code yX3_makeNow cX3_makeNow 5 (some .int), Cond.methodLink RX3 103 yX2_opensCall, Cond.instanceMethod yX2_opensCall, Cond.selects RX2 yX2_opensCall yX2_opensCall, Cond.code yX2_opensCall cX2_opensCall 1 (some .boolean)]
def wsL_law_r8 : List Cond := [Cond.methodLink RX3 106 yX3_askScale, Cond.instanceMethod yX3_askScale, Cond.selects RX3 yX3_askScale yX3_askScale, Cond.code yX3_askScale cX3_askScale 5 (some .long), Cond.fieldLink RX3 172 "SieveDesk$Shelf" "a" "[I", Cond.fieldLink RX3 175 "SieveDesk$Shelf" "b" "[I", Cond.fieldLink RX3 178 "SieveDesk$Shelf" "kind" "[I", Cond.methodLink RX3 185 Lib.MathLoose.min_long.x, Cond.static Lib.MathLoose.min_long.x, Cond.initialized "java/lang/Math", Cond.code Lib.MathLoose.min_long.x Lib.MathLoose.min_long.code 4 (some .long), Cond.fieldLink RX3 194 "SieveDesk$Shelf" "kept" "[J", Cond.methodLink RX3 169 yX2_beginsAsking, Cond.instanceMethod yX2_beginsAsking, Cond.selects RX2 yX2_beginsAsking yX2_beginsAsking, Cond.code yX2_beginsAsking cX2_beginsAsking 1 (some .boolean), Cond.methodLink RX2 30 yX2_hasFailure, Cond.instanceMethod yX2_hasFailure, Cond.selects RX2 yX2_hasFailure yX2_hasFailure, Cond.code yX2_hasFailure cX2_hasFailure 1 (some .boolean), Cond.methodLink RX2 34 yX2_fail, Cond.instanceMethod yX2_fail, Cond.selects RX2 yX2_fail yX2_fail, Cond.code yX2_fail cX2_fail 2 none]
def wsL_law_r9 : List Cond := [Cond.methodLink RX3 181 yX3_quotient, Cond.instanceMethod yX3_quotient, Cond.selects RX3 yX3_quotient yX3_quotient, Cond.code yX3_quotient cX3_quotient 5 (some .long), Cond.methodLink RX3 201 yX2_fail, Cond.methodLink RX3 117 yX3_askSieve, Cond.instanceMethod yX3_askSieve, Cond.selects RX3 yX3_askSieve yX3_askSieve, Cond.methodLink RX3 190 yX3_itemAt, Cond.instanceMethod yX3_itemAt, Cond.selects RX3 yX3_itemAt yX3_itemAt, Cond.code yX3_itemAt cX3_itemAt 3 (some .long), Cond.methodLink RX3 197 yX1_countAsked, Cond.instanceMethod yX1_countAsked, Cond.selects RX1 yX1_countAsked yX1_countAsked, Cond.code yX1_countAsked cX1_countAsked 2 (some .long), Cond.code yX3_askSafely cX3_askSafely 4 (some .boolean), Cond.methodLink RX3 221 yX2_meetsFailure, Cond.instanceMethod yX2_meetsFailure, Cond.selects RX2 yX2_meetsFailure yX2_meetsFailure, Cond.code yX2_meetsFailure cX2_meetsFailure 1 (some .boolean), Cond.code yX3_askSieve cX3_askSieve 5 (some .boolean), Cond.methodLink RX3 204 Lib.Math.max.name, Cond.static Lib.Math.max.name]
def wsL_law_r10 : List Cond := [Cond.code Lib.Math.max.name Lib.Math.max.code 2 (some .int), Cond.methodLink RX3 207 yX3_askSafely, Cond.instanceMethod yX3_askSafely, Cond.selects RX3 yX3_askSafely yX3_askSafely, Cond.methodLink RX3 110 yX2_hasFailure, Cond.methodLink RX3 113 yX2_endFailedCall, Cond.instanceMethod yX2_endFailedCall, Cond.selects RX2 yX2_endFailedCall yX2_endFailedCall, Cond.code yX2_endFailedCall cX2_endFailedCall 1 (some .int), Cond.methodLink RX3 90 yX1_make, Cond.instanceMethod yX1_make, Cond.selects RX1 yX1_make yX1_make, Cond.code yX1_make cX1_make 7 (some .int), Cond.methodLink RL 39 yX4_scale, Cond.instanceMethod yX4_scale, Cond.selects RX4 yX4_scale yX4_scale, Cond.code yX4_scale cX4_scale 7 (some .int), Cond.fieldLink RX4 127 "SieveDeskModel" "met" "I", Cond.fieldLink RX4 107 "SieveDeskModel" "told" "J", Cond.methodLink RX4 153 yX4_is, Cond.instanceMethod yX4_is, Cond.selects RX4 yX4_is yX4_is, Cond.code yX4_is cX4_is 3 (some .boolean), Cond.methodLink RX4 157 yX4_made]
def wsL_law_r11 : List Cond := [Cond.instanceMethod yX4_made, Cond.selects RX4 yX4_made yX4_made, Cond.code yX4_made cX4_made 8 (some .int), Cond.methodLink RX4 161 yX4_startsCall, Cond.instanceMethod yX4_startsCall, Cond.selects RX4 yX4_startsCall yX4_startsCall, Cond.code yX4_startsCall cX4_startsCall 1 none, Cond.fieldLink RX4 95 "SieveDeskModel" "askings" "I", Cond.fieldLink RX4 98 "SieveDeskModel" "failure" "I", Cond.methodLink RX4 164 yX4_ask, Cond.instanceMethod yX4_ask, Cond.selects RX4 yX4_ask yX4_ask, Cond.code yX4_ask cX4_ask 8 (some .boolean), Cond.fieldLink RX4 104 "SieveDeskModel" "waiting" "I", Cond.methodLink RX4 115 yX4_begins, Cond.instanceMethod yX4_begins, Cond.selects RX4 yX4_begins yX4_begins, Cond.code yX4_begins cX4_begins 5 none, Cond.fieldLink RX4 101 "SieveDeskModel" "askingsEver" "I", Cond.methodLink RX4 130 yX4_goesScale, Cond.instanceMethod yX4_goesScale, Cond.selects RX4 yX4_goesScale yX4_goesScale, Cond.code yX4_goesScale cX4_goesScale 9 none, Cond.constantLong RX4 119 (7)]
def wsL_law_r12 : List Cond := [Cond.methodLink RX4 111 yX4_tells, Cond.instanceMethod yX4_tells, Cond.selects RX4 yX4_tells yX4_tells, Cond.code yX4_tells cX4_tells 3 none, Cond.methodLink RX4 121 yX4_both, Cond.instanceMethod yX4_both, Cond.selects RX4 yX4_both yX4_both, Cond.code yX4_both cX4_both 6 none, Cond.methodLink RX4 134 yX4_goesSieve, Cond.instanceMethod yX4_goesSieve, Cond.selects RX4 yX4_goesSieve yX4_goesSieve, Cond.code yX4_goesSieve cX4_goesSieve 10 none, Cond.methodLink RX4 137 yX4_goesOrder, Cond.instanceMethod yX4_goesOrder, Cond.selects RX4 yX4_goesOrder yX4_goesOrder, Cond.code yX4_goesOrder cX4_goesOrder 12 none, Cond.constantLong RX4 125 (-1), Cond.methodLink RX4 141 yX4_recovers, Cond.instanceMethod yX4_recovers, Cond.selects RX4 yX4_recovers yX4_recovers, Cond.code yX4_recovers cX4_recovers 3 none, Cond.methodLink RX4 168 yX4_ends, Cond.instanceMethod yX4_ends, Cond.selects RX4 yX4_ends yX4_ends]
def wsL_law_r13 : List Cond := [Cond.code yX4_ends cX4_ends 2 (some .int), Cond.fieldLink RX4 144 "SieveDeskModel" "askingsTold" "I", Cond.fieldLink RX4 147 "SieveDeskModel" "failedCalls" "I", Cond.fieldLink RX4 150 "SieveDeskModel" "latest" "I", Cond.methodLink RL 40 yX3_sieve, Cond.instanceMethod yX3_sieve, Cond.selects RX3 yX3_sieve yX3_sieve, Cond.code yX3_sieve cX3_sieve 4 (some .int), Cond.methodLink RX3 94 yX3_canMakeSieve, Cond.instanceMethod yX3_canMakeSieve, Cond.selects RX3 yX3_canMakeSieve yX3_canMakeSieve, Cond.code yX3_canMakeSieve cX3_canMakeSieve 4 (some .boolean), Cond.methodLink RL 43 yX4_sieve, Cond.instanceMethod yX4_sieve, Cond.selects RX4 yX4_sieve yX4_sieve, Cond.code yX4_sieve cX4_sieve 5 (some .int), Cond.methodLink RL 44 yX3_order, Cond.instanceMethod yX3_order, Cond.selects RX3 yX3_order yX3_order, Cond.code yX3_order cX3_order 4 (some .int), Cond.methodLink RX3 97 yX3_canMakeOrder, Cond.instanceMethod yX3_canMakeOrder, Cond.selects RX3 yX3_canMakeOrder yX3_canMakeOrder, Cond.code yX3_canMakeOrder cX3_canMakeOrder 4 (some .boolean)]
def wsL_law_r14 : List Cond := [Cond.methodLink RL 47 yX4_order, Cond.instanceMethod yX4_order, Cond.selects RX4 yX4_order yX4_order, Cond.code yX4_order cX4_order 5 (some .int), Cond.methodLink RL 48 yX3_all, Cond.instanceMethod yX3_all, Cond.selects RX3 yX3_all yX3_all, Cond.code yX3_all cX3_all 2 (some .int), Cond.methodLink RL 52 yX4_all, Cond.instanceMethod yX4_all, Cond.selects RX4 yX4_all yX4_all, Cond.code yX4_all cX4_all 2 (some .int), Cond.methodLink RL 53 yX3_tell, Cond.instanceMethod yX3_tell, Cond.selects RX3 yX3_tell yX3_tell, Cond.code yX3_tell cX3_tell 5 (some .int), Cond.methodLink RL 57 yX4_tell, Cond.instanceMethod yX4_tell, Cond.selects RX4 yX4_tell yX4_tell, Cond.code yX4_tell cX4_tell 3 (some .int), Cond.fieldLink RX4 172 "SieveDeskModel" "answer" "J", Cond.methodLink RL 58 yX3_sift, Cond.instanceMethod yX3_sift, Cond.selects RX3 yX3_sift yX3_sift]
def wsL_law_r15 : List Cond := [Cond.code yX3_sift cX3_sift 4 (some .int), Cond.methodLink RX3 121 yX3_takeDraft, Cond.instanceMethod yX3_takeDraft, Cond.selects RX3 yX3_takeDraft yX3_takeDraft, Cond.code yX3_takeDraft cX3_takeDraft 2 none, Cond.methodLink RX3 125 arraycopyName, Cond.native arraycopyName, Cond.static arraycopyName, Cond.initialized "java/lang/System", Cond.methodLink RL 62 yX4_sift, Cond.instanceMethod yX4_sift, Cond.selects RX4 yX4_sift yX4_sift, Cond.code yX4_sift cX4_sift 5 (some .int), Cond.methodLink RL 63 yX3_sort, Cond.instanceMethod yX3_sort, Cond.selects RX3 yX3_sort yX3_sort, Cond.code yX3_sort cX3_sort 4 (some .int), Cond.methodLink RX3 131 yX3_moveForward, Cond.instanceMethod yX3_moveForward, Cond.selects RX3 yX3_moveForward yX3_moveForward, Cond.code yX3_moveForward cX3_moveForward 5 (some .int), Cond.methodLink RX3 165 yX3_askOrder, Cond.instanceMethod yX3_askOrder, Cond.selects RX3 yX3_askOrder yX3_askOrder]
def wsL_law_r16 : List Cond := [Cond.code yX3_askOrder cX3_askOrder 6 (some .int), Cond.methodLink RX3 210 yX3_lesserFirst, Cond.static yX3_lesserFirst, Cond.code yX3_lesserFirst cX3_lesserFirst 4 (some .int), Cond.methodLink RX3 214 yX3_askThen, Cond.instanceMethod yX3_askThen, Cond.selects RX3 yX3_askThen yX3_askThen, Cond.methodLink RX3 218 yX3_rankBySieve, Cond.instanceMethod yX3_rankBySieve, Cond.selects RX3 yX3_rankBySieve yX3_rankBySieve, Cond.code yX3_rankBySieve cX3_rankBySieve 3 (some .int), Cond.code yX3_askThen cX3_askThen 6 (some .int), Cond.methodLink RL 66 yX4_sort, Cond.instanceMethod yX4_sort, Cond.selects RX4 yX4_sort yX4_sort, Cond.code yX4_sort cX4_sort 8 (some .int), Cond.methodLink RL 67 yX3_sum, Cond.instanceMethod yX3_sum, Cond.selects RX3 yX3_sum yX3_sum, Cond.code yX3_sum cX3_sum 5 (some .int), Cond.methodLink RL 70 yX4_sum, Cond.instanceMethod yX4_sum, Cond.selects RX4 yX4_sum yX4_sum, Cond.code yX4_sum cX4_sum 6 (some .int)]
def wsL_law_r17 : List Cond := [Cond.methodLink RL 71 yX3_group, Cond.instanceMethod yX3_group, Cond.selects RX3 yX3_group yX3_group, Cond.code yX3_group cX3_group 6 (some .int), Cond.fieldLink RX3 141 "SieveDesk$Grouping" "size" "I", Cond.methodLink RX3 134 yX0_clear, Cond.instanceMethod yX0_clear, Cond.selects RX0 yX0_clear yX0_clear, Cond.code yX0_clear cX0_clear 1 none, Cond.methodLink RX3 137 yX0_add, Cond.instanceMethod yX0_add, Cond.selects RX0 yX0_add yX0_add, Cond.code yX0_add cX0_add 7 none, Cond.methodLink RX0 29 yX0_placeOf, Cond.instanceMethod yX0_placeOf, Cond.selects RX0 yX0_placeOf yX0_placeOf, Cond.code yX0_placeOf cX0_placeOf 4 (some .int), Cond.methodLink RL 74 yX4_group, Cond.instanceMethod yX4_group, Cond.selects RX4 yX4_group yX4_group, Cond.code yX4_group cX4_group 9 (some .int), Cond.fieldLink RX4 175 "SieveDeskModel" "groups" "I", Cond.methodLink RL 75 yX3_answer, Cond.instanceMethod yX3_answer]
def wsL_law_r18 : List Cond := [Cond.selects RX3 yX3_answer yX3_answer, Cond.code yX3_answer cX3_answer 1 (some .long), Cond.methodLink RL 79 yX4_answer, Cond.instanceMethod yX4_answer, Cond.selects RX4 yX4_answer yX4_answer, Cond.code yX4_answer cX4_answer 1 (some .long), Cond.methodLink RL 80 yX3_list, Cond.instanceMethod yX3_list, Cond.selects RX3 yX3_list yX3_list, Cond.code yX3_list cX3_list 2 (some .int), Cond.methodLink RL 83 yX4_list, Cond.instanceMethod yX4_list, Cond.selects RX4 yX4_list yX4_list, Cond.code yX4_list cX4_list 2 (some .int), Cond.methodLink RL 84 yX3_groups, Cond.instanceMethod yX3_groups, Cond.selects RX3 yX3_groups yX3_groups, Cond.code yX3_groups cX3_groups 3 (some .long), Cond.methodLink RX3 144 yX0_tellOf, Cond.instanceMethod yX0_tellOf, Cond.selects RX0 yX0_tellOf yX0_tellOf, Cond.code yX0_tellOf cX0_tellOf 3 (some .long), Cond.methodLink RL 87 yX4_groups, Cond.instanceMethod yX4_groups]
def wsL_law_r19 : List Cond := [Cond.selects RX4 yX4_groups yX4_groups, Cond.code yX4_groups cX4_groups 3 (some .long), Cond.methodLink RL 88 yX3_count, Cond.instanceMethod yX3_count, Cond.selects RX3 yX3_count yX3_count, Cond.code yX3_count cX3_count 2 (some .int), Cond.fieldLink RX3 147 "SieveDesk$Shelf" "size" "I", Cond.fieldLink RX3 148 "SieveDesk$Tally" "begun" "I", Cond.fieldLink RX3 151 "SieveDesk$Tally" "begunEver" "I", Cond.fieldLink RX3 154 "SieveDesk$Tally" "met" "I", Cond.fieldLink RX3 157 "SieveDesk$Tally" "failedCalls" "I", Cond.fieldLink RX3 160 "SieveDesk$Tally" "latestFailure" "I", Cond.methodLink RL 91 yX4_count, Cond.instanceMethod yX4_count, Cond.selects RX4 yX4_count yX4_count, Cond.code yX4_count cX4_count 2 (some .int)]
def wsL_law : List Cond := (wsL_law_r1 ++ (wsL_law_r2 ++ (wsL_law_r3 ++ (wsL_law_r4 ++ (wsL_law_r5 ++ (wsL_law_r6 ++ (wsL_law_r7 ++ (wsL_law_r8 ++ (wsL_law_r9 ++ (wsL_law_r10 ++ (wsL_law_r11 ++ (wsL_law_r12 ++ (wsL_law_r13 ++ (wsL_law_r14 ++ (wsL_law_r15 ++ (wsL_law_r16 ++ (wsL_law_r17 ++ (wsL_law_r18 ++ wsL_law_r19)))))))))))))))))) ++ wsX30 ++ wsX40 ++ wsX10 ++ wsX00 ++ wsX20 ++ ([] : List Cond)
set_option maxRecDepth 20000 in
theorem wsL_law_in : ∀ w ∈ wsL_law, w ∈ lw_tbl := fun w h => (goodIn_p wsL_law [41, 44, 49, 78, 101, 379, 170, 173, 493, 177, 181, 184, 497, 501, 504, 188, 508, 192, 195, 512, 208, 212, 216, 220, 224, 228, 232, 252, 236, 240, 244, 248, 275, 260, 267, 271, 256, 263, 280, 284, 516, 520, 524, 528, 532, 536, 540, 544, 549, 553, 557, 562, 566, 288, 292, 570, 296, 300, 574, 200, 578, 304, 582, 308, 312, 586, 319, 323, 327, 330, 338, 334, 590, 342, 594, 346, 350, 354, 358, 598, 362, 602, 204, 606, 366, 370, 610, 374, 614] (by decide +kernel) (by decide +kernel) w h).1
theorem inlX0 : ∀ w ∈ wsX00, w ∈ wsL_law := fun _ h => List.mem_append_left _ (List.mem_append_left _ (List.mem_append_right _ h))
theorem inX0 : ∀ w ∈ wsX00, w ∈ lw_tbl := fun w h => wsL_law_in w (inlX0 w h)
theorem inlX1 : ∀ w ∈ wsX10, w ∈ wsL_law := fun _ h => List.mem_append_left _ (List.mem_append_left _ (List.mem_append_left _ (List.mem_append_right _ h)))
theorem inX1 : ∀ w ∈ wsX10, w ∈ lw_tbl := fun w h => wsL_law_in w (inlX1 w h)
theorem inlX2 : ∀ w ∈ wsX20, w ∈ wsL_law := fun _ h => List.mem_append_left _ (List.mem_append_right _ h)
theorem inX2 : ∀ w ∈ wsX20, w ∈ lw_tbl := fun w h => wsL_law_in w (inlX2 w h)
theorem inlX3 : ∀ w ∈ wsX30, w ∈ wsL_law := fun _ h => List.mem_append_left _ (List.mem_append_left _ (List.mem_append_left _ (List.mem_append_left _ (List.mem_append_left _ (List.mem_append_right _ h)))))
theorem inX3 : ∀ w ∈ wsX30, w ∈ lw_tbl := fun w h => wsL_law_in w (inlX3 w h)
theorem inlX4 : ∀ w ∈ wsX40, w ∈ wsL_law := fun _ h => List.mem_append_left _ (List.mem_append_left _ (List.mem_append_left _ (List.mem_append_left _ (List.mem_append_right _ h))))
theorem inX4 : ∀ w ∈ wsX40, w ∈ lw_tbl := fun w h => wsL_law_in w (inlX4 w h)
abbrev vwCl : List vw_C := [(RX0, TX0, 5), (RX1, TX1, 5), (RX2, TX2, 6), (RX3, TX3, 13), (RX4, TX4, 36)]
