section
-- ===== PART A: goes FIRST, ahead of the names: the tables' words, and 'selects' of the private methods out of them =====
/-- a private method of a class that the tables say can be made, by its rows of tables_1 -/
def lw_okq (q : MethodName × Nat) : Prop := (q.1.cls ≠ "java/lang/invoke/MethodHandle" ∧ q.1.cls ≠ "java/lang/invoke/VarHandle") ∧ Cond.instantiable q.1.cls q.2 ∈ tables_1 ∧ Cond.privateMethod q.1 ∈ tables_1 ∧ Cond.instanceMethod q.1 ∈ tables_1
theorem lw_p0 : lw_okq (⟨"SortLineEvents", "isClosed", "()Z"⟩, 17) := ⟨⟨by decide +kernel, by decide +kernel⟩, List.mem_of_getElem? (i := 14) (by decide +kernel), List.mem_of_getElem? (i := 129) (by decide +kernel), List.mem_of_getElem? (i := 130) (by decide +kernel)⟩
theorem lw_p1 : lw_okq (⟨"SortLineEvents", "beltNumbered", "(I)LSortLineEvents$Belt;"⟩, 17) := ⟨⟨by decide +kernel, by decide +kernel⟩, List.mem_of_getElem? (i := 14) (by decide +kernel), List.mem_of_getElem? (i := 206) (by decide +kernel), List.mem_of_getElem? (i := 207) (by decide +kernel)⟩
theorem lw_p2 : lw_okq (⟨"SortLineEvents", "bunkerJoinedBy", "(I)LSortLineEvents$Bunker;"⟩, 17) := ⟨⟨by decide +kernel, by decide +kernel⟩, List.mem_of_getElem? (i := 14) (by decide +kernel), List.mem_of_getElem? (i := 258) (by decide +kernel), List.mem_of_getElem? (i := 259) (by decide +kernel)⟩
theorem lw_p3 : lw_okq (⟨"SortLineEvents", "passOneTenth", "()V"⟩, 17) := ⟨⟨by decide +kernel, by decide +kernel⟩, List.mem_of_getElem? (i := 14) (by decide +kernel), List.mem_of_getElem? (i := 368) (by decide +kernel), List.mem_of_getElem? (i := 369) (by decide +kernel)⟩
theorem lw_p4 : lw_okq (⟨"SortLineEvents", "comeOn", "(LSortLineEvents$Piece;)V"⟩, 17) := ⟨⟨by decide +kernel, by decide +kernel⟩, List.mem_of_getElem? (i := 14) (by decide +kernel), List.mem_of_getElem? (i := 372) (by decide +kernel), List.mem_of_getElem? (i := 373) (by decide +kernel)⟩
theorem lw_p5 : lw_okq (⟨"SortLineEvents", "act", "(LSortLineEvents$Piece;)V"⟩, 17) := ⟨⟨by decide +kernel, by decide +kernel⟩, List.mem_of_getElem? (i := 14) (by decide +kernel), List.mem_of_getElem? (i := 380) (by decide +kernel), List.mem_of_getElem? (i := 381) (by decide +kernel)⟩
theorem lw_p6 : lw_okq (⟨"SortLineEvents", "enter", "(LSortLineEvents$Piece;LSortLineEvents$Belt;)V"⟩, 17) := ⟨⟨by decide +kernel, by decide +kernel⟩, List.mem_of_getElem? (i := 14) (by decide +kernel), List.mem_of_getElem? (i := 384) (by decide +kernel), List.mem_of_getElem? (i := 385) (by decide +kernel)⟩
theorem lw_p7 : lw_okq (⟨"SortLineEvents", "loadWith", "(LSortLineEvents$Piece;LSortLineEvents$Belt;)D"⟩, 17) := ⟨⟨by decide +kernel, by decide +kernel⟩, List.mem_of_getElem? (i := 14) (by decide +kernel), List.mem_of_getElem? (i := 396) (by decide +kernel), List.mem_of_getElem? (i := 397) (by decide +kernel)⟩
theorem lw_p8 : lw_okq (⟨"SortLineEvents", "jamBy", "(LSortLineEvents$Piece;LSortLineEvents$Belt;)V"⟩, 17) := ⟨⟨by decide +kernel, by decide +kernel⟩, List.mem_of_getElem? (i := 14) (by decide +kernel), List.mem_of_getElem? (i := 400) (by decide +kernel), List.mem_of_getElem? (i := 401) (by decide +kernel)⟩
theorem lw_p9 : lw_okq (⟨"SortLineEvents", "passHeads", "(LSortLineEvents$Piece;LSortLineEvents$Belt;)V"⟩, 17) := ⟨⟨by decide +kernel, by decide +kernel⟩, List.mem_of_getElem? (i := 14) (by decide +kernel), List.mem_of_getElem? (i := 404) (by decide +kernel), List.mem_of_getElem? (i := 405) (by decide +kernel)⟩
theorem lw_p10 : lw_okq (⟨"SortLineEvents", "chance", "(II)D"⟩, 17) := ⟨⟨by decide +kernel, by decide +kernel⟩, List.mem_of_getElem? (i := 14) (by decide +kernel), List.mem_of_getElem? (i := 408) (by decide +kernel), List.mem_of_getElem? (i := 409) (by decide +kernel)⟩
theorem lw_p11 : lw_okq (⟨"SortLineEvents", "leave", "(LSortLineEvents$Piece;LSortLineEvents$Belt;)V"⟩, 17) := ⟨⟨by decide +kernel, by decide +kernel⟩, List.mem_of_getElem? (i := 14) (by decide +kernel), List.mem_of_getElem? (i := 417) (by decide +kernel), List.mem_of_getElem? (i := 418) (by decide +kernel)⟩
theorem lw_p12 : lw_okq (⟨"SortLineEvents", "takenByRobot", "(LSortLineEvents$Piece;LSortLineEvents$Belt;)Z"⟩, 17) := ⟨⟨by decide +kernel, by decide +kernel⟩, List.mem_of_getElem? (i := 14) (by decide +kernel), List.mem_of_getElem? (i := 421) (by decide +kernel), List.mem_of_getElem? (i := 422) (by decide +kernel)⟩
theorem lw_p13 : lw_okq (⟨"SortLineEvents", "takenByPicker", "(LSortLineEvents$Piece;LSortLineEvents$Belt;)Z"⟩, 17) := ⟨⟨by decide +kernel, by decide +kernel⟩, List.mem_of_getElem? (i := 14) (by decide +kernel), List.mem_of_getElem? (i := 425) (by decide +kernel), List.mem_of_getElem? (i := 426) (by decide +kernel)⟩
theorem lw_p14 : lw_okq (⟨"SortLineEvents", "fill", "(LSortLineEvents$Piece;LSortLineEvents$Bunker;)V"⟩, 17) := ⟨⟨by decide +kernel, by decide +kernel⟩, List.mem_of_getElem? (i := 14) (by decide +kernel), List.mem_of_getElem? (i := 434) (by decide +kernel), List.mem_of_getElem? (i := 435) (by decide +kernel)⟩
theorem lw_p15 : lw_okq (⟨"SortLineEvents", "onBelts", "()I"⟩, 17) := ⟨⟨by decide +kernel, by decide +kernel⟩, List.mem_of_getElem? (i := 14) (by decide +kernel), List.mem_of_getElem? (i := 465) (by decide +kernel), List.mem_of_getElem? (i := 466) (by decide +kernel)⟩
def lw_privs_1 : List (MethodName × Nat) := [(⟨"SortLineEvents", "isClosed", "()Z"⟩, 17), (⟨"SortLineEvents", "beltNumbered", "(I)LSortLineEvents$Belt;"⟩, 17), (⟨"SortLineEvents", "bunkerJoinedBy", "(I)LSortLineEvents$Bunker;"⟩, 17), (⟨"SortLineEvents", "passOneTenth", "()V"⟩, 17), (⟨"SortLineEvents", "comeOn", "(LSortLineEvents$Piece;)V"⟩, 17), (⟨"SortLineEvents", "act", "(LSortLineEvents$Piece;)V"⟩, 17), (⟨"SortLineEvents", "enter", "(LSortLineEvents$Piece;LSortLineEvents$Belt;)V"⟩, 17), (⟨"SortLineEvents", "loadWith", "(LSortLineEvents$Piece;LSortLineEvents$Belt;)D"⟩, 17), (⟨"SortLineEvents", "jamBy", "(LSortLineEvents$Piece;LSortLineEvents$Belt;)V"⟩, 17), (⟨"SortLineEvents", "passHeads", "(LSortLineEvents$Piece;LSortLineEvents$Belt;)V"⟩, 17), (⟨"SortLineEvents", "chance", "(II)D"⟩, 17), (⟨"SortLineEvents", "leave", "(LSortLineEvents$Piece;LSortLineEvents$Belt;)V"⟩, 17), (⟨"SortLineEvents", "takenByRobot", "(LSortLineEvents$Piece;LSortLineEvents$Belt;)Z"⟩, 17), (⟨"SortLineEvents", "takenByPicker", "(LSortLineEvents$Piece;LSortLineEvents$Belt;)Z"⟩, 17), (⟨"SortLineEvents", "fill", "(LSortLineEvents$Piece;LSortLineEvents$Bunker;)V"⟩, 17), (⟨"SortLineEvents", "onBelts", "()I"⟩, 17)]
theorem lw_r1 : ∀ q ∈ lw_privs_1, lw_okq q := List.forall_mem_cons.mpr ⟨lw_p0, List.forall_mem_cons.mpr ⟨lw_p1, List.forall_mem_cons.mpr ⟨lw_p2, List.forall_mem_cons.mpr ⟨lw_p3, List.forall_mem_cons.mpr ⟨lw_p4, List.forall_mem_cons.mpr ⟨lw_p5, List.forall_mem_cons.mpr ⟨lw_p6, List.forall_mem_cons.mpr ⟨lw_p7, List.forall_mem_cons.mpr ⟨lw_p8, List.forall_mem_cons.mpr ⟨lw_p9, List.forall_mem_cons.mpr ⟨lw_p10, List.forall_mem_cons.mpr ⟨lw_p11, List.forall_mem_cons.mpr ⟨lw_p12, List.forall_mem_cons.mpr ⟨lw_p13, List.forall_mem_cons.mpr ⟨lw_p14, List.forall_mem_cons.mpr ⟨lw_p15, fun _ h => absurd h List.not_mem_nil⟩⟩⟩⟩⟩⟩⟩⟩⟩⟩⟩⟩⟩⟩⟩⟩
theorem lw_p16 : lw_okq (⟨"SortLineEventsModel", "isOpen", "()Z"⟩, 45) := ⟨⟨by decide +kernel, by decide +kernel⟩, List.mem_of_getElem? (i := 493) (by decide +kernel), List.mem_of_getElem? (i := 646) (by decide +kernel), List.mem_of_getElem? (i := 647) (by decide +kernel)⟩
theorem lw_p17 : lw_okq (⟨"SortLineEventsModel", "isBelt", "(I)Z"⟩, 45) := ⟨⟨by decide +kernel, by decide +kernel⟩, List.mem_of_getElem? (i := 493) (by decide +kernel), List.mem_of_getElem? (i := 654) (by decide +kernel), List.mem_of_getElem? (i := 655) (by decide +kernel)⟩
theorem lw_p18 : lw_okq (⟨"SortLineEventsModel", "tenth", "()V"⟩, 45) := ⟨⟨by decide +kernel, by decide +kernel⟩, List.mem_of_getElem? (i := 493) (by decide +kernel), List.mem_of_getElem? (i := 690) (by decide +kernel), List.mem_of_getElem? (i := 691) (by decide +kernel)⟩
theorem lw_p19 : lw_okq (⟨"SortLineEventsModel", "enter", "(II)V"⟩, 45) := ⟨⟨by decide +kernel, by decide +kernel⟩, List.mem_of_getElem? (i := 493) (by decide +kernel), List.mem_of_getElem? (i := 694) (by decide +kernel), List.mem_of_getElem? (i := 695) (by decide +kernel)⟩
theorem lw_p20 : lw_okq (⟨"SortLineEventsModel", "lose", "(IIII)V"⟩, 45) := ⟨⟨by decide +kernel, by decide +kernel⟩, List.mem_of_getElem? (i := 493) (by decide +kernel), List.mem_of_getElem? (i := 698) (by decide +kernel), List.mem_of_getElem? (i := 699) (by decide +kernel)⟩
theorem lw_p21 : lw_okq (⟨"SortLineEventsModel", "note", "(III)V"⟩, 45) := ⟨⟨by decide +kernel, by decide +kernel⟩, List.mem_of_getElem? (i := 493) (by decide +kernel), List.mem_of_getElem? (i := 702) (by decide +kernel), List.mem_of_getElem? (i := 703) (by decide +kernel)⟩
theorem lw_p22 : lw_okq (⟨"SortLineEventsModel", "sizesOn", "(II)D"⟩, 45) := ⟨⟨by decide +kernel, by decide +kernel⟩, List.mem_of_getElem? (i := 493) (by decide +kernel), List.mem_of_getElem? (i := 706) (by decide +kernel), List.mem_of_getElem? (i := 707) (by decide +kernel)⟩
theorem lw_p23 : lw_okq (⟨"SortLineEventsModel", "piecesOn", "(I)I"⟩, 45) := ⟨⟨by decide +kernel, by decide +kernel⟩, List.mem_of_getElem? (i := 493) (by decide +kernel), List.mem_of_getElem? (i := 710) (by decide +kernel), List.mem_of_getElem? (i := 711) (by decide +kernel)⟩
theorem lw_p24 : lw_okq (⟨"SortLineEventsModel", "pass", "(I)V"⟩, 45) := ⟨⟨by decide +kernel, by decide +kernel⟩, List.mem_of_getElem? (i := 493) (by decide +kernel), List.mem_of_getElem? (i := 714) (by decide +kernel), List.mem_of_getElem? (i := 715) (by decide +kernel)⟩
theorem lw_p25 : lw_okq (⟨"SortLineEventsModel", "chance", "(II)D"⟩, 45) := ⟨⟨by decide +kernel, by decide +kernel⟩, List.mem_of_getElem? (i := 493) (by decide +kernel), List.mem_of_getElem? (i := 718) (by decide +kernel), List.mem_of_getElem? (i := 719) (by decide +kernel)⟩
theorem lw_p26 : lw_okq (⟨"SortLineEventsModel", "isTaken", "(I)Z"⟩, 45) := ⟨⟨by decide +kernel, by decide +kernel⟩, List.mem_of_getElem? (i := 493) (by decide +kernel), List.mem_of_getElem? (i := 727) (by decide +kernel), List.mem_of_getElem? (i := 728) (by decide +kernel)⟩
theorem lw_p27 : lw_okq (⟨"SortLineEventsModel", "goOn", "(I)V"⟩, 45) := ⟨⟨by decide +kernel, by decide +kernel⟩, List.mem_of_getElem? (i := 493) (by decide +kernel), List.mem_of_getElem? (i := 731) (by decide +kernel), List.mem_of_getElem? (i := 732) (by decide +kernel)⟩
theorem lw_p28 : lw_okq (⟨"SortLineEventsModel", "goOut", "(I)V"⟩, 45) := ⟨⟨by decide +kernel, by decide +kernel⟩, List.mem_of_getElem? (i := 493) (by decide +kernel), List.mem_of_getElem? (i := 735) (by decide +kernel), List.mem_of_getElem? (i := 736) (by decide +kernel)⟩
theorem lw_p29 : lw_okq (⟨"SortLineEventsModel", "isKind", "(II)Z"⟩, 45) := ⟨⟨by decide +kernel, by decide +kernel⟩, List.mem_of_getElem? (i := 493) (by decide +kernel), List.mem_of_getElem? (i := 747) (by decide +kernel), List.mem_of_getElem? (i := 748) (by decide +kernel)⟩
theorem lw_p30 : lw_okq (⟨"SortLineEventsModel", "count", "(I)I"⟩, 45) := ⟨⟨by decide +kernel, by decide +kernel⟩, List.mem_of_getElem? (i := 493) (by decide +kernel), List.mem_of_getElem? (i := 756) (by decide +kernel), List.mem_of_getElem? (i := 757) (by decide +kernel)⟩
def lw_privs_2 : List (MethodName × Nat) := [(⟨"SortLineEventsModel", "isOpen", "()Z"⟩, 45), (⟨"SortLineEventsModel", "isBelt", "(I)Z"⟩, 45), (⟨"SortLineEventsModel", "tenth", "()V"⟩, 45), (⟨"SortLineEventsModel", "enter", "(II)V"⟩, 45), (⟨"SortLineEventsModel", "lose", "(IIII)V"⟩, 45), (⟨"SortLineEventsModel", "note", "(III)V"⟩, 45), (⟨"SortLineEventsModel", "sizesOn", "(II)D"⟩, 45), (⟨"SortLineEventsModel", "piecesOn", "(I)I"⟩, 45), (⟨"SortLineEventsModel", "pass", "(I)V"⟩, 45), (⟨"SortLineEventsModel", "chance", "(II)D"⟩, 45), (⟨"SortLineEventsModel", "isTaken", "(I)Z"⟩, 45), (⟨"SortLineEventsModel", "goOn", "(I)V"⟩, 45), (⟨"SortLineEventsModel", "goOut", "(I)V"⟩, 45), (⟨"SortLineEventsModel", "isKind", "(II)Z"⟩, 45), (⟨"SortLineEventsModel", "count", "(I)I"⟩, 45)]
theorem lw_r2 : ∀ q ∈ lw_privs_2, lw_okq q := List.forall_mem_cons.mpr ⟨lw_p16, List.forall_mem_cons.mpr ⟨lw_p17, List.forall_mem_cons.mpr ⟨lw_p18, List.forall_mem_cons.mpr ⟨lw_p19, List.forall_mem_cons.mpr ⟨lw_p20, List.forall_mem_cons.mpr ⟨lw_p21, List.forall_mem_cons.mpr ⟨lw_p22, List.forall_mem_cons.mpr ⟨lw_p23, List.forall_mem_cons.mpr ⟨lw_p24, List.forall_mem_cons.mpr ⟨lw_p25, List.forall_mem_cons.mpr ⟨lw_p26, List.forall_mem_cons.mpr ⟨lw_p27, List.forall_mem_cons.mpr ⟨lw_p28, List.forall_mem_cons.mpr ⟨lw_p29, List.forall_mem_cons.mpr ⟨lw_p30, fun _ h => absurd h List.not_mem_nil⟩⟩⟩⟩⟩⟩⟩⟩⟩⟩⟩⟩⟩⟩⟩
def lw_privs : List (MethodName × Nat) := lw_privs_1 ++ (lw_privs_2)
def lw_tbl : List Cond := k2_sels lw_privs ++ tables_1
theorem lw_privs_ok : ∀ q ∈ lw_privs, lw_okq q := by
  show ∀ q ∈ lw_privs_1 ++ (lw_privs_2), lw_okq q
  exact List.forall_mem_append.mpr ⟨lw_r1, lw_r2⟩
end
section
def RX0 : String := "SortLineEvents$Belt"
def TX0 : u_T := fun k => match k with
  | 0 => ("SortLineEvents$Belt", "number", "I", true)
  | 1 => ("SortLineEvents$Belt", "tenths", "I", true)
  | 2 => ("SortLineEvents$Belt", "length", "D", true)
  | 3 => ("SortLineEvents$Belt", "outs", "[LSortLineEvents$Outs;", true)
  | 4 => ("SortLineEvents$Belt", "nextBelt", "LSortLineEvents$Belt;", false)
  | 5 => ("SortLineEvents$Belt", "nextBunker", "LSortLineEvents$Bunker;", false)
  | 6 => ("SortLineEvents$Belt", "hasRule", "Z", false)
  | 7 => ("SortLineEvents$Belt", "load", "D", false)
  | 8 => ("SortLineEvents$Belt", "stands", "I", false)
  | _ => ("SortLineEvents$Belt", "standsUntil", "I", false)
def tyX0 : Nat → FieldType := fun k => match k with
  | 0 => .int
  | 1 => .int
  | 2 => .double
  | 3 => .array (.object "SortLineEvents$Outs")
  | 4 => .object "SortLineEvents$Belt"
  | 5 => .object "SortLineEvents$Bunker"
  | 6 => .boolean
  | 7 => .double
  | 8 => .int
  | _ => .int
theorem nmX0 : ∀ a, a < 10 → ∀ b, b < 10 → a ≠ b → (TX0 a).2.1 ≠ (TX0 b).2.1 := by decide +kernel
theorem tyX0_ok : ∀ k, k < 10 → parseFieldDescriptor (TX0 k).2.2.1 = some (tyX0 k) := by decide +kernel
abbrev cX0_init : ByteArray := prog_2_method_1_code
def yX0_init : MethodName := ⟨RX0, "<init>", "(IID)V"⟩
abbrev cX0_placeOf : ByteArray := prog_2_method_2_code
def yX0_placeOf : MethodName := ⟨RX0, "placeOf", "(D)I"⟩
abbrev cX0_movesAt : ByteArray := prog_2_method_3_code
def yX0_movesAt : MethodName := ⟨RX0, "movesAt", "(I)Z"⟩
abbrev cX0_refusesAt : ByteArray := prog_2_method_4_code
def yX0_refusesAt : MethodName := ⟨RX0, "refusesAt", "(I)Z"⟩
def RX1 : String := "SortLineEvents$Bunker"
def TX1 : u_T := fun k => match k with
  | 0 => ("SortLineEvents$Bunker", "number", "I", true)
  | 1 => ("SortLineEvents$Bunker", "room", "D", true)
  | _ => ("SortLineEvents$Bunker", "filled", "D", false)
def tyX1 : Nat → FieldType := fun k => match k with
  | 0 => .int
  | 1 => .double
  | _ => .double
theorem nmX1 : ∀ a, a < 3 → ∀ b, b < 3 → a ≠ b → (TX1 a).2.1 ≠ (TX1 b).2.1 := by decide +kernel
theorem tyX1_ok : ∀ k, k < 3 → parseFieldDescriptor (TX1 k).2.2.1 = some (tyX1 k) := by decide +kernel
abbrev cX1_init : ByteArray := prog_3_method_1_code
def yX1_init : MethodName := ⟨RX1, "<init>", "(ID)V"⟩
def RX2 : String := "SortLineEvents$Head"
def TX2 : u_T := fun k => match k with
  | 0 => ("SortLineEvents$Head", "belt", "LSortLineEvents$Belt;", true)
  | 1 => ("SortLineEvents$Head", "place", "I", true)
  | _ => ("SortLineEvents$Head", "miss", "D", true)
def tyX2 : Nat → FieldType := fun k => match k with
  | 0 => .object "SortLineEvents$Belt"
  | 1 => .int
  | _ => .double
theorem nmX2 : ∀ a, a < 3 → ∀ b, b < 3 → a ≠ b → (TX2 a).2.1 ≠ (TX2 b).2.1 := by decide +kernel
theorem tyX2_ok : ∀ k, k < 3 → parseFieldDescriptor (TX2 k).2.2.1 = some (tyX2 k) := by decide +kernel
abbrev cX2_init : ByteArray := prog_4_method_1_code
def yX2_init : MethodName := ⟨RX2, "<init>", "(LSortLineEvents$Belt;ID)V"⟩
def RX3 : String := "SortLineEvents$Log"
def TX3 : u_T := fun k => match k with
  | 0 => ("SortLineEvents$Log", "rows", "[I", true)
  | _ => ("SortLineEvents$Log", "total", "I", false)
def tyX3 : Nat → FieldType := fun k => match k with
  | 0 => .array .int
  | _ => .int
theorem nmX3 : ∀ a, a < 2 → ∀ b, b < 2 → a ≠ b → (TX3 a).2.1 ≠ (TX3 b).2.1 := by decide +kernel
theorem tyX3_ok : ∀ k, k < 2 → parseFieldDescriptor (TX3 k).2.2.1 = some (tyX3 k) := by decide +kernel
abbrev cX3_init : ByteArray := prog_5_method_1_code
def yX3_init : MethodName := ⟨RX3, "<init>", "(I)V"⟩
abbrev cX3_add : ByteArray := prog_5_method_2_code
def yX3_add : MethodName := ⟨RX3, "add", "(IIII)V"⟩
abbrev cX3_part : ByteArray := prog_5_method_3_code
def yX3_part : MethodName := ⟨RX3, "part", "(II)I"⟩
def RX4 : String := "SortLineEvents$Outs"
def TX4 : u_T := fun k => match k with
  | 0 => ("SortLineEvents$Outs", "count", "I", false)
  | 1 => ("SortLineEvents$Outs", "lastTime", "I", false)
  | 2 => ("SortLineEvents$Outs", "leastGap", "I", false)
  | _ => ("SortLineEvents$Outs", "greatestGap", "I", false)
def tyX4 : Nat → FieldType := fun k => match k with
  | 0 => .int
  | 1 => .int
  | 2 => .int
  | _ => .int
theorem nmX4 : ∀ a, a < 4 → ∀ b, b < 4 → a ≠ b → (TX4 a).2.1 ≠ (TX4 b).2.1 := by decide +kernel
theorem tyX4_ok : ∀ k, k < 4 → parseFieldDescriptor (TX4 k).2.2.1 = some (tyX4 k) := by decide +kernel
abbrev cX4_init : ByteArray := prog_6_method_1_code
def yX4_init : MethodName := ⟨RX4, "<init>", "()V"⟩
abbrev cX4_add : ByteArray := prog_6_method_2_code
def yX4_add : MethodName := ⟨RX4, "add", "(I)V"⟩
def RX5 : String := "SortLineEvents$Picker"
def TX5 : u_T := fun k => match k with
  | 0 => ("SortLineEvents$Picker", "belt", "LSortLineEvents$Belt;", true)
  | 1 => ("SortLineEvents$Picker", "rate", "D", true)
  | 2 => ("SortLineEvents$Picker", "tires", "D", true)
  | 3 => ("SortLineEvents$Picker", "took", "I", false)
  | _ => ("SortLineEvents$Picker", "freeFrom", "I", false)
def tyX5 : Nat → FieldType := fun k => match k with
  | 0 => .object "SortLineEvents$Belt"
  | 1 => .double
  | 2 => .double
  | 3 => .int
  | _ => .int
theorem nmX5 : ∀ a, a < 5 → ∀ b, b < 5 → a ≠ b → (TX5 a).2.1 ≠ (TX5 b).2.1 := by decide +kernel
theorem tyX5_ok : ∀ k, k < 5 → parseFieldDescriptor (TX5 k).2.2.1 = some (tyX5 k) := by decide +kernel
abbrev cX5_init : ByteArray := prog_7_method_1_code
def yX5_init : MethodName := ⟨RX5, "<init>", "(LSortLineEvents$Belt;DD)V"⟩
abbrev cX5_take : ByteArray := prog_7_method_2_code
def yX5_take : MethodName := ⟨RX5, "take", "(I)V"⟩
def RX6 : String := "SortLineEvents$Piece"
def TX6 : u_T := fun k => match k with
  | 0 => ("SortLineEvents$Piece", "number", "I", true)
  | 1 => ("SortLineEvents$Piece", "firstBelt", "LSortLineEvents$Belt;", true)
  | 2 => ("SortLineEvents$Piece", "time", "I", true)
  | 3 => ("SortLineEvents$Piece", "kind", "I", true)
  | 4 => ("SortLineEvents$Piece", "size", "D", true)
  | 5 => ("SortLineEvents$Piece", "belt", "LSortLineEvents$Belt;", false)
  | 6 => ("SortLineEvents$Piece", "place", "I", false)
  | _ => ("SortLineEvents$Piece", "cameOn", "Z", false)
def tyX6 : Nat → FieldType := fun k => match k with
  | 0 => .int
  | 1 => .object "SortLineEvents$Belt"
  | 2 => .int
  | 3 => .int
  | 4 => .double
  | 5 => .object "SortLineEvents$Belt"
  | 6 => .int
  | _ => .boolean
theorem nmX6 : ∀ a, a < 8 → ∀ b, b < 8 → a ≠ b → (TX6 a).2.1 ≠ (TX6 b).2.1 := by decide +kernel
theorem tyX6_ok : ∀ k, k < 8 → parseFieldDescriptor (TX6 k).2.2.1 = some (tyX6 k) := by decide +kernel
abbrev cX6_init : ByteArray := prog_8_method_1_code
def yX6_init : MethodName := ⟨RX6, "<init>", "(ILSortLineEvents$Belt;IID)V"⟩
def RX7 : String := "SortLineEvents$Robot"
def TX7 : u_T := fun k => match k with
  | 0 => ("SortLineEvents$Robot", "belt", "LSortLineEvents$Belt;", true)
  | 1 => ("SortLineEvents$Robot", "reach", "D", true)
  | _ => ("SortLineEvents$Robot", "miss", "D", true)
def tyX7 : Nat → FieldType := fun k => match k with
  | 0 => .object "SortLineEvents$Belt"
  | 1 => .double
  | _ => .double
theorem nmX7 : ∀ a, a < 3 → ∀ b, b < 3 → a ≠ b → (TX7 a).2.1 ≠ (TX7 b).2.1 := by decide +kernel
theorem tyX7_ok : ∀ k, k < 3 → parseFieldDescriptor (TX7 k).2.2.1 = some (tyX7 k) := by decide +kernel
abbrev cX7_init : ByteArray := prog_9_method_1_code
def yX7_init : MethodName := ⟨RX7, "<init>", "(LSortLineEvents$Belt;DD)V"⟩
def RX8 : String := "SortLineEvents$Tally"
def TX8 : u_T := fun k => match k with
  | 0 => ("SortLineEvents$Tally", "losses", "[J", true)
  | 1 => ("SortLineEvents$Tally", "inBunkers", "I", false)
  | 2 => ("SortLineEvents$Tally", "wentOut", "I", false)
  | _ => ("SortLineEvents$Tally", "taken", "I", false)
def tyX8 : Nat → FieldType := fun k => match k with
  | 0 => .array .long
  | 1 => .int
  | 2 => .int
  | _ => .int
theorem nmX8 : ∀ a, a < 4 → ∀ b, b < 4 → a ≠ b → (TX8 a).2.1 ≠ (TX8 b).2.1 := by decide +kernel
theorem tyX8_ok : ∀ k, k < 4 → parseFieldDescriptor (TX8 k).2.2.1 = some (tyX8 k) := by decide +kernel
abbrev cX8_init : ByteArray := prog_10_method_1_code
def yX8_init : MethodName := ⟨RX8, "<init>", "()V"⟩
abbrev cX8_atRest : ByteArray := prog_10_method_2_code
def yX8_atRest : MethodName := ⟨RX8, "atRest", "()J"⟩
def RX9 : String := "SortLineEvents"
def TX9 : u_T := fun k => match k with
  | 0 => ("SortLineEvents", "seed", "J", true)
  | 1 => ("SortLineEvents", "belts", "[LSortLineEvents$Belt;", true)
  | 2 => ("SortLineEvents", "heads", "[LSortLineEvents$Head;", true)
  | 3 => ("SortLineEvents", "bunkers", "[LSortLineEvents$Bunker;", true)
  | 4 => ("SortLineEvents", "pickers", "[LSortLineEvents$Picker;", true)
  | 5 => ("SortLineEvents", "robots", "[LSortLineEvents$Robot;", true)
  | 6 => ("SortLineEvents", "pieces", "[LSortLineEvents$Piece;", true)
  | 7 => ("SortLineEvents", "events", "LSortLineEvents$Log;", true)
  | 8 => ("SortLineEvents", "jams", "LSortLineEvents$Log;", true)
  | 9 => ("SortLineEvents", "tally", "LSortLineEvents$Tally;", true)
  | 10 => ("SortLineEvents", "beltCount", "I", false)
  | 11 => ("SortLineEvents", "headCount", "I", false)
  | 12 => ("SortLineEvents", "bunkerCount", "I", false)
  | 13 => ("SortLineEvents", "pickerCount", "I", false)
  | 14 => ("SortLineEvents", "robotCount", "I", false)
  | 15 => ("SortLineEvents", "pieceCount", "I", false)
  | _ => ("SortLineEvents", "now", "I", false)
def tyX9 : Nat → FieldType := fun k => match k with
  | 0 => .long
  | 1 => .array (.object "SortLineEvents$Belt")
  | 2 => .array (.object "SortLineEvents$Head")
  | 3 => .array (.object "SortLineEvents$Bunker")
  | 4 => .array (.object "SortLineEvents$Picker")
  | 5 => .array (.object "SortLineEvents$Robot")
  | 6 => .array (.object "SortLineEvents$Piece")
  | 7 => .object "SortLineEvents$Log"
  | 8 => .object "SortLineEvents$Log"
  | 9 => .object "SortLineEvents$Tally"
  | 10 => .int
  | 11 => .int
  | 12 => .int
  | 13 => .int
  | 14 => .int
  | 15 => .int
  | _ => .int
theorem nmX9 : ∀ a, a < 17 → ∀ b, b < 17 → a ≠ b → (TX9 a).2.1 ≠ (TX9 b).2.1 := by decide +kernel
theorem tyX9_ok : ∀ k, k < 17 → parseFieldDescriptor (TX9 k).2.2.1 = some (tyX9 k) := by decide +kernel
abbrev cX9_init : ByteArray := prog_1_method_1_code
def yX9_init : MethodName := ⟨RX9, "<init>", "(J)V"⟩
abbrev cX9_belt : ByteArray := prog_1_method_2_code
def yX9_belt : MethodName := ⟨RX9, "belt", "(ID)I"⟩
abbrev cX9_head : ByteArray := prog_1_method_3_code
def yX9_head : MethodName := ⟨RX9, "head", "(IDD)I"⟩
abbrev cX9_bunker : ByteArray := prog_1_method_4_code
def yX9_bunker : MethodName := ⟨RX9, "bunker", "(D)I"⟩
abbrev cX9_joinTo : ByteArray := prog_1_method_5_code
def yX9_joinTo : MethodName := ⟨RX9, "joinTo", "(II)Z"⟩
abbrev cX9_rule : ByteArray := prog_1_method_6_code
def yX9_rule : MethodName := ⟨RX9, "rule", "(IDI)Z"⟩
abbrev cX9_picker : ByteArray := prog_1_method_7_code
def yX9_picker : MethodName := ⟨RX9, "picker", "(IDD)I"⟩
abbrev cX9_robot : ByteArray := prog_1_method_8_code
def yX9_robot : MethodName := ⟨RX9, "robot", "(IDD)I"⟩
abbrev cX9_feed : ByteArray := prog_1_method_9_code
def yX9_feed : MethodName := ⟨RX9, "feed", "(IIID)Z"⟩
abbrev cX9_run : ByteArray := prog_1_method_10_code
def yX9_run : MethodName := ⟨RX9, "run", "(I)I"⟩
abbrev cX9_event : ByteArray := prog_1_method_11_code
def yX9_event : MethodName := ⟨RX9, "event", "(II)I"⟩
abbrev cX9_out : ByteArray := prog_1_method_12_code
def yX9_out : MethodName := ⟨RX9, "out", "(II)J"⟩
abbrev cX9_inside : ByteArray := prog_1_method_13_code
def yX9_inside : MethodName := ⟨RX9, "inside", "()J"⟩
abbrev cX9_jam : ByteArray := prog_1_method_14_code
def yX9_jam : MethodName := ⟨RX9, "jam", "(II)I"⟩
abbrev cX9_lost : ByteArray := prog_1_method_15_code
def yX9_lost : MethodName := ⟨RX9, "lost", "(I)J"⟩
abbrev cX9_interval : ByteArray := prog_1_method_16_code
def yX9_interval : MethodName := ⟨RX9, "interval", "(III)D"⟩
abbrev cX9_same : ByteArray := prog_1_method_17_code
def yX9_same : MethodName := ⟨RX9, "same", "()Z"⟩
abbrev cX9_pieceKind : ByteArray := prog_1_method_18_code
def yX9_pieceKind : MethodName := ⟨RX9, "pieceKind", "(J)I"⟩
abbrev cX9_isClosed : ByteArray := prog_1_method_19_code
def yX9_isClosed : MethodName := ⟨RX9, "isClosed", "()Z"⟩
abbrev cX9_within : ByteArray := prog_1_method_20_code
def yX9_within : MethodName := ⟨RX9, "within", "(DDD)Z"⟩
abbrev cX9_isKind : ByteArray := prog_1_method_21_code
def yX9_isKind : MethodName := ⟨RX9, "isKind", "(I)Z"⟩
abbrev cX9_beltNumbered : ByteArray := prog_1_method_22_code
def yX9_beltNumbered : MethodName := ⟨RX9, "beltNumbered", "(I)LSortLineEvents$Belt;"⟩
abbrev cX9_bunkerJoinedBy : ByteArray := prog_1_method_23_code
def yX9_bunkerJoinedBy : MethodName := ⟨RX9, "bunkerJoinedBy", "(I)LSortLineEvents$Bunker;"⟩
abbrev cX9_onBelts : ByteArray := prog_1_method_24_code
def yX9_onBelts : MethodName := ⟨RX9, "onBelts", "()I"⟩
abbrev cX9_passOneTenth : ByteArray := prog_1_method_25_code
def yX9_passOneTenth : MethodName := ⟨RX9, "passOneTenth", "()V"⟩
abbrev cX9_comeOn : ByteArray := prog_1_method_26_code
def yX9_comeOn : MethodName := ⟨RX9, "comeOn", "(LSortLineEvents$Piece;)V"⟩
abbrev cX9_act : ByteArray := prog_1_method_27_code
def yX9_act : MethodName := ⟨RX9, "act", "(LSortLineEvents$Piece;)V"⟩
abbrev cX9_enter : ByteArray := prog_1_method_28_code
def yX9_enter : MethodName := ⟨RX9, "enter", "(LSortLineEvents$Piece;LSortLineEvents$Belt;)V"⟩
abbrev cX9_loadWith : ByteArray := prog_1_method_29_code
def yX9_loadWith : MethodName := ⟨RX9, "loadWith", "(LSortLineEvents$Piece;LSortLineEvents$Belt;)D"⟩
abbrev cX9_jamBy : ByteArray := prog_1_method_30_code
def yX9_jamBy : MethodName := ⟨RX9, "jamBy", "(LSortLineEvents$Piece;LSortLineEvents$Belt;)V"⟩
abbrev cX9_passHeads : ByteArray := prog_1_method_31_code
def yX9_passHeads : MethodName := ⟨RX9, "passHeads", "(LSortLineEvents$Piece;LSortLineEvents$Belt;)V"⟩
abbrev cX9_leave : ByteArray := prog_1_method_32_code
def yX9_leave : MethodName := ⟨RX9, "leave", "(LSortLineEvents$Piece;LSortLineEvents$Belt;)V"⟩
abbrev cX9_takenByRobot : ByteArray := prog_1_method_33_code
def yX9_takenByRobot : MethodName := ⟨RX9, "takenByRobot", "(LSortLineEvents$Piece;LSortLineEvents$Belt;)Z"⟩
abbrev cX9_takenByPicker : ByteArray := prog_1_method_34_code
def yX9_takenByPicker : MethodName := ⟨RX9, "takenByPicker", "(LSortLineEvents$Piece;LSortLineEvents$Belt;)Z"⟩
abbrev cX9_fill : ByteArray := prog_1_method_35_code
def yX9_fill : MethodName := ⟨RX9, "fill", "(LSortLineEvents$Piece;LSortLineEvents$Bunker;)V"⟩
abbrev cX9_chance : ByteArray := prog_1_method_36_code
def yX9_chance : MethodName := ⟨RX9, "chance", "(II)D"⟩
def RX10 : String := "SortLineEventsModel"
def TX10 : u_T := fun k => match k with
  | 0 => ("SortLineEventsModel", "seed", "J", true)
  | 1 => ("SortLineEventsModel", "belts", "I", false)
  | 2 => ("SortLineEventsModel", "tenths", "[I", true)
  | 3 => ("SortLineEventsModel", "lengths", "[D", true)
  | 4 => ("SortLineEventsModel", "joins", "[I", true)
  | 5 => ("SortLineEventsModel", "ruled", "[Z", true)
  | 6 => ("SortLineEventsModel", "loads", "[D", true)
  | 7 => ("SortLineEventsModel", "stands", "[I", true)
  | 8 => ("SortLineEventsModel", "standing", "[I", true)
  | 9 => ("SortLineEventsModel", "heads", "I", false)
  | 10 => ("SortLineEventsModel", "headBelt", "[I", true)
  | 11 => ("SortLineEventsModel", "headPlace", "[I", true)
  | 12 => ("SortLineEventsModel", "headMiss", "[D", true)
  | 13 => ("SortLineEventsModel", "bunkers", "I", false)
  | 14 => ("SortLineEventsModel", "rooms", "[D", true)
  | 15 => ("SortLineEventsModel", "filled", "[D", true)
  | 16 => ("SortLineEventsModel", "robots", "I", false)
  | 17 => ("SortLineEventsModel", "robotBelt", "[I", true)
  | 18 => ("SortLineEventsModel", "reaches", "[D", true)
  | 19 => ("SortLineEventsModel", "robotMiss", "[D", true)
  | 20 => ("SortLineEventsModel", "pickers", "I", false)
  | 21 => ("SortLineEventsModel", "pickerBelt", "[I", true)
  | 22 => ("SortLineEventsModel", "rates", "[D", true)
  | 23 => ("SortLineEventsModel", "tires", "[D", true)
  | 24 => ("SortLineEventsModel", "busy", "[I", true)
  | 25 => ("SortLineEventsModel", "took", "[I", true)
  | 26 => ("SortLineEventsModel", "pieces", "I", false)
  | 27 => ("SortLineEventsModel", "kinds", "[I", true)
  | 28 => ("SortLineEventsModel", "sizes", "[D", true)
  | 29 => ("SortLineEventsModel", "enters", "[I", true)
  | 30 => ("SortLineEventsModel", "firstBelt", "[I", true)
  | 31 => ("SortLineEventsModel", "states", "[I", true)
  | 32 => ("SortLineEventsModel", "belt", "[I", true)
  | 33 => ("SortLineEventsModel", "place", "[I", true)
  | 34 => ("SortLineEventsModel", "moved", "[Z", true)
  | 35 => ("SortLineEventsModel", "now", "I", false)
  | 36 => ("SortLineEventsModel", "total", "I", false)
  | 37 => ("SortLineEventsModel", "events", "[I", true)
  | 38 => ("SortLineEventsModel", "jams", "I", false)
  | 39 => ("SortLineEventsModel", "jamRows", "[I", true)
  | 40 => ("SortLineEventsModel", "lost", "[J", true)
  | 41 => ("SortLineEventsModel", "outs", "[I", true)
  | 42 => ("SortLineEventsModel", "lastOut", "[I", true)
  | 43 => ("SortLineEventsModel", "leastGap", "[I", true)
  | _ => ("SortLineEventsModel", "greatestGap", "[I", true)
def tyX10 : Nat → FieldType := fun k => match k with
  | 0 => .long
  | 1 => .int
  | 2 => .array .int
  | 3 => .array .double
  | 4 => .array .int
  | 5 => .array .boolean
  | 6 => .array .double
  | 7 => .array .int
  | 8 => .array .int
  | 9 => .int
  | 10 => .array .int
  | 11 => .array .int
  | 12 => .array .double
  | 13 => .int
  | 14 => .array .double
  | 15 => .array .double
  | 16 => .int
  | 17 => .array .int
  | 18 => .array .double
  | 19 => .array .double
  | 20 => .int
  | 21 => .array .int
  | 22 => .array .double
  | 23 => .array .double
  | 24 => .array .int
  | 25 => .array .int
  | 26 => .int
  | 27 => .array .int
  | 28 => .array .double
  | 29 => .array .int
  | 30 => .array .int
  | 31 => .array .int
  | 32 => .array .int
  | 33 => .array .int
  | 34 => .array .boolean
  | 35 => .int
  | 36 => .int
  | 37 => .array .int
  | 38 => .int
  | 39 => .array .int
  | 40 => .array .long
  | 41 => .array .int
  | 42 => .array .int
  | 43 => .array .int
  | _ => .array .int
theorem nmX10 : ∀ a, a < 45 → ∀ b, b < 45 → a ≠ b → (TX10 a).2.1 ≠ (TX10 b).2.1 := by decide +kernel
theorem tyX10_ok : ∀ k, k < 45 → parseFieldDescriptor (TX10 k).2.2.1 = some (tyX10 k) := by decide +kernel
abbrev cX10_init : ByteArray := prog_12_method_1_code
def yX10_init : MethodName := ⟨RX10, "<init>", "(J)V"⟩
abbrev cX10_isIn : ByteArray := prog_12_method_3_code
def yX10_isIn : MethodName := ⟨RX10, "isIn", "(DDD)Z"⟩
abbrev cX10_isBelt : ByteArray := prog_12_method_4_code
def yX10_isBelt : MethodName := ⟨RX10, "isBelt", "(I)Z"⟩
abbrev cX10_isOpen : ByteArray := prog_12_method_5_code
def yX10_isOpen : MethodName := ⟨RX10, "isOpen", "()Z"⟩
abbrev cX10_belt : ByteArray := prog_12_method_6_code
def yX10_belt : MethodName := ⟨RX10, "belt", "(ID)I"⟩
abbrev cX10_head : ByteArray := prog_12_method_7_code
def yX10_head : MethodName := ⟨RX10, "head", "(IDD)I"⟩
abbrev cX10_bunker : ByteArray := prog_12_method_8_code
def yX10_bunker : MethodName := ⟨RX10, "bunker", "(D)I"⟩
abbrev cX10_joinTo : ByteArray := prog_12_method_9_code
def yX10_joinTo : MethodName := ⟨RX10, "joinTo", "(II)Z"⟩
abbrev cX10_rule : ByteArray := prog_12_method_10_code
def yX10_rule : MethodName := ⟨RX10, "rule", "(IDI)Z"⟩
abbrev cX10_picker : ByteArray := prog_12_method_11_code
def yX10_picker : MethodName := ⟨RX10, "picker", "(IDD)I"⟩
abbrev cX10_robot : ByteArray := prog_12_method_12_code
def yX10_robot : MethodName := ⟨RX10, "robot", "(IDD)I"⟩
abbrev cX10_feed : ByteArray := prog_12_method_13_code
def yX10_feed : MethodName := ⟨RX10, "feed", "(IIID)Z"⟩
abbrev cX10_chance : ByteArray := prog_12_method_14_code
def yX10_chance : MethodName := ⟨RX10, "chance", "(II)D"⟩
abbrev cX10_note : ByteArray := prog_12_method_15_code
def yX10_note : MethodName := ⟨RX10, "note", "(III)V"⟩
abbrev cX10_lose : ByteArray := prog_12_method_16_code
def yX10_lose : MethodName := ⟨RX10, "lose", "(IIII)V"⟩
abbrev cX10_sizesOn : ByteArray := prog_12_method_17_code
def yX10_sizesOn : MethodName := ⟨RX10, "sizesOn", "(II)D"⟩
abbrev cX10_piecesOn : ByteArray := prog_12_method_18_code
def yX10_piecesOn : MethodName := ⟨RX10, "piecesOn", "(I)I"⟩
abbrev cX10_enter : ByteArray := prog_12_method_19_code
def yX10_enter : MethodName := ⟨RX10, "enter", "(II)V"⟩
abbrev cX10_pass : ByteArray := prog_12_method_20_code
def yX10_pass : MethodName := ⟨RX10, "pass", "(I)V"⟩
abbrev cX10_isTaken : ByteArray := prog_12_method_21_code
def yX10_isTaken : MethodName := ⟨RX10, "isTaken", "(I)Z"⟩
abbrev cX10_goOn : ByteArray := prog_12_method_22_code
def yX10_goOn : MethodName := ⟨RX10, "goOn", "(I)V"⟩
abbrev cX10_goOut : ByteArray := prog_12_method_23_code
def yX10_goOut : MethodName := ⟨RX10, "goOut", "(I)V"⟩
abbrev cX10_tenth : ByteArray := prog_12_method_24_code
def yX10_tenth : MethodName := ⟨RX10, "tenth", "()V"⟩
abbrev cX10_run : ByteArray := prog_12_method_25_code
def yX10_run : MethodName := ⟨RX10, "run", "(I)I"⟩
abbrev cX10_event : ByteArray := prog_12_method_26_code
def yX10_event : MethodName := ⟨RX10, "event", "(II)I"⟩
abbrev cX10_isKind : ByteArray := prog_12_method_27_code
def yX10_isKind : MethodName := ⟨RX10, "isKind", "(II)Z"⟩
abbrev cX10_out : ByteArray := prog_12_method_28_code
def yX10_out : MethodName := ⟨RX10, "out", "(II)J"⟩
abbrev cX10_count : ByteArray := prog_12_method_29_code
def yX10_count : MethodName := ⟨RX10, "count", "(I)I"⟩
abbrev cX10_inside : ByteArray := prog_12_method_30_code
def yX10_inside : MethodName := ⟨RX10, "inside", "()J"⟩
abbrev cX10_jam : ByteArray := prog_12_method_31_code
def yX10_jam : MethodName := ⟨RX10, "jam", "(II)I"⟩
abbrev cX10_lost : ByteArray := prog_12_method_32_code
def yX10_lost : MethodName := ⟨RX10, "lost", "(I)J"⟩
abbrev cX10_interval : ByteArray := prog_12_method_33_code
def yX10_interval : MethodName := ⟨RX10, "interval", "(III)D"⟩
abbrev cX10_same : ByteArray := prog_12_method_34_code
def yX10_same : MethodName := ⟨RX10, "same", "()Z"⟩
abbrev cX10_pieceKind : ByteArray := prog_12_method_35_code
def yX10_pieceKind : MethodName := ⟨RX10, "pieceKind", "(J)I"⟩
def TJ9 : u_T := fun k => match k with
  | _ => ("", "", "", false)
def tyJ9 : Nat → FieldType := fun k => match k with
  | _ => .int
def RL : String := "SortLineEventsLaw"
abbrev cL_cell : ByteArray := method_2_code
def yL_cell : MethodName := ⟨RL, "cell", "([II)I"⟩
abbrev cL_law : ByteArray := code
def yL_law : MethodName := ⟨RL, "law", "([I)Z"⟩
abbrev vwCl : List vw_C := [(RX0, TX0, 10), (RX1, TX1, 3), (RX2, TX2, 3), (RX3, TX3, 2), (RX4, TX4, 4), (RX5, TX5, 5), (RX6, TX6, 8), (RX7, TX7, 3), (RX8, TX8, 4), (RX9, TX9, 17), (RX10, TX10, 45)]
end
section
theorem dX0_init_0 : decode cX0_init 0 = .ok (.aload_n 0, 1) := by decide +kernel
theorem dX0_init_1 : decode cX0_init 1 = .ok (.invokespecial 3, 3) := by decide +kernel
theorem dX0_init_4 : decode cX0_init 4 = .ok (.aload_n 0, 1) := by decide +kernel
theorem dX0_init_5 : decode cX0_init 5 = .ok (.iconst 5, 1) := by decide +kernel
theorem dX0_init_6 : decode cX0_init 6 = .ok (.anewarray 9, 3) := by decide +kernel
theorem dX0_init_9 : decode cX0_init 9 = .ok (.putfield 11, 3) := by decide +kernel
theorem dX0_init_12 : decode cX0_init 12 = .ok (.aload_n 0, 1) := by decide +kernel
theorem dX0_init_13 : decode cX0_init 13 = .ok (.iload_n 1, 1) := by decide +kernel
theorem dX0_init_14 : decode cX0_init 14 = .ok (.putfield 17, 3) := by decide +kernel
theorem dX0_init_17 : decode cX0_init 17 = .ok (.aload_n 0, 1) := by decide +kernel
theorem dX0_init_18 : decode cX0_init 18 = .ok (.iload_n 2, 1) := by decide +kernel
theorem dX0_init_19 : decode cX0_init 19 = .ok (.putfield 21, 3) := by decide +kernel
theorem dX0_init_22 : decode cX0_init 22 = .ok (.aload_n 0, 1) := by decide +kernel
theorem dX0_init_23 : decode cX0_init 23 = .ok (.dload_n 3, 1) := by decide +kernel
theorem dX0_init_24 : decode cX0_init 24 = .ok (.putfield 24, 3) := by decide +kernel
theorem dX0_init_27 : decode cX0_init 27 = .ok (.iconst 0, 1) := by decide +kernel
theorem dX0_init_28 : decode cX0_init 28 = .ok (.istore 5, 2) := by decide +kernel
theorem dX0_init_30 : decode cX0_init 30 = .ok (.iload 5, 2) := by decide +kernel
theorem dX0_init_32 : decode cX0_init 32 = .ok (.iconst 5, 1) := by decide +kernel
theorem dX0_init_33 : decode cX0_init 33 = .ok (.if_icmp .ge 23, 3) := by decide +kernel
theorem dX0_init_36 : decode cX0_init 36 = .ok (.aload_n 0, 1) := by decide +kernel
theorem dX0_init_37 : decode cX0_init 37 = .ok (.getfield 11, 3) := by decide +kernel
theorem dX0_init_40 : decode cX0_init 40 = .ok (.iload 5, 2) := by decide +kernel
theorem dX0_init_42 : decode cX0_init 42 = .ok (.new 9, 3) := by decide +kernel
theorem dX0_init_45 : decode cX0_init 45 = .ok (.dup, 1) := by decide +kernel
theorem dX0_init_46 : decode cX0_init 46 = .ok (.invokespecial 28, 3) := by decide +kernel
theorem dX0_init_49 : decode cX0_init 49 = .ok (.aastore, 1) := by decide +kernel
theorem dX0_init_50 : decode cX0_init 50 = .ok (.iinc 5 1, 3) := by decide +kernel
theorem dX0_init_53 : decode cX0_init 53 = .ok (.goto (-23), 3) := by decide +kernel
theorem dX0_init_56 : decode cX0_init 56 = .ok (.return_, 1) := by decide +kernel
theorem dX0_placeOf_0 : decode cX0_placeOf 0 = .ok (.dload_n 1, 1) := by decide +kernel
theorem dX0_placeOf_1 : decode cX0_placeOf 1 = .ok (.aload_n 0, 1) := by decide +kernel
theorem dX0_placeOf_2 : decode cX0_placeOf 2 = .ok (.getfield 24, 3) := by decide +kernel
theorem dX0_placeOf_5 : decode cX0_placeOf 5 = .ok (.ddiv, 1) := by decide +kernel
theorem dX0_placeOf_6 : decode cX0_placeOf 6 = .ok (.aload_n 0, 1) := by decide +kernel
theorem dX0_placeOf_7 : decode cX0_placeOf 7 = .ok (.getfield 21, 3) := by decide +kernel
theorem dX0_placeOf_10 : decode cX0_placeOf 10 = .ok (.i2d, 1) := by decide +kernel
theorem dX0_placeOf_11 : decode cX0_placeOf 11 = .ok (.dmul, 1) := by decide +kernel
theorem dX0_placeOf_12 : decode cX0_placeOf 12 = .ok (.d2i, 1) := by decide +kernel
theorem dX0_placeOf_13 : decode cX0_placeOf 13 = .ok (.ireturn, 1) := by decide +kernel
theorem dX0_movesAt_0 : decode cX0_movesAt 0 = .ok (.iload_n 1, 1) := by decide +kernel
theorem dX0_movesAt_1 : decode cX0_movesAt 1 = .ok (.aload_n 0, 1) := by decide +kernel
theorem dX0_movesAt_2 : decode cX0_movesAt 2 = .ok (.getfield 29, 3) := by decide +kernel
theorem dX0_movesAt_5 : decode cX0_movesAt 5 = .ok (.if_icmp .le 7, 3) := by decide +kernel
theorem dX0_movesAt_8 : decode cX0_movesAt 8 = .ok (.iconst 1, 1) := by decide +kernel
theorem dX0_movesAt_9 : decode cX0_movesAt 9 = .ok (.goto 4, 3) := by decide +kernel
theorem dX0_movesAt_12 : decode cX0_movesAt 12 = .ok (.iconst 0, 1) := by decide +kernel
theorem dX0_movesAt_13 : decode cX0_movesAt 13 = .ok (.ireturn, 1) := by decide +kernel
theorem dX0_refusesAt_0 : decode cX0_refusesAt 0 = .ok (.iload_n 1, 1) := by decide +kernel
theorem dX0_refusesAt_1 : decode cX0_refusesAt 1 = .ok (.aload_n 0, 1) := by decide +kernel
theorem dX0_refusesAt_2 : decode cX0_refusesAt 2 = .ok (.getfield 29, 3) := by decide +kernel
theorem dX0_refusesAt_5 : decode cX0_refusesAt 5 = .ok (.if_icmp .ge 7, 3) := by decide +kernel
theorem dX0_refusesAt_8 : decode cX0_refusesAt 8 = .ok (.iconst 1, 1) := by decide +kernel
theorem dX0_refusesAt_9 : decode cX0_refusesAt 9 = .ok (.goto 4, 3) := by decide +kernel
theorem dX0_refusesAt_12 : decode cX0_refusesAt 12 = .ok (.iconst 0, 1) := by decide +kernel
theorem dX0_refusesAt_13 : decode cX0_refusesAt 13 = .ok (.ireturn, 1) := by decide +kernel
theorem dX1_init_0 : decode cX1_init 0 = .ok (.aload_n 0, 1) := by decide +kernel
theorem dX1_init_1 : decode cX1_init 1 = .ok (.invokespecial 1, 3) := by decide +kernel
theorem dX1_init_4 : decode cX1_init 4 = .ok (.aload_n 0, 1) := by decide +kernel
theorem dX1_init_5 : decode cX1_init 5 = .ok (.iload_n 1, 1) := by decide +kernel
theorem dX1_init_6 : decode cX1_init 6 = .ok (.putfield 7, 3) := by decide +kernel
theorem dX1_init_9 : decode cX1_init 9 = .ok (.aload_n 0, 1) := by decide +kernel
theorem dX1_init_10 : decode cX1_init 10 = .ok (.dload_n 2, 1) := by decide +kernel
theorem dX1_init_11 : decode cX1_init 11 = .ok (.putfield 13, 3) := by decide +kernel
theorem dX1_init_14 : decode cX1_init 14 = .ok (.return_, 1) := by decide +kernel
theorem dX2_init_0 : decode cX2_init 0 = .ok (.aload_n 0, 1) := by decide +kernel
theorem dX2_init_1 : decode cX2_init 1 = .ok (.invokespecial 1, 3) := by decide +kernel
theorem dX2_init_4 : decode cX2_init 4 = .ok (.aload_n 0, 1) := by decide +kernel
theorem dX2_init_5 : decode cX2_init 5 = .ok (.aload_n 1, 1) := by decide +kernel
theorem dX2_init_6 : decode cX2_init 6 = .ok (.putfield 7, 3) := by decide +kernel
theorem dX2_init_9 : decode cX2_init 9 = .ok (.aload_n 0, 1) := by decide +kernel
theorem dX2_init_10 : decode cX2_init 10 = .ok (.iload_n 2, 1) := by decide +kernel
theorem dX2_init_11 : decode cX2_init 11 = .ok (.putfield 13, 3) := by decide +kernel
theorem dX2_init_14 : decode cX2_init 14 = .ok (.aload_n 0, 1) := by decide +kernel
theorem dX2_init_15 : decode cX2_init 15 = .ok (.dload_n 3, 1) := by decide +kernel
theorem dX2_init_16 : decode cX2_init 16 = .ok (.putfield 17, 3) := by decide +kernel
theorem dX2_init_19 : decode cX2_init 19 = .ok (.return_, 1) := by decide +kernel
theorem dX3_init_0 : decode cX3_init 0 = .ok (.aload_n 0, 1) := by decide +kernel
theorem dX3_init_1 : decode cX3_init 1 = .ok (.invokespecial 3, 3) := by decide +kernel
theorem dX3_init_4 : decode cX3_init 4 = .ok (.aload_n 0, 1) := by decide +kernel
theorem dX3_init_5 : decode cX3_init 5 = .ok (.iload_n 1, 1) := by decide +kernel
theorem dX3_init_6 : decode cX3_init 6 = .ok (.newarray .int, 2) := by decide +kernel
theorem dX3_init_8 : decode cX3_init 8 = .ok (.putfield 9, 3) := by decide +kernel
theorem dX3_init_11 : decode cX3_init 11 = .ok (.return_, 1) := by decide +kernel
theorem dX3_add_0 : decode cX3_add 0 = .ok (.aload_n 0, 1) := by decide +kernel
theorem dX3_add_1 : decode cX3_add 1 = .ok (.getfield 15, 3) := by decide +kernel
theorem dX3_add_4 : decode cX3_add 4 = .ok (.aload_n 0, 1) := by decide +kernel
theorem dX3_add_5 : decode cX3_add 5 = .ok (.getfield 9, 3) := by decide +kernel
theorem dX3_add_8 : decode cX3_add 8 = .ok (.arraylength, 1) := by decide +kernel
theorem dX3_add_9 : decode cX3_add 9 = .ok (.if_icmp .ge 29, 3) := by decide +kernel
theorem dX3_add_12 : decode cX3_add 12 = .ok (.aload_n 0, 1) := by decide +kernel
theorem dX3_add_13 : decode cX3_add 13 = .ok (.getfield 9, 3) := by decide +kernel
theorem dX3_add_16 : decode cX3_add 16 = .ok (.aload_n 0, 1) := by decide +kernel
theorem dX3_add_17 : decode cX3_add 17 = .ok (.getfield 15, 3) := by decide +kernel
theorem dX3_add_20 : decode cX3_add 20 = .ok (.iload_n 1, 1) := by decide +kernel
theorem dX3_add_21 : decode cX3_add 21 = .ok (.bipush 16, 2) := by decide +kernel
theorem dX3_add_23 : decode cX3_add 23 = .ok (.ishl, 1) := by decide +kernel
theorem dX3_add_24 : decode cX3_add 24 = .ok (.iload_n 2, 1) := by decide +kernel
theorem dX3_add_25 : decode cX3_add 25 = .ok (.bipush 10, 2) := by decide +kernel
theorem dX3_add_27 : decode cX3_add 27 = .ok (.ishl, 1) := by decide +kernel
theorem dX3_add_28 : decode cX3_add 28 = .ok (.ior, 1) := by decide +kernel
theorem dX3_add_29 : decode cX3_add 29 = .ok (.iload_n 3, 1) := by decide +kernel
theorem dX3_add_30 : decode cX3_add 30 = .ok (.bipush 6, 2) := by decide +kernel
theorem dX3_add_32 : decode cX3_add 32 = .ok (.ishl, 1) := by decide +kernel
theorem dX3_add_33 : decode cX3_add 33 = .ok (.ior, 1) := by decide +kernel
theorem dX3_add_34 : decode cX3_add 34 = .ok (.iload 4, 2) := by decide +kernel
theorem dX3_add_36 : decode cX3_add 36 = .ok (.ior, 1) := by decide +kernel
theorem dX3_add_37 : decode cX3_add 37 = .ok (.iastore, 1) := by decide +kernel
theorem dX3_add_38 : decode cX3_add 38 = .ok (.aload_n 0, 1) := by decide +kernel
theorem dX3_add_39 : decode cX3_add 39 = .ok (.dup, 1) := by decide +kernel
theorem dX3_add_40 : decode cX3_add 40 = .ok (.getfield 15, 3) := by decide +kernel
theorem dX3_add_43 : decode cX3_add 43 = .ok (.iconst 1, 1) := by decide +kernel
theorem dX3_add_44 : decode cX3_add 44 = .ok (.iadd, 1) := by decide +kernel
theorem dX3_add_45 : decode cX3_add 45 = .ok (.putfield 15, 3) := by decide +kernel
theorem dX3_add_48 : decode cX3_add 48 = .ok (.return_, 1) := by decide +kernel
theorem dX3_part_0 : decode cX3_part 0 = .ok (.iload_n 1, 1) := by decide +kernel
theorem dX3_part_1 : decode cX3_part 1 = .ok (.ifCond .lt 20, 3) := by decide +kernel
theorem dX3_part_4 : decode cX3_part 4 = .ok (.iload_n 1, 1) := by decide +kernel
theorem dX3_part_5 : decode cX3_part 5 = .ok (.aload_n 0, 1) := by decide +kernel
theorem dX3_part_6 : decode cX3_part 6 = .ok (.getfield 15, 3) := by decide +kernel
theorem dX3_part_9 : decode cX3_part 9 = .ok (.if_icmp .ge 12, 3) := by decide +kernel
theorem dX3_part_12 : decode cX3_part 12 = .ok (.iload_n 1, 1) := by decide +kernel
theorem dX3_part_13 : decode cX3_part 13 = .ok (.aload_n 0, 1) := by decide +kernel
theorem dX3_part_14 : decode cX3_part 14 = .ok (.getfield 9, 3) := by decide +kernel
theorem dX3_part_17 : decode cX3_part 17 = .ok (.arraylength, 1) := by decide +kernel
theorem dX3_part_18 : decode cX3_part 18 = .ok (.if_icmp .lt 5, 3) := by decide +kernel
theorem dX3_part_21 : decode cX3_part 21 = .ok (.iconst (-1), 1) := by decide +kernel
theorem dX3_part_22 : decode cX3_part 22 = .ok (.ireturn, 1) := by decide +kernel
theorem dX3_part_23 : decode cX3_part 23 = .ok (.aload_n 0, 1) := by decide +kernel
theorem dX3_part_24 : decode cX3_part 24 = .ok (.getfield 9, 3) := by decide +kernel
theorem dX3_part_27 : decode cX3_part 27 = .ok (.iload_n 1, 1) := by decide +kernel
theorem dX3_part_28 : decode cX3_part 28 = .ok (.iaload, 1) := by decide +kernel
theorem dX3_part_29 : decode cX3_part 29 = .ok (.istore_n 3, 1) := by decide +kernel
theorem dX3_part_30 : decode cX3_part 30 = .ok (.iload_n 2, 1) := by decide +kernel
theorem dX3_part_31 : decode cX3_part 31 = .ok (.tableswitch 55 0 3 #[29, 34, 42, 50], 29) := by decide +kernel
theorem dX3_part_60 : decode cX3_part 60 = .ok (.iload_n 3, 1) := by decide +kernel
theorem dX3_part_61 : decode cX3_part 61 = .ok (.bipush 16, 2) := by decide +kernel
theorem dX3_part_63 : decode cX3_part 63 = .ok (.ishr, 1) := by decide +kernel
theorem dX3_part_64 : decode cX3_part 64 = .ok (.ireturn, 1) := by decide +kernel
theorem dX3_part_65 : decode cX3_part 65 = .ok (.iload_n 3, 1) := by decide +kernel
theorem dX3_part_66 : decode cX3_part 66 = .ok (.bipush 10, 2) := by decide +kernel
theorem dX3_part_68 : decode cX3_part 68 = .ok (.ishr, 1) := by decide +kernel
theorem dX3_part_69 : decode cX3_part 69 = .ok (.bipush 63, 2) := by decide +kernel
theorem dX3_part_71 : decode cX3_part 71 = .ok (.iand, 1) := by decide +kernel
theorem dX3_part_72 : decode cX3_part 72 = .ok (.ireturn, 1) := by decide +kernel
theorem dX3_part_73 : decode cX3_part 73 = .ok (.iload_n 3, 1) := by decide +kernel
theorem dX3_part_74 : decode cX3_part 74 = .ok (.bipush 6, 2) := by decide +kernel
theorem dX3_part_76 : decode cX3_part 76 = .ok (.ishr, 1) := by decide +kernel
theorem dX3_part_77 : decode cX3_part 77 = .ok (.bipush 15, 2) := by decide +kernel
theorem dX3_part_79 : decode cX3_part 79 = .ok (.iand, 1) := by decide +kernel
theorem dX3_part_80 : decode cX3_part 80 = .ok (.ireturn, 1) := by decide +kernel
theorem dX3_part_81 : decode cX3_part 81 = .ok (.iload_n 3, 1) := by decide +kernel
theorem dX3_part_82 : decode cX3_part 82 = .ok (.bipush 63, 2) := by decide +kernel
theorem dX3_part_84 : decode cX3_part 84 = .ok (.iand, 1) := by decide +kernel
theorem dX3_part_85 : decode cX3_part 85 = .ok (.ireturn, 1) := by decide +kernel
theorem dX3_part_86 : decode cX3_part 86 = .ok (.iconst (-1), 1) := by decide +kernel
theorem dX3_part_87 : decode cX3_part 87 = .ok (.ireturn, 1) := by decide +kernel
theorem dX4_init_0 : decode cX4_init 0 = .ok (.aload_n 0, 1) := by decide +kernel
theorem dX4_init_1 : decode cX4_init 1 = .ok (.invokespecial 1, 3) := by decide +kernel
theorem dX4_init_4 : decode cX4_init 4 = .ok (.return_, 1) := by decide +kernel
theorem dX4_add_0 : decode cX4_add 0 = .ok (.iload_n 1, 1) := by decide +kernel
theorem dX4_add_1 : decode cX4_add 1 = .ok (.aload_n 0, 1) := by decide +kernel
theorem dX4_add_2 : decode cX4_add 2 = .ok (.getfield 7, 3) := by decide +kernel
theorem dX4_add_5 : decode cX4_add 5 = .ok (.isub, 1) := by decide +kernel
theorem dX4_add_6 : decode cX4_add 6 = .ok (.istore_n 2, 1) := by decide +kernel
theorem dX4_add_7 : decode cX4_add 7 = .ok (.aload_n 0, 1) := by decide +kernel
theorem dX4_add_8 : decode cX4_add 8 = .ok (.getfield 13, 3) := by decide +kernel
theorem dX4_add_11 : decode cX4_add 11 = .ok (.iconst 1, 1) := by decide +kernel
theorem dX4_add_12 : decode cX4_add 12 = .ok (.if_icmp .ne 16, 3) := by decide +kernel
theorem dX4_add_15 : decode cX4_add 15 = .ok (.aload_n 0, 1) := by decide +kernel
theorem dX4_add_16 : decode cX4_add 16 = .ok (.iload_n 2, 1) := by decide +kernel
theorem dX4_add_17 : decode cX4_add 17 = .ok (.putfield 16, 3) := by decide +kernel
theorem dX4_add_20 : decode cX4_add 20 = .ok (.aload_n 0, 1) := by decide +kernel
theorem dX4_add_21 : decode cX4_add 21 = .ok (.iload_n 2, 1) := by decide +kernel
theorem dX4_add_22 : decode cX4_add 22 = .ok (.putfield 19, 3) := by decide +kernel
theorem dX4_add_25 : decode cX4_add 25 = .ok (.goto 35, 3) := by decide +kernel
theorem dX4_add_28 : decode cX4_add 28 = .ok (.aload_n 0, 1) := by decide +kernel
theorem dX4_add_29 : decode cX4_add 29 = .ok (.getfield 13, 3) := by decide +kernel
theorem dX4_add_32 : decode cX4_add 32 = .ok (.iconst 1, 1) := by decide +kernel
theorem dX4_add_33 : decode cX4_add 33 = .ok (.if_icmp .le 27, 3) := by decide +kernel
theorem dX4_add_36 : decode cX4_add 36 = .ok (.aload_n 0, 1) := by decide +kernel
theorem dX4_add_37 : decode cX4_add 37 = .ok (.aload_n 0, 1) := by decide +kernel
theorem dX4_add_38 : decode cX4_add 38 = .ok (.getfield 16, 3) := by decide +kernel
theorem dX4_add_41 : decode cX4_add 41 = .ok (.iload_n 2, 1) := by decide +kernel
theorem dX4_add_42 : decode cX4_add 42 = .ok (.invokestatic 22, 3) := by decide +kernel
theorem dX4_add_45 : decode cX4_add 45 = .ok (.putfield 16, 3) := by decide +kernel
theorem dX4_add_48 : decode cX4_add 48 = .ok (.aload_n 0, 1) := by decide +kernel
theorem dX4_add_49 : decode cX4_add 49 = .ok (.aload_n 0, 1) := by decide +kernel
theorem dX4_add_50 : decode cX4_add 50 = .ok (.getfield 19, 3) := by decide +kernel
theorem dX4_add_53 : decode cX4_add 53 = .ok (.iload_n 2, 1) := by decide +kernel
theorem dX4_add_54 : decode cX4_add 54 = .ok (.invokestatic 28, 3) := by decide +kernel
theorem dX4_add_57 : decode cX4_add 57 = .ok (.putfield 19, 3) := by decide +kernel
theorem dX4_add_60 : decode cX4_add 60 = .ok (.aload_n 0, 1) := by decide +kernel
theorem dX4_add_61 : decode cX4_add 61 = .ok (.iload_n 1, 1) := by decide +kernel
theorem dX4_add_62 : decode cX4_add 62 = .ok (.putfield 7, 3) := by decide +kernel
theorem dX4_add_65 : decode cX4_add 65 = .ok (.aload_n 0, 1) := by decide +kernel
theorem dX4_add_66 : decode cX4_add 66 = .ok (.dup, 1) := by decide +kernel
theorem dX4_add_67 : decode cX4_add 67 = .ok (.getfield 13, 3) := by decide +kernel
theorem dX4_add_70 : decode cX4_add 70 = .ok (.iconst 1, 1) := by decide +kernel
theorem dX4_add_71 : decode cX4_add 71 = .ok (.iadd, 1) := by decide +kernel
theorem dX4_add_72 : decode cX4_add 72 = .ok (.putfield 13, 3) := by decide +kernel
theorem dX4_add_75 : decode cX4_add 75 = .ok (.return_, 1) := by decide +kernel
theorem dX5_init_0 : decode cX5_init 0 = .ok (.aload_n 0, 1) := by decide +kernel
theorem dX5_init_1 : decode cX5_init 1 = .ok (.invokespecial 1, 3) := by decide +kernel
theorem dX5_init_4 : decode cX5_init 4 = .ok (.aload_n 0, 1) := by decide +kernel
theorem dX5_init_5 : decode cX5_init 5 = .ok (.aload_n 1, 1) := by decide +kernel
theorem dX5_init_6 : decode cX5_init 6 = .ok (.putfield 7, 3) := by decide +kernel
theorem dX5_init_9 : decode cX5_init 9 = .ok (.aload_n 0, 1) := by decide +kernel
theorem dX5_init_10 : decode cX5_init 10 = .ok (.dload_n 2, 1) := by decide +kernel
theorem dX5_init_11 : decode cX5_init 11 = .ok (.putfield 13, 3) := by decide +kernel
theorem dX5_init_14 : decode cX5_init 14 = .ok (.aload_n 0, 1) := by decide +kernel
theorem dX5_init_15 : decode cX5_init 15 = .ok (.dload 4, 2) := by decide +kernel
theorem dX5_init_17 : decode cX5_init 17 = .ok (.putfield 17, 3) := by decide +kernel
theorem dX5_init_20 : decode cX5_init 20 = .ok (.return_, 1) := by decide +kernel
theorem dX5_take_0 : decode cX5_take 0 = .ok (.aload_n 0, 1) := by decide +kernel
theorem dX5_take_1 : decode cX5_take 1 = .ok (.iload_n 1, 1) := by decide +kernel
theorem dX5_take_2 : decode cX5_take 2 = .ok (.iconst 1, 1) := by decide +kernel
theorem dX5_take_3 : decode cX5_take 3 = .ok (.iadd, 1) := by decide +kernel
theorem dX5_take_4 : decode cX5_take 4 = .ok (.ldc2_w 20, 3) := by decide +kernel
theorem dX5_take_7 : decode cX5_take 7 = .ok (.aload_n 0, 1) := by decide +kernel
theorem dX5_take_8 : decode cX5_take 8 = .ok (.getfield 13, 3) := by decide +kernel
theorem dX5_take_11 : decode cX5_take 11 = .ok (.ddiv, 1) := by decide +kernel
theorem dX5_take_12 : decode cX5_take 12 = .ok (.dconst 1, 1) := by decide +kernel
theorem dX5_take_13 : decode cX5_take 13 = .ok (.aload_n 0, 1) := by decide +kernel
theorem dX5_take_14 : decode cX5_take 14 = .ok (.getfield 17, 3) := by decide +kernel
theorem dX5_take_17 : decode cX5_take 17 = .ok (.aload_n 0, 1) := by decide +kernel
theorem dX5_take_18 : decode cX5_take 18 = .ok (.getfield 22, 3) := by decide +kernel
theorem dX5_take_21 : decode cX5_take 21 = .ok (.i2d, 1) := by decide +kernel
theorem dX5_take_22 : decode cX5_take 22 = .ok (.dmul, 1) := by decide +kernel
theorem dX5_take_23 : decode cX5_take 23 = .ok (.dadd, 1) := by decide +kernel
theorem dX5_take_24 : decode cX5_take 24 = .ok (.dmul, 1) := by decide +kernel
theorem dX5_take_25 : decode cX5_take 25 = .ok (.d2i, 1) := by decide +kernel
theorem dX5_take_26 : decode cX5_take 26 = .ok (.iadd, 1) := by decide +kernel
theorem dX5_take_27 : decode cX5_take 27 = .ok (.putfield 26, 3) := by decide +kernel
theorem dX5_take_30 : decode cX5_take 30 = .ok (.aload_n 0, 1) := by decide +kernel
theorem dX5_take_31 : decode cX5_take 31 = .ok (.dup, 1) := by decide +kernel
theorem dX5_take_32 : decode cX5_take 32 = .ok (.getfield 22, 3) := by decide +kernel
theorem dX5_take_35 : decode cX5_take 35 = .ok (.iconst 1, 1) := by decide +kernel
theorem dX5_take_36 : decode cX5_take 36 = .ok (.iadd, 1) := by decide +kernel
theorem dX5_take_37 : decode cX5_take 37 = .ok (.putfield 22, 3) := by decide +kernel
theorem dX5_take_40 : decode cX5_take 40 = .ok (.return_, 1) := by decide +kernel
theorem dX6_init_0 : decode cX6_init 0 = .ok (.aload_n 0, 1) := by decide +kernel
theorem dX6_init_1 : decode cX6_init 1 = .ok (.invokespecial 1, 3) := by decide +kernel
theorem dX6_init_4 : decode cX6_init 4 = .ok (.aload_n 0, 1) := by decide +kernel
theorem dX6_init_5 : decode cX6_init 5 = .ok (.iload_n 1, 1) := by decide +kernel
theorem dX6_init_6 : decode cX6_init 6 = .ok (.putfield 7, 3) := by decide +kernel
theorem dX6_init_9 : decode cX6_init 9 = .ok (.aload_n 0, 1) := by decide +kernel
theorem dX6_init_10 : decode cX6_init 10 = .ok (.aload_n 2, 1) := by decide +kernel
theorem dX6_init_11 : decode cX6_init 11 = .ok (.putfield 13, 3) := by decide +kernel
theorem dX6_init_14 : decode cX6_init 14 = .ok (.aload_n 0, 1) := by decide +kernel
theorem dX6_init_15 : decode cX6_init 15 = .ok (.iload_n 3, 1) := by decide +kernel
theorem dX6_init_16 : decode cX6_init 16 = .ok (.putfield 17, 3) := by decide +kernel
theorem dX6_init_19 : decode cX6_init 19 = .ok (.aload_n 0, 1) := by decide +kernel
theorem dX6_init_20 : decode cX6_init 20 = .ok (.iload 4, 2) := by decide +kernel
theorem dX6_init_22 : decode cX6_init 22 = .ok (.putfield 20, 3) := by decide +kernel
theorem dX6_init_25 : decode cX6_init 25 = .ok (.aload_n 0, 1) := by decide +kernel
theorem dX6_init_26 : decode cX6_init 26 = .ok (.dload 5, 2) := by decide +kernel
theorem dX6_init_28 : decode cX6_init 28 = .ok (.putfield 23, 3) := by decide +kernel
theorem dX6_init_31 : decode cX6_init 31 = .ok (.return_, 1) := by decide +kernel
theorem dX7_init_0 : decode cX7_init 0 = .ok (.aload_n 0, 1) := by decide +kernel
theorem dX7_init_1 : decode cX7_init 1 = .ok (.invokespecial 1, 3) := by decide +kernel
theorem dX7_init_4 : decode cX7_init 4 = .ok (.aload_n 0, 1) := by decide +kernel
theorem dX7_init_5 : decode cX7_init 5 = .ok (.aload_n 1, 1) := by decide +kernel
theorem dX7_init_6 : decode cX7_init 6 = .ok (.putfield 7, 3) := by decide +kernel
theorem dX7_init_9 : decode cX7_init 9 = .ok (.aload_n 0, 1) := by decide +kernel
theorem dX7_init_10 : decode cX7_init 10 = .ok (.dload_n 2, 1) := by decide +kernel
theorem dX7_init_11 : decode cX7_init 11 = .ok (.putfield 13, 3) := by decide +kernel
theorem dX7_init_14 : decode cX7_init 14 = .ok (.aload_n 0, 1) := by decide +kernel
theorem dX7_init_15 : decode cX7_init 15 = .ok (.dload 4, 2) := by decide +kernel
theorem dX7_init_17 : decode cX7_init 17 = .ok (.putfield 17, 3) := by decide +kernel
theorem dX7_init_20 : decode cX7_init 20 = .ok (.return_, 1) := by decide +kernel
theorem dX8_init_0 : decode cX8_init 0 = .ok (.aload_n 0, 1) := by decide +kernel
theorem dX8_init_1 : decode cX8_init 1 = .ok (.invokespecial 3, 3) := by decide +kernel
theorem dX8_init_4 : decode cX8_init 4 = .ok (.aload_n 0, 1) := by decide +kernel
theorem dX8_init_5 : decode cX8_init 5 = .ok (.iconst 4, 1) := by decide +kernel
theorem dX8_init_6 : decode cX8_init 6 = .ok (.newarray .long, 2) := by decide +kernel
theorem dX8_init_8 : decode cX8_init 8 = .ok (.putfield 9, 3) := by decide +kernel
theorem dX8_init_11 : decode cX8_init 11 = .ok (.return_, 1) := by decide +kernel
theorem dX8_atRest_0 : decode cX8_atRest 0 = .ok (.aload_n 0, 1) := by decide +kernel
theorem dX8_atRest_1 : decode cX8_atRest 1 = .ok (.getfield 15, 3) := by decide +kernel
theorem dX8_atRest_4 : decode cX8_atRest 4 = .ok (.aload_n 0, 1) := by decide +kernel
theorem dX8_atRest_5 : decode cX8_atRest 5 = .ok (.getfield 19, 3) := by decide +kernel
theorem dX8_atRest_8 : decode cX8_atRest 8 = .ok (.iadd, 1) := by decide +kernel
theorem dX8_atRest_9 : decode cX8_atRest 9 = .ok (.aload_n 0, 1) := by decide +kernel
theorem dX8_atRest_10 : decode cX8_atRest 10 = .ok (.getfield 22, 3) := by decide +kernel
theorem dX8_atRest_13 : decode cX8_atRest 13 = .ok (.iadd, 1) := by decide +kernel
theorem dX8_atRest_14 : decode cX8_atRest 14 = .ok (.i2l, 1) := by decide +kernel
theorem dX8_atRest_15 : decode cX8_atRest 15 = .ok (.aload_n 0, 1) := by decide +kernel
theorem dX8_atRest_16 : decode cX8_atRest 16 = .ok (.getfield 9, 3) := by decide +kernel
theorem dX8_atRest_19 : decode cX8_atRest 19 = .ok (.iconst 0, 1) := by decide +kernel
theorem dX8_atRest_20 : decode cX8_atRest 20 = .ok (.laload, 1) := by decide +kernel
theorem dX8_atRest_21 : decode cX8_atRest 21 = .ok (.ladd, 1) := by decide +kernel
theorem dX8_atRest_22 : decode cX8_atRest 22 = .ok (.aload_n 0, 1) := by decide +kernel
theorem dX8_atRest_23 : decode cX8_atRest 23 = .ok (.getfield 9, 3) := by decide +kernel
theorem dX8_atRest_26 : decode cX8_atRest 26 = .ok (.iconst 1, 1) := by decide +kernel
theorem dX8_atRest_27 : decode cX8_atRest 27 = .ok (.laload, 1) := by decide +kernel
theorem dX8_atRest_28 : decode cX8_atRest 28 = .ok (.ladd, 1) := by decide +kernel
theorem dX8_atRest_29 : decode cX8_atRest 29 = .ok (.aload_n 0, 1) := by decide +kernel
theorem dX8_atRest_30 : decode cX8_atRest 30 = .ok (.getfield 9, 3) := by decide +kernel
theorem dX8_atRest_33 : decode cX8_atRest 33 = .ok (.iconst 2, 1) := by decide +kernel
theorem dX8_atRest_34 : decode cX8_atRest 34 = .ok (.laload, 1) := by decide +kernel
theorem dX8_atRest_35 : decode cX8_atRest 35 = .ok (.ladd, 1) := by decide +kernel
theorem dX8_atRest_36 : decode cX8_atRest 36 = .ok (.lreturn, 1) := by decide +kernel
theorem dX9_init_0 : decode cX9_init 0 = .ok (.aload_n 0, 1) := by decide +kernel
theorem dX9_init_1 : decode cX9_init 1 = .ok (.invokespecial 1, 3) := by decide +kernel
theorem dX9_init_4 : decode cX9_init 4 = .ok (.aload_n 0, 1) := by decide +kernel
theorem dX9_init_5 : decode cX9_init 5 = .ok (.bipush 6, 2) := by decide +kernel
theorem dX9_init_7 : decode cX9_init 7 = .ok (.anewarray 9, 3) := by decide +kernel
theorem dX9_init_10 : decode cX9_init 10 = .ok (.putfield 11, 3) := by decide +kernel
theorem dX9_init_13 : decode cX9_init 13 = .ok (.aload_n 0, 1) := by decide +kernel
theorem dX9_init_14 : decode cX9_init 14 = .ok (.bipush 8, 2) := by decide +kernel
theorem dX9_init_16 : decode cX9_init 16 = .ok (.anewarray 15, 3) := by decide +kernel
theorem dX9_init_19 : decode cX9_init 19 = .ok (.putfield 17, 3) := by decide +kernel
theorem dX9_init_22 : decode cX9_init 22 = .ok (.aload_n 0, 1) := by decide +kernel
theorem dX9_init_23 : decode cX9_init 23 = .ok (.iconst 4, 1) := by decide +kernel
theorem dX9_init_24 : decode cX9_init 24 = .ok (.anewarray 21, 3) := by decide +kernel
theorem dX9_init_27 : decode cX9_init 27 = .ok (.putfield 23, 3) := by decide +kernel
theorem dX9_init_30 : decode cX9_init 30 = .ok (.aload_n 0, 1) := by decide +kernel
theorem dX9_init_31 : decode cX9_init 31 = .ok (.iconst 4, 1) := by decide +kernel
theorem dX9_init_32 : decode cX9_init 32 = .ok (.anewarray 27, 3) := by decide +kernel
theorem dX9_init_35 : decode cX9_init 35 = .ok (.putfield 29, 3) := by decide +kernel
theorem dX9_init_38 : decode cX9_init 38 = .ok (.aload_n 0, 1) := by decide +kernel
theorem dX9_init_39 : decode cX9_init 39 = .ok (.iconst 4, 1) := by decide +kernel
theorem dX9_init_40 : decode cX9_init 40 = .ok (.anewarray 33, 3) := by decide +kernel
theorem dX9_init_43 : decode cX9_init 43 = .ok (.putfield 35, 3) := by decide +kernel
theorem dX9_init_46 : decode cX9_init 46 = .ok (.aload_n 0, 1) := by decide +kernel
theorem dX9_init_47 : decode cX9_init 47 = .ok (.bipush 60, 2) := by decide +kernel
theorem dX9_init_49 : decode cX9_init 49 = .ok (.anewarray 39, 3) := by decide +kernel
theorem dX9_init_52 : decode cX9_init 52 = .ok (.putfield 41, 3) := by decide +kernel
theorem dX9_init_55 : decode cX9_init 55 = .ok (.aload_n 0, 1) := by decide +kernel
theorem dX9_init_56 : decode cX9_init 56 = .ok (.new 45, 3) := by decide +kernel
theorem dX9_init_59 : decode cX9_init 59 = .ok (.dup, 1) := by decide +kernel
theorem dX9_init_60 : decode cX9_init 60 = .ok (.sipush 2000, 3) := by decide +kernel
theorem dX9_init_63 : decode cX9_init 63 = .ok (.invokespecial 47, 3) := by decide +kernel
theorem dX9_init_66 : decode cX9_init 66 = .ok (.putfield 50, 3) := by decide +kernel
theorem dX9_init_69 : decode cX9_init 69 = .ok (.aload_n 0, 1) := by decide +kernel
theorem dX9_init_70 : decode cX9_init 70 = .ok (.new 45, 3) := by decide +kernel
theorem dX9_init_73 : decode cX9_init 73 = .ok (.dup, 1) := by decide +kernel
theorem dX9_init_74 : decode cX9_init 74 = .ok (.bipush 60, 2) := by decide +kernel
theorem dX9_init_76 : decode cX9_init 76 = .ok (.invokespecial 47, 3) := by decide +kernel
theorem dX9_init_79 : decode cX9_init 79 = .ok (.putfield 54, 3) := by decide +kernel
theorem dX9_init_82 : decode cX9_init 82 = .ok (.aload_n 0, 1) := by decide +kernel
theorem dX9_init_83 : decode cX9_init 83 = .ok (.new 57, 3) := by decide +kernel
theorem dX9_init_86 : decode cX9_init 86 = .ok (.dup, 1) := by decide +kernel
theorem dX9_init_87 : decode cX9_init 87 = .ok (.invokespecial 59, 3) := by decide +kernel
theorem dX9_init_90 : decode cX9_init 90 = .ok (.putfield 60, 3) := by decide +kernel
theorem dX9_init_93 : decode cX9_init 93 = .ok (.aload_n 0, 1) := by decide +kernel
theorem dX9_init_94 : decode cX9_init 94 = .ok (.lload_n 1, 1) := by decide +kernel
theorem dX9_init_95 : decode cX9_init 95 = .ok (.putfield 64, 3) := by decide +kernel
theorem dX9_init_98 : decode cX9_init 98 = .ok (.return_, 1) := by decide +kernel
theorem dX9_belt_0 : decode cX9_belt 0 = .ok (.aload_n 0, 1) := by decide +kernel
theorem dX9_belt_1 : decode cX9_belt 1 = .ok (.invokevirtual 68, 3) := by decide +kernel
theorem dX9_belt_4 : decode cX9_belt 4 = .ok (.ifCond .ne 12, 3) := by decide +kernel
theorem dX9_belt_7 : decode cX9_belt 7 = .ok (.aload_n 0, 1) := by decide +kernel
theorem dX9_belt_8 : decode cX9_belt 8 = .ok (.getfield 72, 3) := by decide +kernel
theorem dX9_belt_11 : decode cX9_belt 11 = .ok (.bipush 6, 2) := by decide +kernel
theorem dX9_belt_13 : decode cX9_belt 13 = .ok (.if_icmp .lt 5, 3) := by decide +kernel
theorem dX9_belt_16 : decode cX9_belt 16 = .ok (.iconst (-1), 1) := by decide +kernel
theorem dX9_belt_17 : decode cX9_belt 17 = .ok (.ireturn, 1) := by decide +kernel
theorem dX9_belt_18 : decode cX9_belt 18 = .ok (.iload_n 1, 1) := by decide +kernel
theorem dX9_belt_19 : decode cX9_belt 19 = .ok (.i2d, 1) := by decide +kernel
theorem dX9_belt_20 : decode cX9_belt 20 = .ok (.dconst 1, 1) := by decide +kernel
theorem dX9_belt_21 : decode cX9_belt 21 = .ok (.ldc2_w 76, 3) := by decide +kernel
theorem dX9_belt_24 : decode cX9_belt 24 = .ok (.invokestatic 78, 3) := by decide +kernel
theorem dX9_belt_27 : decode cX9_belt 27 = .ok (.ifCond .eq 16, 3) := by decide +kernel
theorem dX9_belt_30 : decode cX9_belt 30 = .ok (.dload_n 2, 1) := by decide +kernel
theorem dX9_belt_31 : decode cX9_belt 31 = .ok (.ldc2_w 82, 3) := by decide +kernel
theorem dX9_belt_34 : decode cX9_belt 34 = .ok (.ldc2_w 76, 3) := by decide +kernel
theorem dX9_belt_37 : decode cX9_belt 37 = .ok (.invokestatic 78, 3) := by decide +kernel
theorem dX9_belt_40 : decode cX9_belt 40 = .ok (.ifCond .ne 5, 3) := by decide +kernel
theorem dX9_belt_43 : decode cX9_belt 43 = .ok (.iconst (-1), 1) := by decide +kernel
theorem dX9_belt_44 : decode cX9_belt 44 = .ok (.ireturn, 1) := by decide +kernel
theorem dX9_belt_45 : decode cX9_belt 45 = .ok (.aload_n 0, 1) := by decide +kernel
theorem dX9_belt_46 : decode cX9_belt 46 = .ok (.getfield 72, 3) := by decide +kernel
theorem dX9_belt_49 : decode cX9_belt 49 = .ok (.istore 4, 2) := by decide +kernel
theorem dX9_belt_51 : decode cX9_belt 51 = .ok (.aload_n 0, 1) := by decide +kernel
theorem dX9_belt_52 : decode cX9_belt 52 = .ok (.getfield 11, 3) := by decide +kernel
theorem dX9_belt_55 : decode cX9_belt 55 = .ok (.iload 4, 2) := by decide +kernel
theorem dX9_belt_57 : decode cX9_belt 57 = .ok (.new 9, 3) := by decide +kernel
theorem dX9_belt_60 : decode cX9_belt 60 = .ok (.dup, 1) := by decide +kernel
theorem dX9_belt_61 : decode cX9_belt 61 = .ok (.iload 4, 2) := by decide +kernel
theorem dX9_belt_63 : decode cX9_belt 63 = .ok (.iload_n 1, 1) := by decide +kernel
theorem dX9_belt_64 : decode cX9_belt 64 = .ok (.dload_n 2, 1) := by decide +kernel
theorem dX9_belt_65 : decode cX9_belt 65 = .ok (.invokespecial 84, 3) := by decide +kernel
theorem dX9_belt_68 : decode cX9_belt 68 = .ok (.aastore, 1) := by decide +kernel
theorem dX9_belt_69 : decode cX9_belt 69 = .ok (.aload_n 0, 1) := by decide +kernel
theorem dX9_belt_70 : decode cX9_belt 70 = .ok (.dup, 1) := by decide +kernel
theorem dX9_belt_71 : decode cX9_belt 71 = .ok (.getfield 72, 3) := by decide +kernel
theorem dX9_belt_74 : decode cX9_belt 74 = .ok (.iconst 1, 1) := by decide +kernel
theorem dX9_belt_75 : decode cX9_belt 75 = .ok (.iadd, 1) := by decide +kernel
theorem dX9_belt_76 : decode cX9_belt 76 = .ok (.putfield 72, 3) := by decide +kernel
theorem dX9_belt_79 : decode cX9_belt 79 = .ok (.iload 4, 2) := by decide +kernel
theorem dX9_belt_81 : decode cX9_belt 81 = .ok (.ireturn, 1) := by decide +kernel
theorem dX9_head_0 : decode cX9_head 0 = .ok (.aload_n 0, 1) := by decide +kernel
theorem dX9_head_1 : decode cX9_head 1 = .ok (.iload_n 1, 1) := by decide +kernel
theorem dX9_head_2 : decode cX9_head 2 = .ok (.invokevirtual 87, 3) := by decide +kernel
theorem dX9_head_5 : decode cX9_head 5 = .ok (.astore 6, 2) := by decide +kernel
theorem dX9_head_7 : decode cX9_head 7 = .ok (.aload_n 0, 1) := by decide +kernel
theorem dX9_head_8 : decode cX9_head 8 = .ok (.invokevirtual 68, 3) := by decide +kernel
theorem dX9_head_11 : decode cX9_head 11 = .ok (.ifCond .ne 17, 3) := by decide +kernel
theorem dX9_head_14 : decode cX9_head 14 = .ok (.aload_n 0, 1) := by decide +kernel
theorem dX9_head_15 : decode cX9_head 15 = .ok (.getfield 91, 3) := by decide +kernel
theorem dX9_head_18 : decode cX9_head 18 = .ok (.bipush 8, 2) := by decide +kernel
theorem dX9_head_20 : decode cX9_head 20 = .ok (.if_icmp .ge 8, 3) := by decide +kernel
theorem dX9_head_23 : decode cX9_head 23 = .ok (.aload 6, 2) := by decide +kernel
theorem dX9_head_25 : decode cX9_head 25 = .ok (.ifnonnull 5, 3) := by decide +kernel
theorem dX9_head_28 : decode cX9_head 28 = .ok (.iconst (-1), 1) := by decide +kernel
theorem dX9_head_29 : decode cX9_head 29 = .ok (.ireturn, 1) := by decide +kernel
theorem dX9_head_30 : decode cX9_head 30 = .ok (.dload_n 2, 1) := by decide +kernel
theorem dX9_head_31 : decode cX9_head 31 = .ok (.dconst 0, 1) := by decide +kernel
theorem dX9_head_32 : decode cX9_head 32 = .ok (.aload 6, 2) := by decide +kernel
theorem dX9_head_34 : decode cX9_head 34 = .ok (.getfield 94, 3) := by decide +kernel
theorem dX9_head_37 : decode cX9_head 37 = .ok (.invokestatic 78, 3) := by decide +kernel
theorem dX9_head_40 : decode cX9_head 40 = .ok (.ifCond .eq 13, 3) := by decide +kernel
theorem dX9_head_43 : decode cX9_head 43 = .ok (.dload 4, 2) := by decide +kernel
theorem dX9_head_45 : decode cX9_head 45 = .ok (.dconst 0, 1) := by decide +kernel
theorem dX9_head_46 : decode cX9_head 46 = .ok (.dconst 1, 1) := by decide +kernel
theorem dX9_head_47 : decode cX9_head 47 = .ok (.invokestatic 78, 3) := by decide +kernel
theorem dX9_head_50 : decode cX9_head 50 = .ok (.ifCond .ne 5, 3) := by decide +kernel
theorem dX9_head_53 : decode cX9_head 53 = .ok (.iconst (-1), 1) := by decide +kernel
theorem dX9_head_54 : decode cX9_head 54 = .ok (.ireturn, 1) := by decide +kernel
theorem dX9_head_55 : decode cX9_head 55 = .ok (.aload_n 0, 1) := by decide +kernel
theorem dX9_head_56 : decode cX9_head 56 = .ok (.getfield 91, 3) := by decide +kernel
theorem dX9_head_59 : decode cX9_head 59 = .ok (.istore 7, 2) := by decide +kernel
theorem dX9_head_61 : decode cX9_head 61 = .ok (.aload_n 0, 1) := by decide +kernel
theorem dX9_head_62 : decode cX9_head 62 = .ok (.getfield 17, 3) := by decide +kernel
theorem dX9_head_65 : decode cX9_head 65 = .ok (.iload 7, 2) := by decide +kernel
theorem dX9_head_67 : decode cX9_head 67 = .ok (.new 15, 3) := by decide +kernel
theorem dX9_head_70 : decode cX9_head 70 = .ok (.dup, 1) := by decide +kernel
theorem dX9_head_71 : decode cX9_head 71 = .ok (.aload 6, 2) := by decide +kernel
theorem dX9_head_73 : decode cX9_head 73 = .ok (.aload 6, 2) := by decide +kernel
theorem dX9_head_75 : decode cX9_head 75 = .ok (.dload_n 2, 1) := by decide +kernel
theorem dX9_head_76 : decode cX9_head 76 = .ok (.invokevirtual 98, 3) := by decide +kernel
theorem dX9_head_79 : decode cX9_head 79 = .ok (.dload 4, 2) := by decide +kernel
theorem dX9_head_81 : decode cX9_head 81 = .ok (.invokespecial 102, 3) := by decide +kernel
theorem dX9_head_84 : decode cX9_head 84 = .ok (.aastore, 1) := by decide +kernel
theorem dX9_head_85 : decode cX9_head 85 = .ok (.aload_n 0, 1) := by decide +kernel
theorem dX9_head_86 : decode cX9_head 86 = .ok (.dup, 1) := by decide +kernel
theorem dX9_head_87 : decode cX9_head 87 = .ok (.getfield 91, 3) := by decide +kernel
theorem dX9_head_90 : decode cX9_head 90 = .ok (.iconst 1, 1) := by decide +kernel
theorem dX9_head_91 : decode cX9_head 91 = .ok (.iadd, 1) := by decide +kernel
theorem dX9_head_92 : decode cX9_head 92 = .ok (.putfield 91, 3) := by decide +kernel
theorem dX9_head_95 : decode cX9_head 95 = .ok (.iload 7, 2) := by decide +kernel
theorem dX9_head_97 : decode cX9_head 97 = .ok (.ireturn, 1) := by decide +kernel
theorem dX9_bunker_0 : decode cX9_bunker 0 = .ok (.aload_n 0, 1) := by decide +kernel
theorem dX9_bunker_1 : decode cX9_bunker 1 = .ok (.invokevirtual 68, 3) := by decide +kernel
theorem dX9_bunker_4 : decode cX9_bunker 4 = .ok (.ifCond .ne 22, 3) := by decide +kernel
theorem dX9_bunker_7 : decode cX9_bunker 7 = .ok (.aload_n 0, 1) := by decide +kernel
theorem dX9_bunker_8 : decode cX9_bunker 8 = .ok (.getfield 105, 3) := by decide +kernel
theorem dX9_bunker_11 : decode cX9_bunker 11 = .ok (.iconst 4, 1) := by decide +kernel
theorem dX9_bunker_12 : decode cX9_bunker 12 = .ok (.if_icmp .ge 14, 3) := by decide +kernel
theorem dX9_bunker_15 : decode cX9_bunker 15 = .ok (.dload_n 1, 1) := by decide +kernel
theorem dX9_bunker_16 : decode cX9_bunker 16 = .ok (.dconst 0, 1) := by decide +kernel
theorem dX9_bunker_17 : decode cX9_bunker 17 = .ok (.ldc2_w 108, 3) := by decide +kernel
theorem dX9_bunker_20 : decode cX9_bunker 20 = .ok (.invokestatic 78, 3) := by decide +kernel
theorem dX9_bunker_23 : decode cX9_bunker 23 = .ok (.ifCond .ne 5, 3) := by decide +kernel
theorem dX9_bunker_26 : decode cX9_bunker 26 = .ok (.iconst (-1), 1) := by decide +kernel
theorem dX9_bunker_27 : decode cX9_bunker 27 = .ok (.ireturn, 1) := by decide +kernel
theorem dX9_bunker_28 : decode cX9_bunker 28 = .ok (.aload_n 0, 1) := by decide +kernel
theorem dX9_bunker_29 : decode cX9_bunker 29 = .ok (.getfield 105, 3) := by decide +kernel
theorem dX9_bunker_32 : decode cX9_bunker 32 = .ok (.istore_n 3, 1) := by decide +kernel
theorem dX9_bunker_33 : decode cX9_bunker 33 = .ok (.aload_n 0, 1) := by decide +kernel
theorem dX9_bunker_34 : decode cX9_bunker 34 = .ok (.getfield 23, 3) := by decide +kernel
theorem dX9_bunker_37 : decode cX9_bunker 37 = .ok (.iload_n 3, 1) := by decide +kernel
theorem dX9_bunker_38 : decode cX9_bunker 38 = .ok (.new 21, 3) := by decide +kernel
theorem dX9_bunker_41 : decode cX9_bunker 41 = .ok (.dup, 1) := by decide +kernel
theorem dX9_bunker_42 : decode cX9_bunker 42 = .ok (.iload_n 3, 1) := by decide +kernel
theorem dX9_bunker_43 : decode cX9_bunker 43 = .ok (.dload_n 1, 1) := by decide +kernel
theorem dX9_bunker_44 : decode cX9_bunker 44 = .ok (.invokespecial 110, 3) := by decide +kernel
theorem dX9_bunker_47 : decode cX9_bunker 47 = .ok (.aastore, 1) := by decide +kernel
theorem dX9_bunker_48 : decode cX9_bunker 48 = .ok (.aload_n 0, 1) := by decide +kernel
theorem dX9_bunker_49 : decode cX9_bunker 49 = .ok (.dup, 1) := by decide +kernel
theorem dX9_bunker_50 : decode cX9_bunker 50 = .ok (.getfield 105, 3) := by decide +kernel
theorem dX9_bunker_53 : decode cX9_bunker 53 = .ok (.iconst 1, 1) := by decide +kernel
theorem dX9_bunker_54 : decode cX9_bunker 54 = .ok (.iadd, 1) := by decide +kernel
theorem dX9_bunker_55 : decode cX9_bunker 55 = .ok (.putfield 105, 3) := by decide +kernel
theorem dX9_bunker_58 : decode cX9_bunker 58 = .ok (.iload_n 3, 1) := by decide +kernel
theorem dX9_bunker_59 : decode cX9_bunker 59 = .ok (.ireturn, 1) := by decide +kernel
theorem dX9_joinTo_0 : decode cX9_joinTo 0 = .ok (.aload_n 0, 1) := by decide +kernel
theorem dX9_joinTo_1 : decode cX9_joinTo 1 = .ok (.iload_n 1, 1) := by decide +kernel
theorem dX9_joinTo_2 : decode cX9_joinTo 2 = .ok (.invokevirtual 87, 3) := by decide +kernel
theorem dX9_joinTo_5 : decode cX9_joinTo 5 = .ok (.astore_n 3, 1) := by decide +kernel
theorem dX9_joinTo_6 : decode cX9_joinTo 6 = .ok (.aload_n 0, 1) := by decide +kernel
theorem dX9_joinTo_7 : decode cX9_joinTo 7 = .ok (.invokevirtual 68, 3) := by decide +kernel
theorem dX9_joinTo_10 : decode cX9_joinTo 10 = .ok (.ifCond .ne 7, 3) := by decide +kernel
theorem dX9_joinTo_13 : decode cX9_joinTo 13 = .ok (.aload_n 3, 1) := by decide +kernel
theorem dX9_joinTo_14 : decode cX9_joinTo 14 = .ok (.ifnonnull 5, 3) := by decide +kernel
theorem dX9_joinTo_17 : decode cX9_joinTo 17 = .ok (.iconst 0, 1) := by decide +kernel
theorem dX9_joinTo_18 : decode cX9_joinTo 18 = .ok (.ireturn, 1) := by decide +kernel
theorem dX9_joinTo_19 : decode cX9_joinTo 19 = .ok (.aload_n 0, 1) := by decide +kernel
theorem dX9_joinTo_20 : decode cX9_joinTo 20 = .ok (.iload_n 2, 1) := by decide +kernel
theorem dX9_joinTo_21 : decode cX9_joinTo 21 = .ok (.invokevirtual 87, 3) := by decide +kernel
theorem dX9_joinTo_24 : decode cX9_joinTo 24 = .ok (.astore 4, 2) := by decide +kernel
theorem dX9_joinTo_26 : decode cX9_joinTo 26 = .ok (.aload_n 0, 1) := by decide +kernel
theorem dX9_joinTo_27 : decode cX9_joinTo 27 = .ok (.iload_n 2, 1) := by decide +kernel
theorem dX9_joinTo_28 : decode cX9_joinTo 28 = .ok (.invokevirtual 113, 3) := by decide +kernel
theorem dX9_joinTo_31 : decode cX9_joinTo 31 = .ok (.astore 5, 2) := by decide +kernel
theorem dX9_joinTo_33 : decode cX9_joinTo 33 = .ok (.iload_n 2, 1) := by decide +kernel
theorem dX9_joinTo_34 : decode cX9_joinTo 34 = .ok (.iconst (-1), 1) := by decide +kernel
theorem dX9_joinTo_35 : decode cX9_joinTo 35 = .ok (.if_icmp .eq 15, 3) := by decide +kernel
theorem dX9_joinTo_38 : decode cX9_joinTo 38 = .ok (.aload 4, 2) := by decide +kernel
theorem dX9_joinTo_40 : decode cX9_joinTo 40 = .ok (.ifnonnull 10, 3) := by decide +kernel
theorem dX9_joinTo_43 : decode cX9_joinTo 43 = .ok (.aload 5, 2) := by decide +kernel
theorem dX9_joinTo_45 : decode cX9_joinTo 45 = .ok (.ifnonnull 5, 3) := by decide +kernel
theorem dX9_joinTo_48 : decode cX9_joinTo 48 = .ok (.iconst 0, 1) := by decide +kernel
theorem dX9_joinTo_49 : decode cX9_joinTo 49 = .ok (.ireturn, 1) := by decide +kernel
theorem dX9_joinTo_50 : decode cX9_joinTo 50 = .ok (.aload_n 3, 1) := by decide +kernel
theorem dX9_joinTo_51 : decode cX9_joinTo 51 = .ok (.aload 4, 2) := by decide +kernel
theorem dX9_joinTo_53 : decode cX9_joinTo 53 = .ok (.putfield 117, 3) := by decide +kernel
theorem dX9_joinTo_56 : decode cX9_joinTo 56 = .ok (.aload_n 3, 1) := by decide +kernel
theorem dX9_joinTo_57 : decode cX9_joinTo 57 = .ok (.aload 5, 2) := by decide +kernel
theorem dX9_joinTo_59 : decode cX9_joinTo 59 = .ok (.putfield 121, 3) := by decide +kernel
theorem dX9_joinTo_62 : decode cX9_joinTo 62 = .ok (.iconst 1, 1) := by decide +kernel
theorem dX9_joinTo_63 : decode cX9_joinTo 63 = .ok (.ireturn, 1) := by decide +kernel
theorem dX9_rule_0 : decode cX9_rule 0 = .ok (.aload_n 0, 1) := by decide +kernel
theorem dX9_rule_1 : decode cX9_rule 1 = .ok (.iload_n 1, 1) := by decide +kernel
theorem dX9_rule_2 : decode cX9_rule 2 = .ok (.invokevirtual 87, 3) := by decide +kernel
theorem dX9_rule_5 : decode cX9_rule 5 = .ok (.astore 5, 2) := by decide +kernel
theorem dX9_rule_7 : decode cX9_rule 7 = .ok (.aload_n 0, 1) := by decide +kernel
theorem dX9_rule_8 : decode cX9_rule 8 = .ok (.invokevirtual 68, 3) := by decide +kernel
theorem dX9_rule_11 : decode cX9_rule 11 = .ok (.ifCond .ne 8, 3) := by decide +kernel
theorem dX9_rule_14 : decode cX9_rule 14 = .ok (.aload 5, 2) := by decide +kernel
theorem dX9_rule_16 : decode cX9_rule 16 = .ok (.ifnonnull 5, 3) := by decide +kernel
theorem dX9_rule_19 : decode cX9_rule 19 = .ok (.iconst 0, 1) := by decide +kernel
theorem dX9_rule_20 : decode cX9_rule 20 = .ok (.ireturn, 1) := by decide +kernel
theorem dX9_rule_21 : decode cX9_rule 21 = .ok (.dload_n 2, 1) := by decide +kernel
theorem dX9_rule_22 : decode cX9_rule 22 = .ok (.dconst 0, 1) := by decide +kernel
theorem dX9_rule_23 : decode cX9_rule 23 = .ok (.ldc2_w 108, 3) := by decide +kernel
theorem dX9_rule_26 : decode cX9_rule 26 = .ok (.invokestatic 78, 3) := by decide +kernel
theorem dX9_rule_29 : decode cX9_rule 29 = .ok (.ifCond .eq 16, 3) := by decide +kernel
theorem dX9_rule_32 : decode cX9_rule 32 = .ok (.iload 4, 2) := by decide +kernel
theorem dX9_rule_34 : decode cX9_rule 34 = .ok (.i2d, 1) := by decide +kernel
theorem dX9_rule_35 : decode cX9_rule 35 = .ok (.dconst 1, 1) := by decide +kernel
theorem dX9_rule_36 : decode cX9_rule 36 = .ok (.ldc2_w 76, 3) := by decide +kernel
theorem dX9_rule_39 : decode cX9_rule 39 = .ok (.invokestatic 78, 3) := by decide +kernel
theorem dX9_rule_42 : decode cX9_rule 42 = .ok (.ifCond .ne 5, 3) := by decide +kernel
theorem dX9_rule_45 : decode cX9_rule 45 = .ok (.iconst 0, 1) := by decide +kernel
theorem dX9_rule_46 : decode cX9_rule 46 = .ok (.ireturn, 1) := by decide +kernel
theorem dX9_rule_47 : decode cX9_rule 47 = .ok (.aload 5, 2) := by decide +kernel
theorem dX9_rule_49 : decode cX9_rule 49 = .ok (.iconst 1, 1) := by decide +kernel
theorem dX9_rule_50 : decode cX9_rule 50 = .ok (.putfield 125, 3) := by decide +kernel
theorem dX9_rule_53 : decode cX9_rule 53 = .ok (.aload 5, 2) := by decide +kernel
theorem dX9_rule_55 : decode cX9_rule 55 = .ok (.dload_n 2, 1) := by decide +kernel
theorem dX9_rule_56 : decode cX9_rule 56 = .ok (.putfield 129, 3) := by decide +kernel
theorem dX9_rule_59 : decode cX9_rule 59 = .ok (.aload 5, 2) := by decide +kernel
theorem dX9_rule_61 : decode cX9_rule 61 = .ok (.iload 4, 2) := by decide +kernel
theorem dX9_rule_63 : decode cX9_rule 63 = .ok (.putfield 132, 3) := by decide +kernel
theorem dX9_rule_66 : decode cX9_rule 66 = .ok (.iconst 1, 1) := by decide +kernel
theorem dX9_rule_67 : decode cX9_rule 67 = .ok (.ireturn, 1) := by decide +kernel
theorem dX9_picker_0 : decode cX9_picker 0 = .ok (.aload_n 0, 1) := by decide +kernel
theorem dX9_picker_1 : decode cX9_picker 1 = .ok (.iload_n 1, 1) := by decide +kernel
theorem dX9_picker_2 : decode cX9_picker 2 = .ok (.invokevirtual 87, 3) := by decide +kernel
theorem dX9_picker_5 : decode cX9_picker 5 = .ok (.astore 6, 2) := by decide +kernel
theorem dX9_picker_7 : decode cX9_picker 7 = .ok (.aload_n 0, 1) := by decide +kernel
theorem dX9_picker_8 : decode cX9_picker 8 = .ok (.invokevirtual 68, 3) := by decide +kernel
theorem dX9_picker_11 : decode cX9_picker 11 = .ok (.ifCond .ne 16, 3) := by decide +kernel
theorem dX9_picker_14 : decode cX9_picker 14 = .ok (.aload_n 0, 1) := by decide +kernel
theorem dX9_picker_15 : decode cX9_picker 15 = .ok (.getfield 135, 3) := by decide +kernel
theorem dX9_picker_18 : decode cX9_picker 18 = .ok (.iconst 4, 1) := by decide +kernel
theorem dX9_picker_19 : decode cX9_picker 19 = .ok (.if_icmp .ge 8, 3) := by decide +kernel
theorem dX9_picker_22 : decode cX9_picker 22 = .ok (.aload 6, 2) := by decide +kernel
theorem dX9_picker_24 : decode cX9_picker 24 = .ok (.ifnonnull 5, 3) := by decide +kernel
theorem dX9_picker_27 : decode cX9_picker 27 = .ok (.iconst (-1), 1) := by decide +kernel
theorem dX9_picker_28 : decode cX9_picker 28 = .ok (.ireturn, 1) := by decide +kernel
theorem dX9_picker_29 : decode cX9_picker 29 = .ok (.dload_n 2, 1) := by decide +kernel
theorem dX9_picker_30 : decode cX9_picker 30 = .ok (.ldc2_w 138, 3) := by decide +kernel
theorem dX9_picker_33 : decode cX9_picker 33 = .ok (.ldc2_w 140, 3) := by decide +kernel
theorem dX9_picker_36 : decode cX9_picker 36 = .ok (.invokestatic 78, 3) := by decide +kernel
theorem dX9_picker_39 : decode cX9_picker 39 = .ok (.ifCond .eq 15, 3) := by decide +kernel
theorem dX9_picker_42 : decode cX9_picker 42 = .ok (.dload 4, 2) := by decide +kernel
theorem dX9_picker_44 : decode cX9_picker 44 = .ok (.dconst 0, 1) := by decide +kernel
theorem dX9_picker_45 : decode cX9_picker 45 = .ok (.ldc2_w 142, 3) := by decide +kernel
theorem dX9_picker_48 : decode cX9_picker 48 = .ok (.invokestatic 78, 3) := by decide +kernel
theorem dX9_picker_51 : decode cX9_picker 51 = .ok (.ifCond .ne 5, 3) := by decide +kernel
theorem dX9_picker_54 : decode cX9_picker 54 = .ok (.iconst (-1), 1) := by decide +kernel
theorem dX9_picker_55 : decode cX9_picker 55 = .ok (.ireturn, 1) := by decide +kernel
theorem dX9_picker_56 : decode cX9_picker 56 = .ok (.aload_n 0, 1) := by decide +kernel
theorem dX9_picker_57 : decode cX9_picker 57 = .ok (.getfield 135, 3) := by decide +kernel
theorem dX9_picker_60 : decode cX9_picker 60 = .ok (.istore 7, 2) := by decide +kernel
theorem dX9_picker_62 : decode cX9_picker 62 = .ok (.aload_n 0, 1) := by decide +kernel
theorem dX9_picker_63 : decode cX9_picker 63 = .ok (.getfield 29, 3) := by decide +kernel
theorem dX9_picker_66 : decode cX9_picker 66 = .ok (.iload 7, 2) := by decide +kernel
theorem dX9_picker_68 : decode cX9_picker 68 = .ok (.new 27, 3) := by decide +kernel
theorem dX9_picker_71 : decode cX9_picker 71 = .ok (.dup, 1) := by decide +kernel
theorem dX9_picker_72 : decode cX9_picker 72 = .ok (.aload 6, 2) := by decide +kernel
theorem dX9_picker_74 : decode cX9_picker 74 = .ok (.dload_n 2, 1) := by decide +kernel
theorem dX9_picker_75 : decode cX9_picker 75 = .ok (.dload 4, 2) := by decide +kernel
theorem dX9_picker_77 : decode cX9_picker 77 = .ok (.invokespecial 144, 3) := by decide +kernel
theorem dX9_picker_80 : decode cX9_picker 80 = .ok (.aastore, 1) := by decide +kernel
theorem dX9_picker_81 : decode cX9_picker 81 = .ok (.aload_n 0, 1) := by decide +kernel
theorem dX9_picker_82 : decode cX9_picker 82 = .ok (.dup, 1) := by decide +kernel
theorem dX9_picker_83 : decode cX9_picker 83 = .ok (.getfield 135, 3) := by decide +kernel
theorem dX9_picker_86 : decode cX9_picker 86 = .ok (.iconst 1, 1) := by decide +kernel
theorem dX9_picker_87 : decode cX9_picker 87 = .ok (.iadd, 1) := by decide +kernel
theorem dX9_picker_88 : decode cX9_picker 88 = .ok (.putfield 135, 3) := by decide +kernel
theorem dX9_picker_91 : decode cX9_picker 91 = .ok (.iload 7, 2) := by decide +kernel
theorem dX9_picker_93 : decode cX9_picker 93 = .ok (.ireturn, 1) := by decide +kernel
theorem dX9_robot_0 : decode cX9_robot 0 = .ok (.aload_n 0, 1) := by decide +kernel
theorem dX9_robot_1 : decode cX9_robot 1 = .ok (.iload_n 1, 1) := by decide +kernel
theorem dX9_robot_2 : decode cX9_robot 2 = .ok (.invokevirtual 87, 3) := by decide +kernel
theorem dX9_robot_5 : decode cX9_robot 5 = .ok (.astore 6, 2) := by decide +kernel
theorem dX9_robot_7 : decode cX9_robot 7 = .ok (.aload_n 0, 1) := by decide +kernel
theorem dX9_robot_8 : decode cX9_robot 8 = .ok (.invokevirtual 68, 3) := by decide +kernel
theorem dX9_robot_11 : decode cX9_robot 11 = .ok (.ifCond .ne 16, 3) := by decide +kernel
theorem dX9_robot_14 : decode cX9_robot 14 = .ok (.aload_n 0, 1) := by decide +kernel
theorem dX9_robot_15 : decode cX9_robot 15 = .ok (.getfield 147, 3) := by decide +kernel
theorem dX9_robot_18 : decode cX9_robot 18 = .ok (.iconst 4, 1) := by decide +kernel
theorem dX9_robot_19 : decode cX9_robot 19 = .ok (.if_icmp .ge 8, 3) := by decide +kernel
theorem dX9_robot_22 : decode cX9_robot 22 = .ok (.aload 6, 2) := by decide +kernel
theorem dX9_robot_24 : decode cX9_robot 24 = .ok (.ifnonnull 5, 3) := by decide +kernel
theorem dX9_robot_27 : decode cX9_robot 27 = .ok (.iconst (-1), 1) := by decide +kernel
theorem dX9_robot_28 : decode cX9_robot 28 = .ok (.ireturn, 1) := by decide +kernel
theorem dX9_robot_29 : decode cX9_robot 29 = .ok (.dload_n 2, 1) := by decide +kernel
theorem dX9_robot_30 : decode cX9_robot 30 = .ok (.dconst 0, 1) := by decide +kernel
theorem dX9_robot_31 : decode cX9_robot 31 = .ok (.ldc2_w 142, 3) := by decide +kernel
theorem dX9_robot_34 : decode cX9_robot 34 = .ok (.invokestatic 78, 3) := by decide +kernel
theorem dX9_robot_37 : decode cX9_robot 37 = .ok (.ifCond .eq 13, 3) := by decide +kernel
theorem dX9_robot_40 : decode cX9_robot 40 = .ok (.dload 4, 2) := by decide +kernel
theorem dX9_robot_42 : decode cX9_robot 42 = .ok (.dconst 0, 1) := by decide +kernel
theorem dX9_robot_43 : decode cX9_robot 43 = .ok (.dconst 1, 1) := by decide +kernel
theorem dX9_robot_44 : decode cX9_robot 44 = .ok (.invokestatic 78, 3) := by decide +kernel
theorem dX9_robot_47 : decode cX9_robot 47 = .ok (.ifCond .ne 5, 3) := by decide +kernel
theorem dX9_robot_50 : decode cX9_robot 50 = .ok (.iconst (-1), 1) := by decide +kernel
theorem dX9_robot_51 : decode cX9_robot 51 = .ok (.ireturn, 1) := by decide +kernel
theorem dX9_robot_52 : decode cX9_robot 52 = .ok (.aload_n 0, 1) := by decide +kernel
theorem dX9_robot_53 : decode cX9_robot 53 = .ok (.getfield 147, 3) := by decide +kernel
theorem dX9_robot_56 : decode cX9_robot 56 = .ok (.istore 7, 2) := by decide +kernel
theorem dX9_robot_58 : decode cX9_robot 58 = .ok (.aload_n 0, 1) := by decide +kernel
theorem dX9_robot_59 : decode cX9_robot 59 = .ok (.getfield 35, 3) := by decide +kernel
theorem dX9_robot_62 : decode cX9_robot 62 = .ok (.iload 7, 2) := by decide +kernel
theorem dX9_robot_64 : decode cX9_robot 64 = .ok (.new 33, 3) := by decide +kernel
theorem dX9_robot_67 : decode cX9_robot 67 = .ok (.dup, 1) := by decide +kernel
theorem dX9_robot_68 : decode cX9_robot 68 = .ok (.aload 6, 2) := by decide +kernel
theorem dX9_robot_70 : decode cX9_robot 70 = .ok (.dload_n 2, 1) := by decide +kernel
theorem dX9_robot_71 : decode cX9_robot 71 = .ok (.dload 4, 2) := by decide +kernel
theorem dX9_robot_73 : decode cX9_robot 73 = .ok (.invokespecial 150, 3) := by decide +kernel
theorem dX9_robot_76 : decode cX9_robot 76 = .ok (.aastore, 1) := by decide +kernel
theorem dX9_robot_77 : decode cX9_robot 77 = .ok (.aload_n 0, 1) := by decide +kernel
theorem dX9_robot_78 : decode cX9_robot 78 = .ok (.dup, 1) := by decide +kernel
theorem dX9_robot_79 : decode cX9_robot 79 = .ok (.getfield 147, 3) := by decide +kernel
theorem dX9_robot_82 : decode cX9_robot 82 = .ok (.iconst 1, 1) := by decide +kernel
theorem dX9_robot_83 : decode cX9_robot 83 = .ok (.iadd, 1) := by decide +kernel
theorem dX9_robot_84 : decode cX9_robot 84 = .ok (.putfield 147, 3) := by decide +kernel
theorem dX9_robot_87 : decode cX9_robot 87 = .ok (.iload 7, 2) := by decide +kernel
theorem dX9_robot_89 : decode cX9_robot 89 = .ok (.ireturn, 1) := by decide +kernel
theorem dX9_feed_0 : decode cX9_feed 0 = .ok (.aload_n 0, 1) := by decide +kernel
theorem dX9_feed_1 : decode cX9_feed 1 = .ok (.iload_n 1, 1) := by decide +kernel
theorem dX9_feed_2 : decode cX9_feed 2 = .ok (.invokevirtual 87, 3) := by decide +kernel
theorem dX9_feed_5 : decode cX9_feed 5 = .ok (.astore 6, 2) := by decide +kernel
theorem dX9_feed_7 : decode cX9_feed 7 = .ok (.aload_n 0, 1) := by decide +kernel
theorem dX9_feed_8 : decode cX9_feed 8 = .ok (.getfield 151, 3) := by decide +kernel
theorem dX9_feed_11 : decode cX9_feed 11 = .ok (.bipush 60, 2) := by decide +kernel
theorem dX9_feed_13 : decode cX9_feed 13 = .ok (.if_icmp .ge 15, 3) := by decide +kernel
theorem dX9_feed_16 : decode cX9_feed 16 = .ok (.aload 6, 2) := by decide +kernel
theorem dX9_feed_18 : decode cX9_feed 18 = .ok (.ifnull 10, 3) := by decide +kernel
theorem dX9_feed_21 : decode cX9_feed 21 = .ok (.iload_n 3, 1) := by decide +kernel
theorem dX9_feed_22 : decode cX9_feed 22 = .ok (.invokestatic 154, 3) := by decide +kernel
theorem dX9_feed_25 : decode cX9_feed 25 = .ok (.ifCond .ne 5, 3) := by decide +kernel
theorem dX9_feed_28 : decode cX9_feed 28 = .ok (.iconst 0, 1) := by decide +kernel
theorem dX9_feed_29 : decode cX9_feed 29 = .ok (.ireturn, 1) := by decide +kernel
theorem dX9_feed_30 : decode cX9_feed 30 = .ok (.iload_n 2, 1) := by decide +kernel
theorem dX9_feed_31 : decode cX9_feed 31 = .ok (.aload_n 0, 1) := by decide +kernel
theorem dX9_feed_32 : decode cX9_feed 32 = .ok (.getfield 158, 3) := by decide +kernel
theorem dX9_feed_35 : decode cX9_feed 35 = .ok (.if_icmp .le 22, 3) := by decide +kernel
theorem dX9_feed_38 : decode cX9_feed 38 = .ok (.iload_n 2, 1) := by decide +kernel
theorem dX9_feed_39 : decode cX9_feed 39 = .ok (.sipush 10000, 3) := by decide +kernel
theorem dX9_feed_42 : decode cX9_feed 42 = .ok (.if_icmp .gt 15, 3) := by decide +kernel
theorem dX9_feed_45 : decode cX9_feed 45 = .ok (.dload 4, 2) := by decide +kernel
theorem dX9_feed_47 : decode cX9_feed 47 = .ok (.dconst 0, 1) := by decide +kernel
theorem dX9_feed_48 : decode cX9_feed 48 = .ok (.ldc2_w 142, 3) := by decide +kernel
theorem dX9_feed_51 : decode cX9_feed 51 = .ok (.invokestatic 78, 3) := by decide +kernel
theorem dX9_feed_54 : decode cX9_feed 54 = .ok (.ifCond .ne 5, 3) := by decide +kernel
theorem dX9_feed_57 : decode cX9_feed 57 = .ok (.iconst 0, 1) := by decide +kernel
theorem dX9_feed_58 : decode cX9_feed 58 = .ok (.ireturn, 1) := by decide +kernel
theorem dX9_feed_59 : decode cX9_feed 59 = .ok (.aload_n 0, 1) := by decide +kernel
theorem dX9_feed_60 : decode cX9_feed 60 = .ok (.getfield 41, 3) := by decide +kernel
theorem dX9_feed_63 : decode cX9_feed 63 = .ok (.aload_n 0, 1) := by decide +kernel
theorem dX9_feed_64 : decode cX9_feed 64 = .ok (.getfield 151, 3) := by decide +kernel
theorem dX9_feed_67 : decode cX9_feed 67 = .ok (.new 39, 3) := by decide +kernel
theorem dX9_feed_70 : decode cX9_feed 70 = .ok (.dup, 1) := by decide +kernel
theorem dX9_feed_71 : decode cX9_feed 71 = .ok (.aload_n 0, 1) := by decide +kernel
theorem dX9_feed_72 : decode cX9_feed 72 = .ok (.getfield 151, 3) := by decide +kernel
theorem dX9_feed_75 : decode cX9_feed 75 = .ok (.aload 6, 2) := by decide +kernel
theorem dX9_feed_77 : decode cX9_feed 77 = .ok (.iload_n 2, 1) := by decide +kernel
theorem dX9_feed_78 : decode cX9_feed 78 = .ok (.iload_n 3, 1) := by decide +kernel
theorem dX9_feed_79 : decode cX9_feed 79 = .ok (.dload 4, 2) := by decide +kernel
theorem dX9_feed_81 : decode cX9_feed 81 = .ok (.invokespecial 161, 3) := by decide +kernel
theorem dX9_feed_84 : decode cX9_feed 84 = .ok (.aastore, 1) := by decide +kernel
theorem dX9_feed_85 : decode cX9_feed 85 = .ok (.aload_n 0, 1) := by decide +kernel
theorem dX9_feed_86 : decode cX9_feed 86 = .ok (.dup, 1) := by decide +kernel
theorem dX9_feed_87 : decode cX9_feed 87 = .ok (.getfield 151, 3) := by decide +kernel
theorem dX9_feed_90 : decode cX9_feed 90 = .ok (.iconst 1, 1) := by decide +kernel
theorem dX9_feed_91 : decode cX9_feed 91 = .ok (.iadd, 1) := by decide +kernel
theorem dX9_feed_92 : decode cX9_feed 92 = .ok (.putfield 151, 3) := by decide +kernel
theorem dX9_feed_95 : decode cX9_feed 95 = .ok (.iconst 1, 1) := by decide +kernel
theorem dX9_feed_96 : decode cX9_feed 96 = .ok (.ireturn, 1) := by decide +kernel
theorem dX9_run_0 : decode cX9_run 0 = .ok (.iload_n 1, 1) := by decide +kernel
theorem dX9_run_1 : decode cX9_run 1 = .ok (.aload_n 0, 1) := by decide +kernel
theorem dX9_run_2 : decode cX9_run 2 = .ok (.getfield 158, 3) := by decide +kernel
theorem dX9_run_5 : decode cX9_run 5 = .ok (.if_icmp .lt 10, 3) := by decide +kernel
theorem dX9_run_8 : decode cX9_run 8 = .ok (.iload_n 1, 1) := by decide +kernel
theorem dX9_run_9 : decode cX9_run 9 = .ok (.sipush 10000, 3) := by decide +kernel
theorem dX9_run_12 : decode cX9_run 12 = .ok (.if_icmp .le 5, 3) := by decide +kernel
theorem dX9_run_15 : decode cX9_run 15 = .ok (.iconst (-1), 1) := by decide +kernel
theorem dX9_run_16 : decode cX9_run 16 = .ok (.ireturn, 1) := by decide +kernel
theorem dX9_run_17 : decode cX9_run 17 = .ok (.aload_n 0, 1) := by decide +kernel
theorem dX9_run_18 : decode cX9_run 18 = .ok (.getfield 158, 3) := by decide +kernel
theorem dX9_run_21 : decode cX9_run 21 = .ok (.iconst 1, 1) := by decide +kernel
theorem dX9_run_22 : decode cX9_run 22 = .ok (.iadd, 1) := by decide +kernel
theorem dX9_run_23 : decode cX9_run 23 = .ok (.istore_n 2, 1) := by decide +kernel
theorem dX9_run_24 : decode cX9_run 24 = .ok (.iload_n 2, 1) := by decide +kernel
theorem dX9_run_25 : decode cX9_run 25 = .ok (.iload_n 1, 1) := by decide +kernel
theorem dX9_run_26 : decode cX9_run 26 = .ok (.if_icmp .gt 34, 3) := by decide +kernel
theorem dX9_run_29 : decode cX9_run 29 = .ok (.aload_n 0, 1) := by decide +kernel
theorem dX9_run_30 : decode cX9_run 30 = .ok (.getfield 60, 3) := by decide +kernel
theorem dX9_run_33 : decode cX9_run 33 = .ok (.invokevirtual 164, 3) := by decide +kernel
theorem dX9_run_36 : decode cX9_run 36 = .ok (.aload_n 0, 1) := by decide +kernel
theorem dX9_run_37 : decode cX9_run 37 = .ok (.getfield 151, 3) := by decide +kernel
theorem dX9_run_40 : decode cX9_run 40 = .ok (.i2l, 1) := by decide +kernel
theorem dX9_run_41 : decode cX9_run 41 = .ok (.lcmp, 1) := by decide +kernel
theorem dX9_run_42 : decode cX9_run 42 = .ok (.ifCond .ge 18, 3) := by decide +kernel
theorem dX9_run_45 : decode cX9_run 45 = .ok (.aload_n 0, 1) := by decide +kernel
theorem dX9_run_46 : decode cX9_run 46 = .ok (.iload_n 2, 1) := by decide +kernel
theorem dX9_run_47 : decode cX9_run 47 = .ok (.putfield 158, 3) := by decide +kernel
theorem dX9_run_50 : decode cX9_run 50 = .ok (.aload_n 0, 1) := by decide +kernel
theorem dX9_run_51 : decode cX9_run 51 = .ok (.invokevirtual 168, 3) := by decide +kernel
theorem dX9_run_54 : decode cX9_run 54 = .ok (.iinc 2 1, 3) := by decide +kernel
theorem dX9_run_57 : decode cX9_run 57 = .ok (.goto (-33), 3) := by decide +kernel
theorem dX9_run_60 : decode cX9_run 60 = .ok (.aload_n 0, 1) := by decide +kernel
theorem dX9_run_61 : decode cX9_run 61 = .ok (.iload_n 1, 1) := by decide +kernel
theorem dX9_run_62 : decode cX9_run 62 = .ok (.putfield 158, 3) := by decide +kernel
theorem dX9_run_65 : decode cX9_run 65 = .ok (.aload_n 0, 1) := by decide +kernel
theorem dX9_run_66 : decode cX9_run 66 = .ok (.getfield 50, 3) := by decide +kernel
theorem dX9_run_69 : decode cX9_run 69 = .ok (.getfield 171, 3) := by decide +kernel
theorem dX9_run_72 : decode cX9_run 72 = .ok (.ireturn, 1) := by decide +kernel
theorem dX9_event_0 : decode cX9_event 0 = .ok (.aload_n 0, 1) := by decide +kernel
theorem dX9_event_1 : decode cX9_event 1 = .ok (.getfield 50, 3) := by decide +kernel
theorem dX9_event_4 : decode cX9_event 4 = .ok (.iload_n 1, 1) := by decide +kernel
theorem dX9_event_5 : decode cX9_event 5 = .ok (.iload_n 2, 1) := by decide +kernel
theorem dX9_event_6 : decode cX9_event 6 = .ok (.invokevirtual 174, 3) := by decide +kernel
theorem dX9_event_9 : decode cX9_event 9 = .ok (.ireturn, 1) := by decide +kernel
theorem dX9_out_0 : decode cX9_out 0 = .ok (.aload_n 0, 1) := by decide +kernel
theorem dX9_out_1 : decode cX9_out 1 = .ok (.iload_n 1, 1) := by decide +kernel
theorem dX9_out_2 : decode cX9_out 2 = .ok (.invokevirtual 87, 3) := by decide +kernel
theorem dX9_out_5 : decode cX9_out 5 = .ok (.astore_n 3, 1) := by decide +kernel
theorem dX9_out_6 : decode cX9_out 6 = .ok (.aload_n 3, 1) := by decide +kernel
theorem dX9_out_7 : decode cX9_out 7 = .ok (.ifnull 10, 3) := by decide +kernel
theorem dX9_out_10 : decode cX9_out 10 = .ok (.iload_n 2, 1) := by decide +kernel
theorem dX9_out_11 : decode cX9_out 11 = .ok (.invokestatic 154, 3) := by decide +kernel
theorem dX9_out_14 : decode cX9_out 14 = .ok (.ifCond .ne 7, 3) := by decide +kernel
theorem dX9_out_17 : decode cX9_out 17 = .ok (.ldc2_w 178, 3) := by decide +kernel
theorem dX9_out_20 : decode cX9_out 20 = .ok (.lreturn, 1) := by decide +kernel
theorem dX9_out_21 : decode cX9_out 21 = .ok (.aload_n 3, 1) := by decide +kernel
theorem dX9_out_22 : decode cX9_out 22 = .ok (.getfield 180, 3) := by decide +kernel
theorem dX9_out_25 : decode cX9_out 25 = .ok (.iload_n 2, 1) := by decide +kernel
theorem dX9_out_26 : decode cX9_out 26 = .ok (.aaload, 1) := by decide +kernel
theorem dX9_out_27 : decode cX9_out 27 = .ok (.getfield 184, 3) := by decide +kernel
theorem dX9_out_30 : decode cX9_out 30 = .ok (.i2l, 1) := by decide +kernel
theorem dX9_out_31 : decode cX9_out 31 = .ok (.lreturn, 1) := by decide +kernel
theorem dX9_inside_0 : decode cX9_inside 0 = .ok (.aload_n 0, 1) := by decide +kernel
theorem dX9_inside_1 : decode cX9_inside 1 = .ok (.invokevirtual 189, 3) := by decide +kernel
theorem dX9_inside_4 : decode cX9_inside 4 = .ok (.aload_n 0, 1) := by decide +kernel
theorem dX9_inside_5 : decode cX9_inside 5 = .ok (.getfield 60, 3) := by decide +kernel
theorem dX9_inside_8 : decode cX9_inside 8 = .ok (.getfield 193, 3) := by decide +kernel
theorem dX9_inside_11 : decode cX9_inside 11 = .ok (.iadd, 1) := by decide +kernel
theorem dX9_inside_12 : decode cX9_inside 12 = .ok (.i2l, 1) := by decide +kernel
theorem dX9_inside_13 : decode cX9_inside 13 = .ok (.lreturn, 1) := by decide +kernel
theorem dX9_jam_0 : decode cX9_jam 0 = .ok (.aload_n 0, 1) := by decide +kernel
theorem dX9_jam_1 : decode cX9_jam 1 = .ok (.getfield 54, 3) := by decide +kernel
theorem dX9_jam_4 : decode cX9_jam 4 = .ok (.iload_n 1, 1) := by decide +kernel
theorem dX9_jam_5 : decode cX9_jam 5 = .ok (.iload_n 2, 1) := by decide +kernel
theorem dX9_jam_6 : decode cX9_jam 6 = .ok (.invokevirtual 174, 3) := by decide +kernel
theorem dX9_jam_9 : decode cX9_jam 9 = .ok (.ireturn, 1) := by decide +kernel
theorem dX9_lost_0 : decode cX9_lost 0 = .ok (.iload_n 1, 1) := by decide +kernel
theorem dX9_lost_1 : decode cX9_lost 1 = .ok (.ifCond .lt 20, 3) := by decide +kernel
theorem dX9_lost_4 : decode cX9_lost 4 = .ok (.iload_n 1, 1) := by decide +kernel
theorem dX9_lost_5 : decode cX9_lost 5 = .ok (.iconst 4, 1) := by decide +kernel
theorem dX9_lost_6 : decode cX9_lost 6 = .ok (.if_icmp .ge 15, 3) := by decide +kernel
theorem dX9_lost_9 : decode cX9_lost 9 = .ok (.aload_n 0, 1) := by decide +kernel
theorem dX9_lost_10 : decode cX9_lost 10 = .ok (.getfield 60, 3) := by decide +kernel
theorem dX9_lost_13 : decode cX9_lost 13 = .ok (.getfield 196, 3) := by decide +kernel
theorem dX9_lost_16 : decode cX9_lost 16 = .ok (.iload_n 1, 1) := by decide +kernel
theorem dX9_lost_17 : decode cX9_lost 17 = .ok (.laload, 1) := by decide +kernel
theorem dX9_lost_18 : decode cX9_lost 18 = .ok (.goto 6, 3) := by decide +kernel
theorem dX9_lost_21 : decode cX9_lost 21 = .ok (.ldc2_w 178, 3) := by decide +kernel
theorem dX9_lost_24 : decode cX9_lost 24 = .ok (.lreturn, 1) := by decide +kernel
theorem dX9_interval_0 : decode cX9_interval 0 = .ok (.aload_n 0, 1) := by decide +kernel
theorem dX9_interval_1 : decode cX9_interval 1 = .ok (.iload_n 1, 1) := by decide +kernel
theorem dX9_interval_2 : decode cX9_interval 2 = .ok (.invokevirtual 87, 3) := by decide +kernel
theorem dX9_interval_5 : decode cX9_interval 5 = .ok (.astore 4, 2) := by decide +kernel
theorem dX9_interval_7 : decode cX9_interval 7 = .ok (.aload 4, 2) := by decide +kernel
theorem dX9_interval_9 : decode cX9_interval 9 = .ok (.ifnull 19, 3) := by decide +kernel
theorem dX9_interval_12 : decode cX9_interval 12 = .ok (.iload_n 2, 1) := by decide +kernel
theorem dX9_interval_13 : decode cX9_interval 13 = .ok (.invokestatic 154, 3) := by decide +kernel
theorem dX9_interval_16 : decode cX9_interval 16 = .ok (.ifCond .eq 12, 3) := by decide +kernel
theorem dX9_interval_19 : decode cX9_interval 19 = .ok (.iload_n 3, 1) := by decide +kernel
theorem dX9_interval_20 : decode cX9_interval 20 = .ok (.ifCond .lt 8, 3) := by decide +kernel
theorem dX9_interval_23 : decode cX9_interval 23 = .ok (.iload_n 3, 1) := by decide +kernel
theorem dX9_interval_24 : decode cX9_interval 24 = .ok (.iconst 1, 1) := by decide +kernel
theorem dX9_interval_25 : decode cX9_interval 25 = .ok (.if_icmp .le 7, 3) := by decide +kernel
theorem dX9_interval_28 : decode cX9_interval 28 = .ok (.ldc2_w 200, 3) := by decide +kernel
theorem dX9_interval_31 : decode cX9_interval 31 = .ok (.dreturn, 1) := by decide +kernel
theorem dX9_interval_32 : decode cX9_interval 32 = .ok (.aload 4, 2) := by decide +kernel
theorem dX9_interval_34 : decode cX9_interval 34 = .ok (.getfield 180, 3) := by decide +kernel
theorem dX9_interval_37 : decode cX9_interval 37 = .ok (.iload_n 2, 1) := by decide +kernel
theorem dX9_interval_38 : decode cX9_interval 38 = .ok (.aaload, 1) := by decide +kernel
theorem dX9_interval_39 : decode cX9_interval 39 = .ok (.astore 5, 2) := by decide +kernel
theorem dX9_interval_41 : decode cX9_interval 41 = .ok (.aload 5, 2) := by decide +kernel
theorem dX9_interval_43 : decode cX9_interval 43 = .ok (.getfield 184, 3) := by decide +kernel
theorem dX9_interval_46 : decode cX9_interval 46 = .ok (.iconst 2, 1) := by decide +kernel
theorem dX9_interval_47 : decode cX9_interval 47 = .ok (.if_icmp .ge 7, 3) := by decide +kernel
theorem dX9_interval_50 : decode cX9_interval 50 = .ok (.ldc2_w 200, 3) := by decide +kernel
theorem dX9_interval_53 : decode cX9_interval 53 = .ok (.dreturn, 1) := by decide +kernel
theorem dX9_interval_54 : decode cX9_interval 54 = .ok (.iload_n 3, 1) := by decide +kernel
theorem dX9_interval_55 : decode cX9_interval 55 = .ok (.ifCond .ne 11, 3) := by decide +kernel
theorem dX9_interval_58 : decode cX9_interval 58 = .ok (.aload 5, 2) := by decide +kernel
theorem dX9_interval_60 : decode cX9_interval 60 = .ok (.getfield 202, 3) := by decide +kernel
theorem dX9_interval_63 : decode cX9_interval 63 = .ok (.goto 8, 3) := by decide +kernel
theorem dX9_interval_66 : decode cX9_interval 66 = .ok (.aload 5, 2) := by decide +kernel
theorem dX9_interval_68 : decode cX9_interval 68 = .ok (.getfield 205, 3) := by decide +kernel
theorem dX9_interval_71 : decode cX9_interval 71 = .ok (.i2d, 1) := by decide +kernel
theorem dX9_interval_72 : decode cX9_interval 72 = .ok (.ldc2_w 142, 3) := by decide +kernel
theorem dX9_interval_75 : decode cX9_interval 75 = .ok (.ddiv, 1) := by decide +kernel
theorem dX9_interval_76 : decode cX9_interval 76 = .ok (.dreturn, 1) := by decide +kernel
theorem dX9_same_0 : decode cX9_same 0 = .ok (.iconst 0, 1) := by decide +kernel
theorem dX9_same_1 : decode cX9_same 1 = .ok (.istore_n 1, 1) := by decide +kernel
theorem dX9_same_2 : decode cX9_same 2 = .ok (.iconst 0, 1) := by decide +kernel
theorem dX9_same_3 : decode cX9_same 3 = .ok (.istore_n 2, 1) := by decide +kernel
theorem dX9_same_4 : decode cX9_same 4 = .ok (.iload_n 2, 1) := by decide +kernel
theorem dX9_same_5 : decode cX9_same 5 = .ok (.aload_n 0, 1) := by decide +kernel
theorem dX9_same_6 : decode cX9_same 6 = .ok (.getfield 151, 3) := by decide +kernel
theorem dX9_same_9 : decode cX9_same 9 = .ok (.if_icmp .ge 28, 3) := by decide +kernel
theorem dX9_same_12 : decode cX9_same 12 = .ok (.aload_n 0, 1) := by decide +kernel
theorem dX9_same_13 : decode cX9_same 13 = .ok (.getfield 41, 3) := by decide +kernel
theorem dX9_same_16 : decode cX9_same 16 = .ok (.iload_n 2, 1) := by decide +kernel
theorem dX9_same_17 : decode cX9_same 17 = .ok (.aaload, 1) := by decide +kernel
theorem dX9_same_18 : decode cX9_same 18 = .ok (.getfield 208, 3) := by decide +kernel
theorem dX9_same_21 : decode cX9_same 21 = .ok (.aload_n 0, 1) := by decide +kernel
theorem dX9_same_22 : decode cX9_same 22 = .ok (.getfield 158, 3) := by decide +kernel
theorem dX9_same_25 : decode cX9_same 25 = .ok (.if_icmp .gt 6, 3) := by decide +kernel
theorem dX9_same_28 : decode cX9_same 28 = .ok (.iinc 1 1, 3) := by decide +kernel
theorem dX9_same_31 : decode cX9_same 31 = .ok (.iinc 2 1, 3) := by decide +kernel
theorem dX9_same_34 : decode cX9_same 34 = .ok (.goto (-30), 3) := by decide +kernel
theorem dX9_same_37 : decode cX9_same 37 = .ok (.iload_n 1, 1) := by decide +kernel
theorem dX9_same_38 : decode cX9_same 38 = .ok (.i2l, 1) := by decide +kernel
theorem dX9_same_39 : decode cX9_same 39 = .ok (.aload_n 0, 1) := by decide +kernel
theorem dX9_same_40 : decode cX9_same 40 = .ok (.invokevirtual 189, 3) := by decide +kernel
theorem dX9_same_43 : decode cX9_same 43 = .ok (.i2l, 1) := by decide +kernel
theorem dX9_same_44 : decode cX9_same 44 = .ok (.aload_n 0, 1) := by decide +kernel
theorem dX9_same_45 : decode cX9_same 45 = .ok (.getfield 60, 3) := by decide +kernel
theorem dX9_same_48 : decode cX9_same 48 = .ok (.invokevirtual 164, 3) := by decide +kernel
theorem dX9_same_51 : decode cX9_same 51 = .ok (.ladd, 1) := by decide +kernel
theorem dX9_same_52 : decode cX9_same 52 = .ok (.lcmp, 1) := by decide +kernel
theorem dX9_same_53 : decode cX9_same 53 = .ok (.ifCond .ne 7, 3) := by decide +kernel
theorem dX9_same_56 : decode cX9_same 56 = .ok (.iconst 1, 1) := by decide +kernel
theorem dX9_same_57 : decode cX9_same 57 = .ok (.goto 4, 3) := by decide +kernel
theorem dX9_same_60 : decode cX9_same 60 = .ok (.iconst 0, 1) := by decide +kernel
theorem dX9_same_61 : decode cX9_same 61 = .ok (.ireturn, 1) := by decide +kernel
theorem dX9_pieceKind_0 : decode cX9_pieceKind 0 = .ok (.lload_n 1, 1) := by decide +kernel
theorem dX9_pieceKind_1 : decode cX9_pieceKind 1 = .ok (.lconst 0, 1) := by decide +kernel
theorem dX9_pieceKind_2 : decode cX9_pieceKind 2 = .ok (.lcmp, 1) := by decide +kernel
theorem dX9_pieceKind_3 : decode cX9_pieceKind 3 = .ok (.ifCond .lt 26, 3) := by decide +kernel
theorem dX9_pieceKind_6 : decode cX9_pieceKind 6 = .ok (.lload_n 1, 1) := by decide +kernel
theorem dX9_pieceKind_7 : decode cX9_pieceKind 7 = .ok (.aload_n 0, 1) := by decide +kernel
theorem dX9_pieceKind_8 : decode cX9_pieceKind 8 = .ok (.getfield 151, 3) := by decide +kernel
theorem dX9_pieceKind_11 : decode cX9_pieceKind 11 = .ok (.i2l, 1) := by decide +kernel
theorem dX9_pieceKind_12 : decode cX9_pieceKind 12 = .ok (.lcmp, 1) := by decide +kernel
theorem dX9_pieceKind_13 : decode cX9_pieceKind 13 = .ok (.ifCond .ge 16, 3) := by decide +kernel
theorem dX9_pieceKind_16 : decode cX9_pieceKind 16 = .ok (.aload_n 0, 1) := by decide +kernel
theorem dX9_pieceKind_17 : decode cX9_pieceKind 17 = .ok (.getfield 41, 3) := by decide +kernel
theorem dX9_pieceKind_20 : decode cX9_pieceKind 20 = .ok (.lload_n 1, 1) := by decide +kernel
theorem dX9_pieceKind_21 : decode cX9_pieceKind 21 = .ok (.l2i, 1) := by decide +kernel
theorem dX9_pieceKind_22 : decode cX9_pieceKind 22 = .ok (.aaload, 1) := by decide +kernel
theorem dX9_pieceKind_23 : decode cX9_pieceKind 23 = .ok (.getfield 211, 3) := by decide +kernel
theorem dX9_pieceKind_26 : decode cX9_pieceKind 26 = .ok (.goto 4, 3) := by decide +kernel
theorem dX9_pieceKind_29 : decode cX9_pieceKind 29 = .ok (.iconst (-1), 1) := by decide +kernel
theorem dX9_pieceKind_30 : decode cX9_pieceKind 30 = .ok (.ireturn, 1) := by decide +kernel
theorem dX9_isClosed_0 : decode cX9_isClosed 0 = .ok (.aload_n 0, 1) := by decide +kernel
theorem dX9_isClosed_1 : decode cX9_isClosed 1 = .ok (.getfield 151, 3) := by decide +kernel
theorem dX9_isClosed_4 : decode cX9_isClosed 4 = .ok (.ifCond .le 7, 3) := by decide +kernel
theorem dX9_isClosed_7 : decode cX9_isClosed 7 = .ok (.iconst 1, 1) := by decide +kernel
theorem dX9_isClosed_8 : decode cX9_isClosed 8 = .ok (.goto 4, 3) := by decide +kernel
theorem dX9_isClosed_11 : decode cX9_isClosed 11 = .ok (.iconst 0, 1) := by decide +kernel
theorem dX9_isClosed_12 : decode cX9_isClosed 12 = .ok (.ireturn, 1) := by decide +kernel
theorem dX9_within_0 : decode cX9_within 0 = .ok (.dload_n 0, 1) := by decide +kernel
theorem dX9_within_1 : decode cX9_within 1 = .ok (.dload_n 2, 1) := by decide +kernel
theorem dX9_within_2 : decode cX9_within 2 = .ok (.dcmp .l, 1) := by decide +kernel
theorem dX9_within_3 : decode cX9_within 3 = .ok (.ifCond .lt 14, 3) := by decide +kernel
theorem dX9_within_6 : decode cX9_within 6 = .ok (.dload_n 0, 1) := by decide +kernel
theorem dX9_within_7 : decode cX9_within 7 = .ok (.dload 4, 2) := by decide +kernel
theorem dX9_within_9 : decode cX9_within 9 = .ok (.dcmp .g, 1) := by decide +kernel
theorem dX9_within_10 : decode cX9_within 10 = .ok (.ifCond .gt 7, 3) := by decide +kernel
theorem dX9_within_13 : decode cX9_within 13 = .ok (.iconst 1, 1) := by decide +kernel
theorem dX9_within_14 : decode cX9_within 14 = .ok (.goto 4, 3) := by decide +kernel
theorem dX9_within_17 : decode cX9_within 17 = .ok (.iconst 0, 1) := by decide +kernel
theorem dX9_within_18 : decode cX9_within 18 = .ok (.ireturn, 1) := by decide +kernel
theorem dX9_isKind_0 : decode cX9_isKind 0 = .ok (.iload_n 0, 1) := by decide +kernel
theorem dX9_isKind_1 : decode cX9_isKind 1 = .ok (.ifCond .lt 12, 3) := by decide +kernel
theorem dX9_isKind_4 : decode cX9_isKind 4 = .ok (.iload_n 0, 1) := by decide +kernel
theorem dX9_isKind_5 : decode cX9_isKind 5 = .ok (.iconst 5, 1) := by decide +kernel
theorem dX9_isKind_6 : decode cX9_isKind 6 = .ok (.if_icmp .ge 7, 3) := by decide +kernel
theorem dX9_isKind_9 : decode cX9_isKind 9 = .ok (.iconst 1, 1) := by decide +kernel
theorem dX9_isKind_10 : decode cX9_isKind 10 = .ok (.goto 4, 3) := by decide +kernel
theorem dX9_isKind_13 : decode cX9_isKind 13 = .ok (.iconst 0, 1) := by decide +kernel
theorem dX9_isKind_14 : decode cX9_isKind 14 = .ok (.ireturn, 1) := by decide +kernel
theorem dX9_beltNumbered_0 : decode cX9_beltNumbered 0 = .ok (.iload_n 1, 1) := by decide +kernel
theorem dX9_beltNumbered_1 : decode cX9_beltNumbered 1 = .ok (.ifCond .lt 20, 3) := by decide +kernel
theorem dX9_beltNumbered_4 : decode cX9_beltNumbered 4 = .ok (.iload_n 1, 1) := by decide +kernel
theorem dX9_beltNumbered_5 : decode cX9_beltNumbered 5 = .ok (.aload_n 0, 1) := by decide +kernel
theorem dX9_beltNumbered_6 : decode cX9_beltNumbered 6 = .ok (.getfield 72, 3) := by decide +kernel
theorem dX9_beltNumbered_9 : decode cX9_beltNumbered 9 = .ok (.if_icmp .ge 12, 3) := by decide +kernel
theorem dX9_beltNumbered_12 : decode cX9_beltNumbered 12 = .ok (.aload_n 0, 1) := by decide +kernel
theorem dX9_beltNumbered_13 : decode cX9_beltNumbered 13 = .ok (.getfield 11, 3) := by decide +kernel
theorem dX9_beltNumbered_16 : decode cX9_beltNumbered 16 = .ok (.iload_n 1, 1) := by decide +kernel
theorem dX9_beltNumbered_17 : decode cX9_beltNumbered 17 = .ok (.aaload, 1) := by decide +kernel
theorem dX9_beltNumbered_18 : decode cX9_beltNumbered 18 = .ok (.goto 4, 3) := by decide +kernel
theorem dX9_beltNumbered_21 : decode cX9_beltNumbered 21 = .ok (.aconst_null, 1) := by decide +kernel
theorem dX9_beltNumbered_22 : decode cX9_beltNumbered 22 = .ok (.areturn, 1) := by decide +kernel
theorem dX9_bunkerJoinedBy_0 : decode cX9_bunkerJoinedBy 0 = .ok (.iload_n 1, 1) := by decide +kernel
theorem dX9_bunkerJoinedBy_1 : decode cX9_bunkerJoinedBy 1 = .ok (.bipush (-2), 2) := by decide +kernel
theorem dX9_bunkerJoinedBy_3 : decode cX9_bunkerJoinedBy 3 = .ok (.if_icmp .le 5, 3) := by decide +kernel
theorem dX9_bunkerJoinedBy_6 : decode cX9_bunkerJoinedBy 6 = .ok (.aconst_null, 1) := by decide +kernel
theorem dX9_bunkerJoinedBy_7 : decode cX9_bunkerJoinedBy 7 = .ok (.areturn, 1) := by decide +kernel
theorem dX9_bunkerJoinedBy_8 : decode cX9_bunkerJoinedBy 8 = .ok (.bipush (-2), 2) := by decide +kernel
theorem dX9_bunkerJoinedBy_10 : decode cX9_bunkerJoinedBy 10 = .ok (.iload_n 1, 1) := by decide +kernel
theorem dX9_bunkerJoinedBy_11 : decode cX9_bunkerJoinedBy 11 = .ok (.isub, 1) := by decide +kernel
theorem dX9_bunkerJoinedBy_12 : decode cX9_bunkerJoinedBy 12 = .ok (.istore_n 2, 1) := by decide +kernel
theorem dX9_bunkerJoinedBy_13 : decode cX9_bunkerJoinedBy 13 = .ok (.iload_n 2, 1) := by decide +kernel
theorem dX9_bunkerJoinedBy_14 : decode cX9_bunkerJoinedBy 14 = .ok (.ifCond .lt 20, 3) := by decide +kernel
theorem dX9_bunkerJoinedBy_17 : decode cX9_bunkerJoinedBy 17 = .ok (.iload_n 2, 1) := by decide +kernel
theorem dX9_bunkerJoinedBy_18 : decode cX9_bunkerJoinedBy 18 = .ok (.aload_n 0, 1) := by decide +kernel
theorem dX9_bunkerJoinedBy_19 : decode cX9_bunkerJoinedBy 19 = .ok (.getfield 105, 3) := by decide +kernel
theorem dX9_bunkerJoinedBy_22 : decode cX9_bunkerJoinedBy 22 = .ok (.if_icmp .ge 12, 3) := by decide +kernel
theorem dX9_bunkerJoinedBy_25 : decode cX9_bunkerJoinedBy 25 = .ok (.aload_n 0, 1) := by decide +kernel
theorem dX9_bunkerJoinedBy_26 : decode cX9_bunkerJoinedBy 26 = .ok (.getfield 23, 3) := by decide +kernel
theorem dX9_bunkerJoinedBy_29 : decode cX9_bunkerJoinedBy 29 = .ok (.iload_n 2, 1) := by decide +kernel
theorem dX9_bunkerJoinedBy_30 : decode cX9_bunkerJoinedBy 30 = .ok (.aaload, 1) := by decide +kernel
theorem dX9_bunkerJoinedBy_31 : decode cX9_bunkerJoinedBy 31 = .ok (.goto 4, 3) := by decide +kernel
theorem dX9_bunkerJoinedBy_34 : decode cX9_bunkerJoinedBy 34 = .ok (.aconst_null, 1) := by decide +kernel
theorem dX9_bunkerJoinedBy_35 : decode cX9_bunkerJoinedBy 35 = .ok (.areturn, 1) := by decide +kernel
theorem dX9_onBelts_0 : decode cX9_onBelts 0 = .ok (.iconst 0, 1) := by decide +kernel
theorem dX9_onBelts_1 : decode cX9_onBelts 1 = .ok (.istore_n 1, 1) := by decide +kernel
theorem dX9_onBelts_2 : decode cX9_onBelts 2 = .ok (.iconst 0, 1) := by decide +kernel
theorem dX9_onBelts_3 : decode cX9_onBelts 3 = .ok (.istore_n 2, 1) := by decide +kernel
theorem dX9_onBelts_4 : decode cX9_onBelts 4 = .ok (.iload_n 2, 1) := by decide +kernel
theorem dX9_onBelts_5 : decode cX9_onBelts 5 = .ok (.aload_n 0, 1) := by decide +kernel
theorem dX9_onBelts_6 : decode cX9_onBelts 6 = .ok (.getfield 151, 3) := by decide +kernel
theorem dX9_onBelts_9 : decode cX9_onBelts 9 = .ok (.if_icmp .ge 24, 3) := by decide +kernel
theorem dX9_onBelts_12 : decode cX9_onBelts 12 = .ok (.aload_n 0, 1) := by decide +kernel
theorem dX9_onBelts_13 : decode cX9_onBelts 13 = .ok (.getfield 41, 3) := by decide +kernel
theorem dX9_onBelts_16 : decode cX9_onBelts 16 = .ok (.iload_n 2, 1) := by decide +kernel
theorem dX9_onBelts_17 : decode cX9_onBelts 17 = .ok (.aaload, 1) := by decide +kernel
theorem dX9_onBelts_18 : decode cX9_onBelts 18 = .ok (.getfield 214, 3) := by decide +kernel
theorem dX9_onBelts_21 : decode cX9_onBelts 21 = .ok (.ifnull 6, 3) := by decide +kernel
theorem dX9_onBelts_24 : decode cX9_onBelts 24 = .ok (.iinc 1 1, 3) := by decide +kernel
theorem dX9_onBelts_27 : decode cX9_onBelts 27 = .ok (.iinc 2 1, 3) := by decide +kernel
theorem dX9_onBelts_30 : decode cX9_onBelts 30 = .ok (.goto (-26), 3) := by decide +kernel
theorem dX9_onBelts_33 : decode cX9_onBelts 33 = .ok (.iload_n 1, 1) := by decide +kernel
theorem dX9_onBelts_34 : decode cX9_onBelts 34 = .ok (.ireturn, 1) := by decide +kernel
theorem dX9_passOneTenth_0 : decode cX9_passOneTenth 0 = .ok (.iconst 0, 1) := by decide +kernel
theorem dX9_passOneTenth_1 : decode cX9_passOneTenth 1 = .ok (.istore_n 1, 1) := by decide +kernel
theorem dX9_passOneTenth_2 : decode cX9_passOneTenth 2 = .ok (.iload_n 1, 1) := by decide +kernel
theorem dX9_passOneTenth_3 : decode cX9_passOneTenth 3 = .ok (.aload_n 0, 1) := by decide +kernel
theorem dX9_passOneTenth_4 : decode cX9_passOneTenth 4 = .ok (.getfield 151, 3) := by decide +kernel
theorem dX9_passOneTenth_7 : decode cX9_passOneTenth 7 = .ok (.if_icmp .ge 19, 3) := by decide +kernel
theorem dX9_passOneTenth_10 : decode cX9_passOneTenth 10 = .ok (.aload_n 0, 1) := by decide +kernel
theorem dX9_passOneTenth_11 : decode cX9_passOneTenth 11 = .ok (.aload_n 0, 1) := by decide +kernel
theorem dX9_passOneTenth_12 : decode cX9_passOneTenth 12 = .ok (.getfield 41, 3) := by decide +kernel
theorem dX9_passOneTenth_15 : decode cX9_passOneTenth 15 = .ok (.iload_n 1, 1) := by decide +kernel
theorem dX9_passOneTenth_16 : decode cX9_passOneTenth 16 = .ok (.aaload, 1) := by decide +kernel
theorem dX9_passOneTenth_17 : decode cX9_passOneTenth 17 = .ok (.invokevirtual 217, 3) := by decide +kernel
theorem dX9_passOneTenth_20 : decode cX9_passOneTenth 20 = .ok (.iinc 1 1, 3) := by decide +kernel
theorem dX9_passOneTenth_23 : decode cX9_passOneTenth 23 = .ok (.goto (-21), 3) := by decide +kernel
theorem dX9_passOneTenth_26 : decode cX9_passOneTenth 26 = .ok (.iconst 0, 1) := by decide +kernel
theorem dX9_passOneTenth_27 : decode cX9_passOneTenth 27 = .ok (.istore_n 1, 1) := by decide +kernel
theorem dX9_passOneTenth_28 : decode cX9_passOneTenth 28 = .ok (.iload_n 1, 1) := by decide +kernel
theorem dX9_passOneTenth_29 : decode cX9_passOneTenth 29 = .ok (.aload_n 0, 1) := by decide +kernel
theorem dX9_passOneTenth_30 : decode cX9_passOneTenth 30 = .ok (.getfield 151, 3) := by decide +kernel
theorem dX9_passOneTenth_33 : decode cX9_passOneTenth 33 = .ok (.if_icmp .ge 19, 3) := by decide +kernel
theorem dX9_passOneTenth_36 : decode cX9_passOneTenth 36 = .ok (.aload_n 0, 1) := by decide +kernel
theorem dX9_passOneTenth_37 : decode cX9_passOneTenth 37 = .ok (.aload_n 0, 1) := by decide +kernel
theorem dX9_passOneTenth_38 : decode cX9_passOneTenth 38 = .ok (.getfield 41, 3) := by decide +kernel
theorem dX9_passOneTenth_41 : decode cX9_passOneTenth 41 = .ok (.iload_n 1, 1) := by decide +kernel
theorem dX9_passOneTenth_42 : decode cX9_passOneTenth 42 = .ok (.aaload, 1) := by decide +kernel
theorem dX9_passOneTenth_43 : decode cX9_passOneTenth 43 = .ok (.invokevirtual 221, 3) := by decide +kernel
theorem dX9_passOneTenth_46 : decode cX9_passOneTenth 46 = .ok (.iinc 1 1, 3) := by decide +kernel
theorem dX9_passOneTenth_49 : decode cX9_passOneTenth 49 = .ok (.goto (-21), 3) := by decide +kernel
theorem dX9_passOneTenth_52 : decode cX9_passOneTenth 52 = .ok (.return_, 1) := by decide +kernel
theorem dX9_comeOn_0 : decode cX9_comeOn 0 = .ok (.aload_n 1, 1) := by decide +kernel
theorem dX9_comeOn_1 : decode cX9_comeOn 1 = .ok (.getfield 214, 3) := by decide +kernel
theorem dX9_comeOn_4 : decode cX9_comeOn 4 = .ok (.astore_n 2, 1) := by decide +kernel
theorem dX9_comeOn_5 : decode cX9_comeOn 5 = .ok (.aload_n 1, 1) := by decide +kernel
theorem dX9_comeOn_6 : decode cX9_comeOn 6 = .ok (.aload_n 2, 1) := by decide +kernel
theorem dX9_comeOn_7 : decode cX9_comeOn 7 = .ok (.ifnull 18, 3) := by decide +kernel
theorem dX9_comeOn_10 : decode cX9_comeOn 10 = .ok (.aload_n 2, 1) := by decide +kernel
theorem dX9_comeOn_11 : decode cX9_comeOn 11 = .ok (.aload_n 0, 1) := by decide +kernel
theorem dX9_comeOn_12 : decode cX9_comeOn 12 = .ok (.getfield 158, 3) := by decide +kernel
theorem dX9_comeOn_15 : decode cX9_comeOn 15 = .ok (.invokevirtual 224, 3) := by decide +kernel
theorem dX9_comeOn_18 : decode cX9_comeOn 18 = .ok (.ifCond .eq 7, 3) := by decide +kernel
theorem dX9_comeOn_21 : decode cX9_comeOn 21 = .ok (.iconst 1, 1) := by decide +kernel
theorem dX9_comeOn_22 : decode cX9_comeOn 22 = .ok (.goto 4, 3) := by decide +kernel
theorem dX9_comeOn_25 : decode cX9_comeOn 25 = .ok (.iconst 0, 1) := by decide +kernel
theorem dX9_comeOn_26 : decode cX9_comeOn 26 = .ok (.putfield 227, 3) := by decide +kernel
theorem dX9_comeOn_29 : decode cX9_comeOn 29 = .ok (.aload_n 1, 1) := by decide +kernel
theorem dX9_comeOn_30 : decode cX9_comeOn 30 = .ok (.getfield 227, 3) := by decide +kernel
theorem dX9_comeOn_33 : decode cX9_comeOn 33 = .ok (.ifCond .eq 13, 3) := by decide +kernel
theorem dX9_comeOn_36 : decode cX9_comeOn 36 = .ok (.aload_n 1, 1) := by decide +kernel
theorem dX9_comeOn_37 : decode cX9_comeOn 37 = .ok (.dup, 1) := by decide +kernel
theorem dX9_comeOn_38 : decode cX9_comeOn 38 = .ok (.getfield 230, 3) := by decide +kernel
theorem dX9_comeOn_41 : decode cX9_comeOn 41 = .ok (.iconst 1, 1) := by decide +kernel
theorem dX9_comeOn_42 : decode cX9_comeOn 42 = .ok (.iadd, 1) := by decide +kernel
theorem dX9_comeOn_43 : decode cX9_comeOn 43 = .ok (.putfield 230, 3) := by decide +kernel
theorem dX9_comeOn_46 : decode cX9_comeOn 46 = .ok (.return_, 1) := by decide +kernel
theorem dX9_act_0 : decode cX9_act 0 = .ok (.aload_n 1, 1) := by decide +kernel
theorem dX9_act_1 : decode cX9_act 1 = .ok (.getfield 214, 3) := by decide +kernel
theorem dX9_act_4 : decode cX9_act 4 = .ok (.astore_n 2, 1) := by decide +kernel
theorem dX9_act_5 : decode cX9_act 5 = .ok (.aload_n 1, 1) := by decide +kernel
theorem dX9_act_6 : decode cX9_act 6 = .ok (.getfield 208, 3) := by decide +kernel
theorem dX9_act_9 : decode cX9_act 9 = .ok (.aload_n 0, 1) := by decide +kernel
theorem dX9_act_10 : decode cX9_act 10 = .ok (.getfield 158, 3) := by decide +kernel
theorem dX9_act_13 : decode cX9_act 13 = .ok (.if_icmp .ne 15, 3) := by decide +kernel
theorem dX9_act_16 : decode cX9_act 16 = .ok (.aload_n 0, 1) := by decide +kernel
theorem dX9_act_17 : decode cX9_act 17 = .ok (.aload_n 1, 1) := by decide +kernel
theorem dX9_act_18 : decode cX9_act 18 = .ok (.aload_n 1, 1) := by decide +kernel
theorem dX9_act_19 : decode cX9_act 19 = .ok (.getfield 233, 3) := by decide +kernel
theorem dX9_act_22 : decode cX9_act 22 = .ok (.invokevirtual 236, 3) := by decide +kernel
theorem dX9_act_25 : decode cX9_act 25 = .ok (.goto 37, 3) := by decide +kernel
theorem dX9_act_28 : decode cX9_act 28 = .ok (.aload_n 2, 1) := by decide +kernel
theorem dX9_act_29 : decode cX9_act 29 = .ok (.ifnull 33, 3) := by decide +kernel
theorem dX9_act_32 : decode cX9_act 32 = .ok (.aload_n 1, 1) := by decide +kernel
theorem dX9_act_33 : decode cX9_act 33 = .ok (.getfield 227, 3) := by decide +kernel
theorem dX9_act_36 : decode cX9_act 36 = .ok (.ifCond .eq 26, 3) := by decide +kernel
theorem dX9_act_39 : decode cX9_act 39 = .ok (.aload_n 0, 1) := by decide +kernel
theorem dX9_act_40 : decode cX9_act 40 = .ok (.aload_n 1, 1) := by decide +kernel
theorem dX9_act_41 : decode cX9_act 41 = .ok (.aload_n 2, 1) := by decide +kernel
theorem dX9_act_42 : decode cX9_act 42 = .ok (.invokevirtual 240, 3) := by decide +kernel
theorem dX9_act_45 : decode cX9_act 45 = .ok (.aload_n 1, 1) := by decide +kernel
theorem dX9_act_46 : decode cX9_act 46 = .ok (.getfield 230, 3) := by decide +kernel
theorem dX9_act_49 : decode cX9_act 49 = .ok (.aload_n 2, 1) := by decide +kernel
theorem dX9_act_50 : decode cX9_act 50 = .ok (.getfield 243, 3) := by decide +kernel
theorem dX9_act_53 : decode cX9_act 53 = .ok (.if_icmp .ne 9, 3) := by decide +kernel
theorem dX9_act_56 : decode cX9_act 56 = .ok (.aload_n 0, 1) := by decide +kernel
theorem dX9_act_57 : decode cX9_act 57 = .ok (.aload_n 1, 1) := by decide +kernel
theorem dX9_act_58 : decode cX9_act 58 = .ok (.aload_n 2, 1) := by decide +kernel
theorem dX9_act_59 : decode cX9_act 59 = .ok (.invokevirtual 246, 3) := by decide +kernel
theorem dX9_act_62 : decode cX9_act 62 = .ok (.return_, 1) := by decide +kernel
theorem dX9_enter_0 : decode cX9_enter 0 = .ok (.aload_n 2, 1) := by decide +kernel
theorem dX9_enter_1 : decode cX9_enter 1 = .ok (.aload_n 0, 1) := by decide +kernel
theorem dX9_enter_2 : decode cX9_enter 2 = .ok (.getfield 158, 3) := by decide +kernel
theorem dX9_enter_5 : decode cX9_enter 5 = .ok (.invokevirtual 249, 3) := by decide +kernel
theorem dX9_enter_8 : decode cX9_enter 8 = .ok (.ifCond .eq 40, 3) := by decide +kernel
theorem dX9_enter_11 : decode cX9_enter 11 = .ok (.aload_n 0, 1) := by decide +kernel
theorem dX9_enter_12 : decode cX9_enter 12 = .ok (.getfield 60, 3) := by decide +kernel
theorem dX9_enter_15 : decode cX9_enter 15 = .ok (.getfield 196, 3) := by decide +kernel
theorem dX9_enter_18 : decode cX9_enter 18 = .ok (.iconst 1, 1) := by decide +kernel
theorem dX9_enter_19 : decode cX9_enter 19 = .ok (.dup2, 1) := by decide +kernel
theorem dX9_enter_20 : decode cX9_enter 20 = .ok (.laload, 1) := by decide +kernel
theorem dX9_enter_21 : decode cX9_enter 21 = .ok (.lconst 1, 1) := by decide +kernel
theorem dX9_enter_22 : decode cX9_enter 22 = .ok (.ladd, 1) := by decide +kernel
theorem dX9_enter_23 : decode cX9_enter 23 = .ok (.lastore, 1) := by decide +kernel
theorem dX9_enter_24 : decode cX9_enter 24 = .ok (.aload_n 0, 1) := by decide +kernel
theorem dX9_enter_25 : decode cX9_enter 25 = .ok (.getfield 50, 3) := by decide +kernel
theorem dX9_enter_28 : decode cX9_enter 28 = .ok (.aload_n 0, 1) := by decide +kernel
theorem dX9_enter_29 : decode cX9_enter 29 = .ok (.getfield 158, 3) := by decide +kernel
theorem dX9_enter_32 : decode cX9_enter 32 = .ok (.aload_n 1, 1) := by decide +kernel
theorem dX9_enter_33 : decode cX9_enter 33 = .ok (.getfield 252, 3) := by decide +kernel
theorem dX9_enter_36 : decode cX9_enter 36 = .ok (.bipush 7, 2) := by decide +kernel
theorem dX9_enter_38 : decode cX9_enter 38 = .ok (.aload_n 2, 1) := by decide +kernel
theorem dX9_enter_39 : decode cX9_enter 39 = .ok (.getfield 255, 3) := by decide +kernel
theorem dX9_enter_42 : decode cX9_enter 42 = .ok (.invokevirtual 256, 3) := by decide +kernel
theorem dX9_enter_45 : decode cX9_enter 45 = .ok (.goto 69, 3) := by decide +kernel
theorem dX9_enter_48 : decode cX9_enter 48 = .ok (.aload_n 2, 1) := by decide +kernel
theorem dX9_enter_49 : decode cX9_enter 49 = .ok (.getfield 125, 3) := by decide +kernel
theorem dX9_enter_52 : decode cX9_enter 52 = .ok (.ifCond .eq 26, 3) := by decide +kernel
theorem dX9_enter_55 : decode cX9_enter 55 = .ok (.aload_n 0, 1) := by decide +kernel
theorem dX9_enter_56 : decode cX9_enter 56 = .ok (.aload_n 1, 1) := by decide +kernel
theorem dX9_enter_57 : decode cX9_enter 57 = .ok (.aload_n 2, 1) := by decide +kernel
theorem dX9_enter_58 : decode cX9_enter 58 = .ok (.invokevirtual 260, 3) := by decide +kernel
theorem dX9_enter_61 : decode cX9_enter 61 = .ok (.aload_n 2, 1) := by decide +kernel
theorem dX9_enter_62 : decode cX9_enter 62 = .ok (.getfield 129, 3) := by decide +kernel
theorem dX9_enter_65 : decode cX9_enter 65 = .ok (.dcmp .l, 1) := by decide +kernel
theorem dX9_enter_66 : decode cX9_enter 66 = .ok (.ifCond .le 12, 3) := by decide +kernel
theorem dX9_enter_69 : decode cX9_enter 69 = .ok (.aload_n 0, 1) := by decide +kernel
theorem dX9_enter_70 : decode cX9_enter 70 = .ok (.aload_n 1, 1) := by decide +kernel
theorem dX9_enter_71 : decode cX9_enter 71 = .ok (.aload_n 2, 1) := by decide +kernel
theorem dX9_enter_72 : decode cX9_enter 72 = .ok (.invokevirtual 264, 3) := by decide +kernel
theorem dX9_enter_75 : decode cX9_enter 75 = .ok (.goto 39, 3) := by decide +kernel
theorem dX9_enter_78 : decode cX9_enter 78 = .ok (.aload_n 1, 1) := by decide +kernel
theorem dX9_enter_79 : decode cX9_enter 79 = .ok (.aload_n 2, 1) := by decide +kernel
theorem dX9_enter_80 : decode cX9_enter 80 = .ok (.putfield 214, 3) := by decide +kernel
theorem dX9_enter_83 : decode cX9_enter 83 = .ok (.aload_n 1, 1) := by decide +kernel
theorem dX9_enter_84 : decode cX9_enter 84 = .ok (.iconst 0, 1) := by decide +kernel
theorem dX9_enter_85 : decode cX9_enter 85 = .ok (.putfield 230, 3) := by decide +kernel
theorem dX9_enter_88 : decode cX9_enter 88 = .ok (.aload_n 0, 1) := by decide +kernel
theorem dX9_enter_89 : decode cX9_enter 89 = .ok (.getfield 50, 3) := by decide +kernel
theorem dX9_enter_92 : decode cX9_enter 92 = .ok (.aload_n 0, 1) := by decide +kernel
theorem dX9_enter_93 : decode cX9_enter 93 = .ok (.getfield 158, 3) := by decide +kernel
theorem dX9_enter_96 : decode cX9_enter 96 = .ok (.aload_n 1, 1) := by decide +kernel
theorem dX9_enter_97 : decode cX9_enter 97 = .ok (.getfield 252, 3) := by decide +kernel
theorem dX9_enter_100 : decode cX9_enter 100 = .ok (.iconst 0, 1) := by decide +kernel
theorem dX9_enter_101 : decode cX9_enter 101 = .ok (.aload_n 2, 1) := by decide +kernel
theorem dX9_enter_102 : decode cX9_enter 102 = .ok (.getfield 255, 3) := by decide +kernel
theorem dX9_enter_105 : decode cX9_enter 105 = .ok (.invokevirtual 256, 3) := by decide +kernel
theorem dX9_enter_108 : decode cX9_enter 108 = .ok (.aload_n 0, 1) := by decide +kernel
theorem dX9_enter_109 : decode cX9_enter 109 = .ok (.aload_n 1, 1) := by decide +kernel
theorem dX9_enter_110 : decode cX9_enter 110 = .ok (.aload_n 2, 1) := by decide +kernel
theorem dX9_enter_111 : decode cX9_enter 111 = .ok (.invokevirtual 240, 3) := by decide +kernel
theorem dX9_enter_114 : decode cX9_enter 114 = .ok (.return_, 1) := by decide +kernel
theorem dX9_loadWith_0 : decode cX9_loadWith 0 = .ok (.dconst 0, 1) := by decide +kernel
theorem dX9_loadWith_1 : decode cX9_loadWith 1 = .ok (.dstore_n 3, 1) := by decide +kernel
theorem dX9_loadWith_2 : decode cX9_loadWith 2 = .ok (.iconst 0, 1) := by decide +kernel
theorem dX9_loadWith_3 : decode cX9_loadWith 3 = .ok (.istore 5, 2) := by decide +kernel
theorem dX9_loadWith_5 : decode cX9_loadWith 5 = .ok (.iload 5, 2) := by decide +kernel
theorem dX9_loadWith_7 : decode cX9_loadWith 7 = .ok (.aload_n 0, 1) := by decide +kernel
theorem dX9_loadWith_8 : decode cX9_loadWith 8 = .ok (.getfield 151, 3) := by decide +kernel
theorem dX9_loadWith_11 : decode cX9_loadWith 11 = .ok (.if_icmp .ge 41, 3) := by decide +kernel
theorem dX9_loadWith_14 : decode cX9_loadWith 14 = .ok (.aload_n 0, 1) := by decide +kernel
theorem dX9_loadWith_15 : decode cX9_loadWith 15 = .ok (.getfield 41, 3) := by decide +kernel
theorem dX9_loadWith_18 : decode cX9_loadWith 18 = .ok (.iload 5, 2) := by decide +kernel
theorem dX9_loadWith_20 : decode cX9_loadWith 20 = .ok (.aaload, 1) := by decide +kernel
theorem dX9_loadWith_21 : decode cX9_loadWith 21 = .ok (.astore 6, 2) := by decide +kernel
theorem dX9_loadWith_23 : decode cX9_loadWith 23 = .ok (.aload 6, 2) := by decide +kernel
theorem dX9_loadWith_25 : decode cX9_loadWith 25 = .ok (.aload_n 1, 1) := by decide +kernel
theorem dX9_loadWith_26 : decode cX9_loadWith 26 = .ok (.if_acmp .eq 12, 3) := by decide +kernel
theorem dX9_loadWith_29 : decode cX9_loadWith 29 = .ok (.aload 6, 2) := by decide +kernel
theorem dX9_loadWith_31 : decode cX9_loadWith 31 = .ok (.getfield 214, 3) := by decide +kernel
theorem dX9_loadWith_34 : decode cX9_loadWith 34 = .ok (.aload_n 2, 1) := by decide +kernel
theorem dX9_loadWith_35 : decode cX9_loadWith 35 = .ok (.if_acmp .ne 11, 3) := by decide +kernel
theorem dX9_loadWith_38 : decode cX9_loadWith 38 = .ok (.dload_n 3, 1) := by decide +kernel
theorem dX9_loadWith_39 : decode cX9_loadWith 39 = .ok (.aload 6, 2) := by decide +kernel
theorem dX9_loadWith_41 : decode cX9_loadWith 41 = .ok (.getfield 267, 3) := by decide +kernel
theorem dX9_loadWith_44 : decode cX9_loadWith 44 = .ok (.dadd, 1) := by decide +kernel
theorem dX9_loadWith_45 : decode cX9_loadWith 45 = .ok (.dstore_n 3, 1) := by decide +kernel
theorem dX9_loadWith_46 : decode cX9_loadWith 46 = .ok (.iinc 5 1, 3) := by decide +kernel
theorem dX9_loadWith_49 : decode cX9_loadWith 49 = .ok (.goto (-44), 3) := by decide +kernel
theorem dX9_loadWith_52 : decode cX9_loadWith 52 = .ok (.dload_n 3, 1) := by decide +kernel
theorem dX9_loadWith_53 : decode cX9_loadWith 53 = .ok (.dreturn, 1) := by decide +kernel
theorem dX9_jamBy_0 : decode cX9_jamBy 0 = .ok (.iconst 0, 1) := by decide +kernel
theorem dX9_jamBy_1 : decode cX9_jamBy 1 = .ok (.istore_n 3, 1) := by decide +kernel
theorem dX9_jamBy_2 : decode cX9_jamBy 2 = .ok (.iconst 0, 1) := by decide +kernel
theorem dX9_jamBy_3 : decode cX9_jamBy 3 = .ok (.istore 4, 2) := by decide +kernel
theorem dX9_jamBy_5 : decode cX9_jamBy 5 = .ok (.iload 4, 2) := by decide +kernel
theorem dX9_jamBy_7 : decode cX9_jamBy 7 = .ok (.aload_n 0, 1) := by decide +kernel
theorem dX9_jamBy_8 : decode cX9_jamBy 8 = .ok (.getfield 151, 3) := by decide +kernel
theorem dX9_jamBy_11 : decode cX9_jamBy 11 = .ok (.if_icmp .ge 26, 3) := by decide +kernel
theorem dX9_jamBy_14 : decode cX9_jamBy 14 = .ok (.aload_n 0, 1) := by decide +kernel
theorem dX9_jamBy_15 : decode cX9_jamBy 15 = .ok (.getfield 41, 3) := by decide +kernel
theorem dX9_jamBy_18 : decode cX9_jamBy 18 = .ok (.iload 4, 2) := by decide +kernel
theorem dX9_jamBy_20 : decode cX9_jamBy 20 = .ok (.aaload, 1) := by decide +kernel
theorem dX9_jamBy_21 : decode cX9_jamBy 21 = .ok (.getfield 214, 3) := by decide +kernel
theorem dX9_jamBy_24 : decode cX9_jamBy 24 = .ok (.aload_n 2, 1) := by decide +kernel
theorem dX9_jamBy_25 : decode cX9_jamBy 25 = .ok (.if_acmp .ne 6, 3) := by decide +kernel
theorem dX9_jamBy_28 : decode cX9_jamBy 28 = .ok (.iinc 3 1, 3) := by decide +kernel
theorem dX9_jamBy_31 : decode cX9_jamBy 31 = .ok (.iinc 4 1, 3) := by decide +kernel
theorem dX9_jamBy_34 : decode cX9_jamBy 34 = .ok (.goto (-29), 3) := by decide +kernel
theorem dX9_jamBy_37 : decode cX9_jamBy 37 = .ok (.aload_n 2, 1) := by decide +kernel
theorem dX9_jamBy_38 : decode cX9_jamBy 38 = .ok (.aload_n 0, 1) := by decide +kernel
theorem dX9_jamBy_39 : decode cX9_jamBy 39 = .ok (.getfield 158, 3) := by decide +kernel
theorem dX9_jamBy_42 : decode cX9_jamBy 42 = .ok (.aload_n 2, 1) := by decide +kernel
theorem dX9_jamBy_43 : decode cX9_jamBy 43 = .ok (.getfield 132, 3) := by decide +kernel
theorem dX9_jamBy_46 : decode cX9_jamBy 46 = .ok (.iadd, 1) := by decide +kernel
theorem dX9_jamBy_47 : decode cX9_jamBy 47 = .ok (.putfield 270, 3) := by decide +kernel
theorem dX9_jamBy_50 : decode cX9_jamBy 50 = .ok (.aload_n 0, 1) := by decide +kernel
theorem dX9_jamBy_51 : decode cX9_jamBy 51 = .ok (.getfield 60, 3) := by decide +kernel
theorem dX9_jamBy_54 : decode cX9_jamBy 54 = .ok (.getfield 196, 3) := by decide +kernel
theorem dX9_jamBy_57 : decode cX9_jamBy 57 = .ok (.iconst 0, 1) := by decide +kernel
theorem dX9_jamBy_58 : decode cX9_jamBy 58 = .ok (.dup2, 1) := by decide +kernel
theorem dX9_jamBy_59 : decode cX9_jamBy 59 = .ok (.laload, 1) := by decide +kernel
theorem dX9_jamBy_60 : decode cX9_jamBy 60 = .ok (.lconst 1, 1) := by decide +kernel
theorem dX9_jamBy_61 : decode cX9_jamBy 61 = .ok (.ladd, 1) := by decide +kernel
theorem dX9_jamBy_62 : decode cX9_jamBy 62 = .ok (.lastore, 1) := by decide +kernel
theorem dX9_jamBy_63 : decode cX9_jamBy 63 = .ok (.aload_n 0, 1) := by decide +kernel
theorem dX9_jamBy_64 : decode cX9_jamBy 64 = .ok (.getfield 60, 3) := by decide +kernel
theorem dX9_jamBy_67 : decode cX9_jamBy 67 = .ok (.getfield 196, 3) := by decide +kernel
theorem dX9_jamBy_70 : decode cX9_jamBy 70 = .ok (.iconst 3, 1) := by decide +kernel
theorem dX9_jamBy_71 : decode cX9_jamBy 71 = .ok (.dup2, 1) := by decide +kernel
theorem dX9_jamBy_72 : decode cX9_jamBy 72 = .ok (.laload, 1) := by decide +kernel
theorem dX9_jamBy_73 : decode cX9_jamBy 73 = .ok (.aload_n 2, 1) := by decide +kernel
theorem dX9_jamBy_74 : decode cX9_jamBy 74 = .ok (.getfield 132, 3) := by decide +kernel
theorem dX9_jamBy_77 : decode cX9_jamBy 77 = .ok (.i2l, 1) := by decide +kernel
theorem dX9_jamBy_78 : decode cX9_jamBy 78 = .ok (.ladd, 1) := by decide +kernel
theorem dX9_jamBy_79 : decode cX9_jamBy 79 = .ok (.lastore, 1) := by decide +kernel
theorem dX9_jamBy_80 : decode cX9_jamBy 80 = .ok (.aload_n 0, 1) := by decide +kernel
theorem dX9_jamBy_81 : decode cX9_jamBy 81 = .ok (.getfield 54, 3) := by decide +kernel
theorem dX9_jamBy_84 : decode cX9_jamBy 84 = .ok (.aload_n 0, 1) := by decide +kernel
theorem dX9_jamBy_85 : decode cX9_jamBy 85 = .ok (.getfield 158, 3) := by decide +kernel
theorem dX9_jamBy_88 : decode cX9_jamBy 88 = .ok (.aload_n 1, 1) := by decide +kernel
theorem dX9_jamBy_89 : decode cX9_jamBy 89 = .ok (.getfield 252, 3) := by decide +kernel
theorem dX9_jamBy_92 : decode cX9_jamBy 92 = .ok (.aload_n 2, 1) := by decide +kernel
theorem dX9_jamBy_93 : decode cX9_jamBy 93 = .ok (.getfield 255, 3) := by decide +kernel
theorem dX9_jamBy_96 : decode cX9_jamBy 96 = .ok (.iload_n 3, 1) := by decide +kernel
theorem dX9_jamBy_97 : decode cX9_jamBy 97 = .ok (.invokevirtual 256, 3) := by decide +kernel
theorem dX9_jamBy_100 : decode cX9_jamBy 100 = .ok (.aload_n 0, 1) := by decide +kernel
theorem dX9_jamBy_101 : decode cX9_jamBy 101 = .ok (.getfield 50, 3) := by decide +kernel
theorem dX9_jamBy_104 : decode cX9_jamBy 104 = .ok (.aload_n 0, 1) := by decide +kernel
theorem dX9_jamBy_105 : decode cX9_jamBy 105 = .ok (.getfield 158, 3) := by decide +kernel
theorem dX9_jamBy_108 : decode cX9_jamBy 108 = .ok (.aload_n 1, 1) := by decide +kernel
theorem dX9_jamBy_109 : decode cX9_jamBy 109 = .ok (.getfield 252, 3) := by decide +kernel
theorem dX9_jamBy_112 : decode cX9_jamBy 112 = .ok (.iconst 3, 1) := by decide +kernel
theorem dX9_jamBy_113 : decode cX9_jamBy 113 = .ok (.aload_n 2, 1) := by decide +kernel
theorem dX9_jamBy_114 : decode cX9_jamBy 114 = .ok (.getfield 255, 3) := by decide +kernel
theorem dX9_jamBy_117 : decode cX9_jamBy 117 = .ok (.invokevirtual 256, 3) := by decide +kernel
theorem dX9_jamBy_120 : decode cX9_jamBy 120 = .ok (.return_, 1) := by decide +kernel
theorem dX9_passHeads_0 : decode cX9_passHeads 0 = .ok (.iconst 0, 1) := by decide +kernel
theorem dX9_passHeads_1 : decode cX9_passHeads 1 = .ok (.istore_n 3, 1) := by decide +kernel
theorem dX9_passHeads_2 : decode cX9_passHeads 2 = .ok (.iload_n 3, 1) := by decide +kernel
theorem dX9_passHeads_3 : decode cX9_passHeads 3 = .ok (.aload_n 0, 1) := by decide +kernel
theorem dX9_passHeads_4 : decode cX9_passHeads 4 = .ok (.getfield 91, 3) := by decide +kernel
theorem dX9_passHeads_7 : decode cX9_passHeads 7 = .ok (.if_icmp .ge 89, 3) := by decide +kernel
theorem dX9_passHeads_10 : decode cX9_passHeads 10 = .ok (.aload_n 0, 1) := by decide +kernel
theorem dX9_passHeads_11 : decode cX9_passHeads 11 = .ok (.getfield 17, 3) := by decide +kernel
theorem dX9_passHeads_14 : decode cX9_passHeads 14 = .ok (.iload_n 3, 1) := by decide +kernel
theorem dX9_passHeads_15 : decode cX9_passHeads 15 = .ok (.aaload, 1) := by decide +kernel
theorem dX9_passHeads_16 : decode cX9_passHeads 16 = .ok (.astore 4, 2) := by decide +kernel
theorem dX9_passHeads_18 : decode cX9_passHeads 18 = .ok (.aload 4, 2) := by decide +kernel
theorem dX9_passHeads_20 : decode cX9_passHeads 20 = .ok (.getfield 273, 3) := by decide +kernel
theorem dX9_passHeads_23 : decode cX9_passHeads 23 = .ok (.aload_n 2, 1) := by decide +kernel
theorem dX9_passHeads_24 : decode cX9_passHeads 24 = .ok (.if_acmp .ne 66, 3) := by decide +kernel
theorem dX9_passHeads_27 : decode cX9_passHeads 27 = .ok (.aload 4, 2) := by decide +kernel
theorem dX9_passHeads_29 : decode cX9_passHeads 29 = .ok (.getfield 274, 3) := by decide +kernel
theorem dX9_passHeads_32 : decode cX9_passHeads 32 = .ok (.aload_n 1, 1) := by decide +kernel
theorem dX9_passHeads_33 : decode cX9_passHeads 33 = .ok (.getfield 230, 3) := by decide +kernel
theorem dX9_passHeads_36 : decode cX9_passHeads 36 = .ok (.if_icmp .ne 54, 3) := by decide +kernel
theorem dX9_passHeads_39 : decode cX9_passHeads 39 = .ok (.aload_n 0, 1) := by decide +kernel
theorem dX9_passHeads_40 : decode cX9_passHeads 40 = .ok (.aload_n 1, 1) := by decide +kernel
theorem dX9_passHeads_41 : decode cX9_passHeads 41 = .ok (.getfield 252, 3) := by decide +kernel
theorem dX9_passHeads_44 : decode cX9_passHeads 44 = .ok (.iload_n 3, 1) := by decide +kernel
theorem dX9_passHeads_45 : decode cX9_passHeads 45 = .ok (.invokevirtual 275, 3) := by decide +kernel
theorem dX9_passHeads_48 : decode cX9_passHeads 48 = .ok (.aload 4, 2) := by decide +kernel
theorem dX9_passHeads_50 : decode cX9_passHeads 50 = .ok (.getfield 279, 3) := by decide +kernel
theorem dX9_passHeads_53 : decode cX9_passHeads 53 = .ok (.dcmp .g, 1) := by decide +kernel
theorem dX9_passHeads_54 : decode cX9_passHeads 54 = .ok (.ifCond .ge 7, 3) := by decide +kernel
theorem dX9_passHeads_57 : decode cX9_passHeads 57 = .ok (.iconst 1, 1) := by decide +kernel
theorem dX9_passHeads_58 : decode cX9_passHeads 58 = .ok (.goto 4, 3) := by decide +kernel
theorem dX9_passHeads_61 : decode cX9_passHeads 61 = .ok (.iconst 0, 1) := by decide +kernel
theorem dX9_passHeads_62 : decode cX9_passHeads 62 = .ok (.istore 5, 2) := by decide +kernel
theorem dX9_passHeads_64 : decode cX9_passHeads 64 = .ok (.aload_n 0, 1) := by decide +kernel
theorem dX9_passHeads_65 : decode cX9_passHeads 65 = .ok (.getfield 50, 3) := by decide +kernel
theorem dX9_passHeads_68 : decode cX9_passHeads 68 = .ok (.aload_n 0, 1) := by decide +kernel
theorem dX9_passHeads_69 : decode cX9_passHeads 69 = .ok (.getfield 158, 3) := by decide +kernel
theorem dX9_passHeads_72 : decode cX9_passHeads 72 = .ok (.aload_n 1, 1) := by decide +kernel
theorem dX9_passHeads_73 : decode cX9_passHeads 73 = .ok (.getfield 252, 3) := by decide +kernel
theorem dX9_passHeads_76 : decode cX9_passHeads 76 = .ok (.iload 5, 2) := by decide +kernel
theorem dX9_passHeads_78 : decode cX9_passHeads 78 = .ok (.ifCond .eq 7, 3) := by decide +kernel
theorem dX9_passHeads_81 : decode cX9_passHeads 81 = .ok (.iconst 2, 1) := by decide +kernel
theorem dX9_passHeads_82 : decode cX9_passHeads 82 = .ok (.goto 4, 3) := by decide +kernel
theorem dX9_passHeads_85 : decode cX9_passHeads 85 = .ok (.iconst 1, 1) := by decide +kernel
theorem dX9_passHeads_86 : decode cX9_passHeads 86 = .ok (.iload_n 3, 1) := by decide +kernel
theorem dX9_passHeads_87 : decode cX9_passHeads 87 = .ok (.invokevirtual 256, 3) := by decide +kernel
theorem dX9_passHeads_90 : decode cX9_passHeads 90 = .ok (.iinc 3 1, 3) := by decide +kernel
theorem dX9_passHeads_93 : decode cX9_passHeads 93 = .ok (.goto (-91), 3) := by decide +kernel
theorem dX9_passHeads_96 : decode cX9_passHeads 96 = .ok (.return_, 1) := by decide +kernel
theorem dX9_leave_0 : decode cX9_leave 0 = .ok (.aload_n 1, 1) := by decide +kernel
theorem dX9_leave_1 : decode cX9_leave 1 = .ok (.aconst_null, 1) := by decide +kernel
theorem dX9_leave_2 : decode cX9_leave 2 = .ok (.putfield 214, 3) := by decide +kernel
theorem dX9_leave_5 : decode cX9_leave 5 = .ok (.aload_n 0, 1) := by decide +kernel
theorem dX9_leave_6 : decode cX9_leave 6 = .ok (.aload_n 1, 1) := by decide +kernel
theorem dX9_leave_7 : decode cX9_leave 7 = .ok (.aload_n 2, 1) := by decide +kernel
theorem dX9_leave_8 : decode cX9_leave 8 = .ok (.invokevirtual 282, 3) := by decide +kernel
theorem dX9_leave_11 : decode cX9_leave 11 = .ok (.ifCond .ne 12, 3) := by decide +kernel
theorem dX9_leave_14 : decode cX9_leave 14 = .ok (.aload_n 0, 1) := by decide +kernel
theorem dX9_leave_15 : decode cX9_leave 15 = .ok (.aload_n 1, 1) := by decide +kernel
theorem dX9_leave_16 : decode cX9_leave 16 = .ok (.aload_n 2, 1) := by decide +kernel
theorem dX9_leave_17 : decode cX9_leave 17 = .ok (.invokevirtual 286, 3) := by decide +kernel
theorem dX9_leave_20 : decode cX9_leave 20 = .ok (.ifCond .eq 19, 3) := by decide +kernel
theorem dX9_leave_23 : decode cX9_leave 23 = .ok (.aload_n 0, 1) := by decide +kernel
theorem dX9_leave_24 : decode cX9_leave 24 = .ok (.getfield 60, 3) := by decide +kernel
theorem dX9_leave_27 : decode cX9_leave 27 = .ok (.dup, 1) := by decide +kernel
theorem dX9_leave_28 : decode cX9_leave 28 = .ok (.getfield 289, 3) := by decide +kernel
theorem dX9_leave_31 : decode cX9_leave 31 = .ok (.iconst 1, 1) := by decide +kernel
theorem dX9_leave_32 : decode cX9_leave 32 = .ok (.iadd, 1) := by decide +kernel
theorem dX9_leave_33 : decode cX9_leave 33 = .ok (.putfield 289, 3) := by decide +kernel
theorem dX9_leave_36 : decode cX9_leave 36 = .ok (.goto 90, 3) := by decide +kernel
theorem dX9_leave_39 : decode cX9_leave 39 = .ok (.aload_n 2, 1) := by decide +kernel
theorem dX9_leave_40 : decode cX9_leave 40 = .ok (.getfield 117, 3) := by decide +kernel
theorem dX9_leave_43 : decode cX9_leave 43 = .ok (.ifnull 15, 3) := by decide +kernel
theorem dX9_leave_46 : decode cX9_leave 46 = .ok (.aload_n 0, 1) := by decide +kernel
theorem dX9_leave_47 : decode cX9_leave 47 = .ok (.aload_n 1, 1) := by decide +kernel
theorem dX9_leave_48 : decode cX9_leave 48 = .ok (.aload_n 2, 1) := by decide +kernel
theorem dX9_leave_49 : decode cX9_leave 49 = .ok (.getfield 117, 3) := by decide +kernel
theorem dX9_leave_52 : decode cX9_leave 52 = .ok (.invokevirtual 236, 3) := by decide +kernel
theorem dX9_leave_55 : decode cX9_leave 55 = .ok (.goto 71, 3) := by decide +kernel
theorem dX9_leave_58 : decode cX9_leave 58 = .ok (.aload_n 2, 1) := by decide +kernel
theorem dX9_leave_59 : decode cX9_leave 59 = .ok (.getfield 121, 3) := by decide +kernel
theorem dX9_leave_62 : decode cX9_leave 62 = .ok (.ifnull 15, 3) := by decide +kernel
theorem dX9_leave_65 : decode cX9_leave 65 = .ok (.aload_n 0, 1) := by decide +kernel
theorem dX9_leave_66 : decode cX9_leave 66 = .ok (.aload_n 1, 1) := by decide +kernel
theorem dX9_leave_67 : decode cX9_leave 67 = .ok (.aload_n 2, 1) := by decide +kernel
theorem dX9_leave_68 : decode cX9_leave 68 = .ok (.getfield 121, 3) := by decide +kernel
theorem dX9_leave_71 : decode cX9_leave 71 = .ok (.invokevirtual 292, 3) := by decide +kernel
theorem dX9_leave_74 : decode cX9_leave 74 = .ok (.goto 52, 3) := by decide +kernel
theorem dX9_leave_77 : decode cX9_leave 77 = .ok (.aload_n 0, 1) := by decide +kernel
theorem dX9_leave_78 : decode cX9_leave 78 = .ok (.getfield 60, 3) := by decide +kernel
theorem dX9_leave_81 : decode cX9_leave 81 = .ok (.dup, 1) := by decide +kernel
theorem dX9_leave_82 : decode cX9_leave 82 = .ok (.getfield 296, 3) := by decide +kernel
theorem dX9_leave_85 : decode cX9_leave 85 = .ok (.iconst 1, 1) := by decide +kernel
theorem dX9_leave_86 : decode cX9_leave 86 = .ok (.iadd, 1) := by decide +kernel
theorem dX9_leave_87 : decode cX9_leave 87 = .ok (.putfield 296, 3) := by decide +kernel
theorem dX9_leave_90 : decode cX9_leave 90 = .ok (.aload_n 2, 1) := by decide +kernel
theorem dX9_leave_91 : decode cX9_leave 91 = .ok (.getfield 180, 3) := by decide +kernel
theorem dX9_leave_94 : decode cX9_leave 94 = .ok (.aload_n 1, 1) := by decide +kernel
theorem dX9_leave_95 : decode cX9_leave 95 = .ok (.getfield 211, 3) := by decide +kernel
theorem dX9_leave_98 : decode cX9_leave 98 = .ok (.aaload, 1) := by decide +kernel
theorem dX9_leave_99 : decode cX9_leave 99 = .ok (.aload_n 0, 1) := by decide +kernel
theorem dX9_leave_100 : decode cX9_leave 100 = .ok (.getfield 158, 3) := by decide +kernel
theorem dX9_leave_103 : decode cX9_leave 103 = .ok (.invokevirtual 299, 3) := by decide +kernel
theorem dX9_leave_106 : decode cX9_leave 106 = .ok (.aload_n 0, 1) := by decide +kernel
theorem dX9_leave_107 : decode cX9_leave 107 = .ok (.getfield 50, 3) := by decide +kernel
theorem dX9_leave_110 : decode cX9_leave 110 = .ok (.aload_n 0, 1) := by decide +kernel
theorem dX9_leave_111 : decode cX9_leave 111 = .ok (.getfield 158, 3) := by decide +kernel
theorem dX9_leave_114 : decode cX9_leave 114 = .ok (.aload_n 1, 1) := by decide +kernel
theorem dX9_leave_115 : decode cX9_leave 115 = .ok (.getfield 252, 3) := by decide +kernel
theorem dX9_leave_118 : decode cX9_leave 118 = .ok (.iconst 4, 1) := by decide +kernel
theorem dX9_leave_119 : decode cX9_leave 119 = .ok (.aload_n 2, 1) := by decide +kernel
theorem dX9_leave_120 : decode cX9_leave 120 = .ok (.getfield 255, 3) := by decide +kernel
theorem dX9_leave_123 : decode cX9_leave 123 = .ok (.invokevirtual 256, 3) := by decide +kernel
theorem dX9_leave_126 : decode cX9_leave 126 = .ok (.return_, 1) := by decide +kernel
theorem dX9_takenByRobot_0 : decode cX9_takenByRobot 0 = .ok (.aload_n 1, 1) := by decide +kernel
theorem dX9_takenByRobot_1 : decode cX9_takenByRobot 1 = .ok (.getfield 211, 3) := by decide +kernel
theorem dX9_takenByRobot_4 : decode cX9_takenByRobot 4 = .ok (.ifCond .ne 5, 3) := by decide +kernel
theorem dX9_takenByRobot_7 : decode cX9_takenByRobot 7 = .ok (.iconst 0, 1) := by decide +kernel
theorem dX9_takenByRobot_8 : decode cX9_takenByRobot 8 = .ok (.ireturn, 1) := by decide +kernel
theorem dX9_takenByRobot_9 : decode cX9_takenByRobot 9 = .ok (.iconst 0, 1) := by decide +kernel
theorem dX9_takenByRobot_10 : decode cX9_takenByRobot 10 = .ok (.istore_n 3, 1) := by decide +kernel
theorem dX9_takenByRobot_11 : decode cX9_takenByRobot 11 = .ok (.iload_n 3, 1) := by decide +kernel
theorem dX9_takenByRobot_12 : decode cX9_takenByRobot 12 = .ok (.aload_n 0, 1) := by decide +kernel
theorem dX9_takenByRobot_13 : decode cX9_takenByRobot 13 = .ok (.getfield 147, 3) := by decide +kernel
theorem dX9_takenByRobot_16 : decode cX9_takenByRobot 16 = .ok (.if_icmp .ge 80, 3) := by decide +kernel
theorem dX9_takenByRobot_19 : decode cX9_takenByRobot 19 = .ok (.aload_n 0, 1) := by decide +kernel
theorem dX9_takenByRobot_20 : decode cX9_takenByRobot 20 = .ok (.getfield 35, 3) := by decide +kernel
theorem dX9_takenByRobot_23 : decode cX9_takenByRobot 23 = .ok (.iload_n 3, 1) := by decide +kernel
theorem dX9_takenByRobot_24 : decode cX9_takenByRobot 24 = .ok (.aaload, 1) := by decide +kernel
theorem dX9_takenByRobot_25 : decode cX9_takenByRobot 25 = .ok (.astore 4, 2) := by decide +kernel
theorem dX9_takenByRobot_27 : decode cX9_takenByRobot 27 = .ok (.aload 4, 2) := by decide +kernel
theorem dX9_takenByRobot_29 : decode cX9_takenByRobot 29 = .ok (.getfield 301, 3) := by decide +kernel
theorem dX9_takenByRobot_32 : decode cX9_takenByRobot 32 = .ok (.aload_n 2, 1) := by decide +kernel
theorem dX9_takenByRobot_33 : decode cX9_takenByRobot 33 = .ok (.if_acmp .ne 57, 3) := by decide +kernel
theorem dX9_takenByRobot_36 : decode cX9_takenByRobot 36 = .ok (.aload_n 1, 1) := by decide +kernel
theorem dX9_takenByRobot_37 : decode cX9_takenByRobot 37 = .ok (.getfield 267, 3) := by decide +kernel
theorem dX9_takenByRobot_40 : decode cX9_takenByRobot 40 = .ok (.aload 4, 2) := by decide +kernel
theorem dX9_takenByRobot_42 : decode cX9_takenByRobot 42 = .ok (.getfield 302, 3) := by decide +kernel
theorem dX9_takenByRobot_45 : decode cX9_takenByRobot 45 = .ok (.dcmp .g, 1) := by decide +kernel
theorem dX9_takenByRobot_46 : decode cX9_takenByRobot 46 = .ok (.ifCond .gt 44, 3) := by decide +kernel
theorem dX9_takenByRobot_49 : decode cX9_takenByRobot 49 = .ok (.aload_n 0, 1) := by decide +kernel
theorem dX9_takenByRobot_50 : decode cX9_takenByRobot 50 = .ok (.aload_n 1, 1) := by decide +kernel
theorem dX9_takenByRobot_51 : decode cX9_takenByRobot 51 = .ok (.getfield 252, 3) := by decide +kernel
theorem dX9_takenByRobot_54 : decode cX9_takenByRobot 54 = .ok (.bipush 100, 2) := by decide +kernel
theorem dX9_takenByRobot_56 : decode cX9_takenByRobot 56 = .ok (.iload_n 3, 1) := by decide +kernel
theorem dX9_takenByRobot_57 : decode cX9_takenByRobot 57 = .ok (.iadd, 1) := by decide +kernel
theorem dX9_takenByRobot_58 : decode cX9_takenByRobot 58 = .ok (.invokevirtual 275, 3) := by decide +kernel
theorem dX9_takenByRobot_61 : decode cX9_takenByRobot 61 = .ok (.aload 4, 2) := by decide +kernel
theorem dX9_takenByRobot_63 : decode cX9_takenByRobot 63 = .ok (.getfield 305, 3) := by decide +kernel
theorem dX9_takenByRobot_66 : decode cX9_takenByRobot 66 = .ok (.dcmp .l, 1) := by decide +kernel
theorem dX9_takenByRobot_67 : decode cX9_takenByRobot 67 = .ok (.ifCond .lt 23, 3) := by decide +kernel
theorem dX9_takenByRobot_70 : decode cX9_takenByRobot 70 = .ok (.aload_n 0, 1) := by decide +kernel
theorem dX9_takenByRobot_71 : decode cX9_takenByRobot 71 = .ok (.getfield 50, 3) := by decide +kernel
theorem dX9_takenByRobot_74 : decode cX9_takenByRobot 74 = .ok (.aload_n 0, 1) := by decide +kernel
theorem dX9_takenByRobot_75 : decode cX9_takenByRobot 75 = .ok (.getfield 158, 3) := by decide +kernel
theorem dX9_takenByRobot_78 : decode cX9_takenByRobot 78 = .ok (.aload_n 1, 1) := by decide +kernel
theorem dX9_takenByRobot_79 : decode cX9_takenByRobot 79 = .ok (.getfield 252, 3) := by decide +kernel
theorem dX9_takenByRobot_82 : decode cX9_takenByRobot 82 = .ok (.bipush 6, 2) := by decide +kernel
theorem dX9_takenByRobot_84 : decode cX9_takenByRobot 84 = .ok (.iload_n 3, 1) := by decide +kernel
theorem dX9_takenByRobot_85 : decode cX9_takenByRobot 85 = .ok (.invokevirtual 256, 3) := by decide +kernel
theorem dX9_takenByRobot_88 : decode cX9_takenByRobot 88 = .ok (.iconst 1, 1) := by decide +kernel
theorem dX9_takenByRobot_89 : decode cX9_takenByRobot 89 = .ok (.ireturn, 1) := by decide +kernel
theorem dX9_takenByRobot_90 : decode cX9_takenByRobot 90 = .ok (.iinc 3 1, 3) := by decide +kernel
theorem dX9_takenByRobot_93 : decode cX9_takenByRobot 93 = .ok (.goto (-82), 3) := by decide +kernel
theorem dX9_takenByRobot_96 : decode cX9_takenByRobot 96 = .ok (.iconst 0, 1) := by decide +kernel
theorem dX9_takenByRobot_97 : decode cX9_takenByRobot 97 = .ok (.ireturn, 1) := by decide +kernel
theorem dX9_takenByPicker_0 : decode cX9_takenByPicker 0 = .ok (.aload_n 1, 1) := by decide +kernel
theorem dX9_takenByPicker_1 : decode cX9_takenByPicker 1 = .ok (.getfield 211, 3) := by decide +kernel
theorem dX9_takenByPicker_4 : decode cX9_takenByPicker 4 = .ok (.ifCond .ne 5, 3) := by decide +kernel
theorem dX9_takenByPicker_7 : decode cX9_takenByPicker 7 = .ok (.iconst 0, 1) := by decide +kernel
theorem dX9_takenByPicker_8 : decode cX9_takenByPicker 8 = .ok (.ireturn, 1) := by decide +kernel
theorem dX9_takenByPicker_9 : decode cX9_takenByPicker 9 = .ok (.iconst 0, 1) := by decide +kernel
theorem dX9_takenByPicker_10 : decode cX9_takenByPicker 10 = .ok (.istore_n 3, 1) := by decide +kernel
theorem dX9_takenByPicker_11 : decode cX9_takenByPicker 11 = .ok (.iload_n 3, 1) := by decide +kernel
theorem dX9_takenByPicker_12 : decode cX9_takenByPicker 12 = .ok (.aload_n 0, 1) := by decide +kernel
theorem dX9_takenByPicker_13 : decode cX9_takenByPicker 13 = .ok (.getfield 135, 3) := by decide +kernel
theorem dX9_takenByPicker_16 : decode cX9_takenByPicker 16 = .ok (.if_icmp .ge 66, 3) := by decide +kernel
theorem dX9_takenByPicker_19 : decode cX9_takenByPicker 19 = .ok (.aload_n 0, 1) := by decide +kernel
theorem dX9_takenByPicker_20 : decode cX9_takenByPicker 20 = .ok (.getfield 29, 3) := by decide +kernel
theorem dX9_takenByPicker_23 : decode cX9_takenByPicker 23 = .ok (.iload_n 3, 1) := by decide +kernel
theorem dX9_takenByPicker_24 : decode cX9_takenByPicker 24 = .ok (.aaload, 1) := by decide +kernel
theorem dX9_takenByPicker_25 : decode cX9_takenByPicker 25 = .ok (.astore 4, 2) := by decide +kernel
theorem dX9_takenByPicker_27 : decode cX9_takenByPicker 27 = .ok (.aload 4, 2) := by decide +kernel
theorem dX9_takenByPicker_29 : decode cX9_takenByPicker 29 = .ok (.getfield 306, 3) := by decide +kernel
theorem dX9_takenByPicker_32 : decode cX9_takenByPicker 32 = .ok (.aload_n 2, 1) := by decide +kernel
theorem dX9_takenByPicker_33 : decode cX9_takenByPicker 33 = .ok (.if_acmp .ne 43, 3) := by decide +kernel
theorem dX9_takenByPicker_36 : decode cX9_takenByPicker 36 = .ok (.aload_n 0, 1) := by decide +kernel
theorem dX9_takenByPicker_37 : decode cX9_takenByPicker 37 = .ok (.getfield 158, 3) := by decide +kernel
theorem dX9_takenByPicker_40 : decode cX9_takenByPicker 40 = .ok (.aload 4, 2) := by decide +kernel
theorem dX9_takenByPicker_42 : decode cX9_takenByPicker 42 = .ok (.getfield 307, 3) := by decide +kernel
theorem dX9_takenByPicker_45 : decode cX9_takenByPicker 45 = .ok (.if_icmp .lt 31, 3) := by decide +kernel
theorem dX9_takenByPicker_48 : decode cX9_takenByPicker 48 = .ok (.aload 4, 2) := by decide +kernel
theorem dX9_takenByPicker_50 : decode cX9_takenByPicker 50 = .ok (.aload_n 0, 1) := by decide +kernel
theorem dX9_takenByPicker_51 : decode cX9_takenByPicker 51 = .ok (.getfield 158, 3) := by decide +kernel
theorem dX9_takenByPicker_54 : decode cX9_takenByPicker 54 = .ok (.invokevirtual 310, 3) := by decide +kernel
theorem dX9_takenByPicker_57 : decode cX9_takenByPicker 57 = .ok (.aload_n 0, 1) := by decide +kernel
theorem dX9_takenByPicker_58 : decode cX9_takenByPicker 58 = .ok (.getfield 50, 3) := by decide +kernel
theorem dX9_takenByPicker_61 : decode cX9_takenByPicker 61 = .ok (.aload_n 0, 1) := by decide +kernel
theorem dX9_takenByPicker_62 : decode cX9_takenByPicker 62 = .ok (.getfield 158, 3) := by decide +kernel
theorem dX9_takenByPicker_65 : decode cX9_takenByPicker 65 = .ok (.aload_n 1, 1) := by decide +kernel
theorem dX9_takenByPicker_66 : decode cX9_takenByPicker 66 = .ok (.getfield 252, 3) := by decide +kernel
theorem dX9_takenByPicker_69 : decode cX9_takenByPicker 69 = .ok (.iconst 5, 1) := by decide +kernel
theorem dX9_takenByPicker_70 : decode cX9_takenByPicker 70 = .ok (.iload_n 3, 1) := by decide +kernel
theorem dX9_takenByPicker_71 : decode cX9_takenByPicker 71 = .ok (.invokevirtual 256, 3) := by decide +kernel
theorem dX9_takenByPicker_74 : decode cX9_takenByPicker 74 = .ok (.iconst 1, 1) := by decide +kernel
theorem dX9_takenByPicker_75 : decode cX9_takenByPicker 75 = .ok (.ireturn, 1) := by decide +kernel
theorem dX9_takenByPicker_76 : decode cX9_takenByPicker 76 = .ok (.iinc 3 1, 3) := by decide +kernel
theorem dX9_takenByPicker_79 : decode cX9_takenByPicker 79 = .ok (.goto (-68), 3) := by decide +kernel
theorem dX9_takenByPicker_82 : decode cX9_takenByPicker 82 = .ok (.iconst 0, 1) := by decide +kernel
theorem dX9_takenByPicker_83 : decode cX9_takenByPicker 83 = .ok (.ireturn, 1) := by decide +kernel
theorem dX9_fill_0 : decode cX9_fill 0 = .ok (.aload_n 2, 1) := by decide +kernel
theorem dX9_fill_1 : decode cX9_fill 1 = .ok (.getfield 313, 3) := by decide +kernel
theorem dX9_fill_4 : decode cX9_fill 4 = .ok (.aload_n 1, 1) := by decide +kernel
theorem dX9_fill_5 : decode cX9_fill 5 = .ok (.getfield 267, 3) := by decide +kernel
theorem dX9_fill_8 : decode cX9_fill 8 = .ok (.dadd, 1) := by decide +kernel
theorem dX9_fill_9 : decode cX9_fill 9 = .ok (.dstore_n 3, 1) := by decide +kernel
theorem dX9_fill_10 : decode cX9_fill 10 = .ok (.dload_n 3, 1) := by decide +kernel
theorem dX9_fill_11 : decode cX9_fill 11 = .ok (.aload_n 2, 1) := by decide +kernel
theorem dX9_fill_12 : decode cX9_fill 12 = .ok (.getfield 316, 3) := by decide +kernel
theorem dX9_fill_15 : decode cX9_fill 15 = .ok (.dcmp .g, 1) := by decide +kernel
theorem dX9_fill_16 : decode cX9_fill 16 = .ok (.ifCond .gt 45, 3) := by decide +kernel
theorem dX9_fill_19 : decode cX9_fill 19 = .ok (.aload_n 2, 1) := by decide +kernel
theorem dX9_fill_20 : decode cX9_fill 20 = .ok (.dload_n 3, 1) := by decide +kernel
theorem dX9_fill_21 : decode cX9_fill 21 = .ok (.putfield 313, 3) := by decide +kernel
theorem dX9_fill_24 : decode cX9_fill 24 = .ok (.aload_n 0, 1) := by decide +kernel
theorem dX9_fill_25 : decode cX9_fill 25 = .ok (.getfield 60, 3) := by decide +kernel
theorem dX9_fill_28 : decode cX9_fill 28 = .ok (.dup, 1) := by decide +kernel
theorem dX9_fill_29 : decode cX9_fill 29 = .ok (.getfield 193, 3) := by decide +kernel
theorem dX9_fill_32 : decode cX9_fill 32 = .ok (.iconst 1, 1) := by decide +kernel
theorem dX9_fill_33 : decode cX9_fill 33 = .ok (.iadd, 1) := by decide +kernel
theorem dX9_fill_34 : decode cX9_fill 34 = .ok (.putfield 193, 3) := by decide +kernel
theorem dX9_fill_37 : decode cX9_fill 37 = .ok (.aload_n 0, 1) := by decide +kernel
theorem dX9_fill_38 : decode cX9_fill 38 = .ok (.getfield 50, 3) := by decide +kernel
theorem dX9_fill_41 : decode cX9_fill 41 = .ok (.aload_n 0, 1) := by decide +kernel
theorem dX9_fill_42 : decode cX9_fill 42 = .ok (.getfield 158, 3) := by decide +kernel
theorem dX9_fill_45 : decode cX9_fill 45 = .ok (.aload_n 1, 1) := by decide +kernel
theorem dX9_fill_46 : decode cX9_fill 46 = .ok (.getfield 252, 3) := by decide +kernel
theorem dX9_fill_49 : decode cX9_fill 49 = .ok (.bipush 9, 2) := by decide +kernel
theorem dX9_fill_51 : decode cX9_fill 51 = .ok (.aload_n 2, 1) := by decide +kernel
theorem dX9_fill_52 : decode cX9_fill 52 = .ok (.getfield 319, 3) := by decide +kernel
theorem dX9_fill_55 : decode cX9_fill 55 = .ok (.invokevirtual 256, 3) := by decide +kernel
theorem dX9_fill_58 : decode cX9_fill 58 = .ok (.goto 37, 3) := by decide +kernel
theorem dX9_fill_61 : decode cX9_fill 61 = .ok (.aload_n 0, 1) := by decide +kernel
theorem dX9_fill_62 : decode cX9_fill 62 = .ok (.getfield 60, 3) := by decide +kernel
theorem dX9_fill_65 : decode cX9_fill 65 = .ok (.getfield 196, 3) := by decide +kernel
theorem dX9_fill_68 : decode cX9_fill 68 = .ok (.iconst 2, 1) := by decide +kernel
theorem dX9_fill_69 : decode cX9_fill 69 = .ok (.dup2, 1) := by decide +kernel
theorem dX9_fill_70 : decode cX9_fill 70 = .ok (.laload, 1) := by decide +kernel
theorem dX9_fill_71 : decode cX9_fill 71 = .ok (.lconst 1, 1) := by decide +kernel
theorem dX9_fill_72 : decode cX9_fill 72 = .ok (.ladd, 1) := by decide +kernel
theorem dX9_fill_73 : decode cX9_fill 73 = .ok (.lastore, 1) := by decide +kernel
theorem dX9_fill_74 : decode cX9_fill 74 = .ok (.aload_n 0, 1) := by decide +kernel
theorem dX9_fill_75 : decode cX9_fill 75 = .ok (.getfield 50, 3) := by decide +kernel
theorem dX9_fill_78 : decode cX9_fill 78 = .ok (.aload_n 0, 1) := by decide +kernel
theorem dX9_fill_79 : decode cX9_fill 79 = .ok (.getfield 158, 3) := by decide +kernel
theorem dX9_fill_82 : decode cX9_fill 82 = .ok (.aload_n 1, 1) := by decide +kernel
theorem dX9_fill_83 : decode cX9_fill 83 = .ok (.getfield 252, 3) := by decide +kernel
theorem dX9_fill_86 : decode cX9_fill 86 = .ok (.bipush 8, 2) := by decide +kernel
theorem dX9_fill_88 : decode cX9_fill 88 = .ok (.aload_n 2, 1) := by decide +kernel
theorem dX9_fill_89 : decode cX9_fill 89 = .ok (.getfield 319, 3) := by decide +kernel
theorem dX9_fill_92 : decode cX9_fill 92 = .ok (.invokevirtual 256, 3) := by decide +kernel
theorem dX9_fill_95 : decode cX9_fill 95 = .ok (.return_, 1) := by decide +kernel
theorem dX9_chance_0 : decode cX9_chance 0 = .ok (.aload_n 0, 1) := by decide +kernel
theorem dX9_chance_1 : decode cX9_chance 1 = .ok (.getfield 64, 3) := by decide +kernel
theorem dX9_chance_4 : decode cX9_chance 4 = .ok (.ldc2_w 320, 3) := by decide +kernel
theorem dX9_chance_7 : decode cX9_chance 7 = .ok (.lmul, 1) := by decide +kernel
theorem dX9_chance_8 : decode cX9_chance 8 = .ok (.iload_n 1, 1) := by decide +kernel
theorem dX9_chance_9 : decode cX9_chance 9 = .ok (.i2l, 1) := by decide +kernel
theorem dX9_chance_10 : decode cX9_chance 10 = .ok (.ldc2_w 322, 3) := by decide +kernel
theorem dX9_chance_13 : decode cX9_chance 13 = .ok (.lmul, 1) := by decide +kernel
theorem dX9_chance_14 : decode cX9_chance 14 = .ok (.ladd, 1) := by decide +kernel
theorem dX9_chance_15 : decode cX9_chance 15 = .ok (.iload_n 2, 1) := by decide +kernel
theorem dX9_chance_16 : decode cX9_chance 16 = .ok (.i2l, 1) := by decide +kernel
theorem dX9_chance_17 : decode cX9_chance 17 = .ok (.ldc2_w 324, 3) := by decide +kernel
theorem dX9_chance_20 : decode cX9_chance 20 = .ok (.lmul, 1) := by decide +kernel
theorem dX9_chance_21 : decode cX9_chance 21 = .ok (.ladd, 1) := by decide +kernel
theorem dX9_chance_22 : decode cX9_chance 22 = .ok (.lstore_n 3, 1) := by decide +kernel
theorem dX9_chance_23 : decode cX9_chance 23 = .ok (.lload_n 3, 1) := by decide +kernel
theorem dX9_chance_24 : decode cX9_chance 24 = .ok (.lload_n 3, 1) := by decide +kernel
theorem dX9_chance_25 : decode cX9_chance 25 = .ok (.bipush 29, 2) := by decide +kernel
theorem dX9_chance_27 : decode cX9_chance 27 = .ok (.lushr, 1) := by decide +kernel
theorem dX9_chance_28 : decode cX9_chance 28 = .ok (.lxor, 1) := by decide +kernel
theorem dX9_chance_29 : decode cX9_chance 29 = .ok (.ldc2_w 326, 3) := by decide +kernel
theorem dX9_chance_32 : decode cX9_chance 32 = .ok (.lmul, 1) := by decide +kernel
theorem dX9_chance_33 : decode cX9_chance 33 = .ok (.lstore_n 3, 1) := by decide +kernel
theorem dX9_chance_34 : decode cX9_chance 34 = .ok (.lload_n 3, 1) := by decide +kernel
theorem dX9_chance_35 : decode cX9_chance 35 = .ok (.lload_n 3, 1) := by decide +kernel
theorem dX9_chance_36 : decode cX9_chance 36 = .ok (.bipush 32, 2) := by decide +kernel
theorem dX9_chance_38 : decode cX9_chance 38 = .ok (.lushr, 1) := by decide +kernel
theorem dX9_chance_39 : decode cX9_chance 39 = .ok (.lxor, 1) := by decide +kernel
theorem dX9_chance_40 : decode cX9_chance 40 = .ok (.lstore_n 3, 1) := by decide +kernel
theorem dX9_chance_41 : decode cX9_chance 41 = .ok (.lload_n 3, 1) := by decide +kernel
theorem dX9_chance_42 : decode cX9_chance 42 = .ok (.bipush 11, 2) := by decide +kernel
theorem dX9_chance_44 : decode cX9_chance 44 = .ok (.lushr, 1) := by decide +kernel
theorem dX9_chance_45 : decode cX9_chance 45 = .ok (.l2d, 1) := by decide +kernel
theorem dX9_chance_46 : decode cX9_chance 46 = .ok (.ldc2_w 328, 3) := by decide +kernel
theorem dX9_chance_49 : decode cX9_chance 49 = .ok (.ddiv, 1) := by decide +kernel
theorem dX9_chance_50 : decode cX9_chance 50 = .ok (.dreturn, 1) := by decide +kernel
end
section
theorem dX10_init_0 : decode cX10_init 0 = .ok (.aload_n 0, 1) := by decide +kernel
theorem dX10_init_1 : decode cX10_init 1 = .ok (.invokespecial 1, 3) := by decide +kernel
theorem dX10_init_4 : decode cX10_init 4 = .ok (.aload_n 0, 1) := by decide +kernel
theorem dX10_init_5 : decode cX10_init 5 = .ok (.bipush 6, 2) := by decide +kernel
theorem dX10_init_7 : decode cX10_init 7 = .ok (.newarray .int, 2) := by decide +kernel
theorem dX10_init_9 : decode cX10_init 9 = .ok (.putfield 7, 3) := by decide +kernel
theorem dX10_init_12 : decode cX10_init 12 = .ok (.aload_n 0, 1) := by decide +kernel
theorem dX10_init_13 : decode cX10_init 13 = .ok (.bipush 6, 2) := by decide +kernel
theorem dX10_init_15 : decode cX10_init 15 = .ok (.newarray .double, 2) := by decide +kernel
theorem dX10_init_17 : decode cX10_init 17 = .ok (.putfield 13, 3) := by decide +kernel
theorem dX10_init_20 : decode cX10_init 20 = .ok (.aload_n 0, 1) := by decide +kernel
theorem dX10_init_21 : decode cX10_init 21 = .ok (.bipush 6, 2) := by decide +kernel
theorem dX10_init_23 : decode cX10_init 23 = .ok (.newarray .int, 2) := by decide +kernel
theorem dX10_init_25 : decode cX10_init 25 = .ok (.putfield 17, 3) := by decide +kernel
theorem dX10_init_28 : decode cX10_init 28 = .ok (.aload_n 0, 1) := by decide +kernel
theorem dX10_init_29 : decode cX10_init 29 = .ok (.bipush 6, 2) := by decide +kernel
theorem dX10_init_31 : decode cX10_init 31 = .ok (.newarray .boolean, 2) := by decide +kernel
theorem dX10_init_33 : decode cX10_init 33 = .ok (.putfield 20, 3) := by decide +kernel
theorem dX10_init_36 : decode cX10_init 36 = .ok (.aload_n 0, 1) := by decide +kernel
theorem dX10_init_37 : decode cX10_init 37 = .ok (.bipush 6, 2) := by decide +kernel
theorem dX10_init_39 : decode cX10_init 39 = .ok (.newarray .double, 2) := by decide +kernel
theorem dX10_init_41 : decode cX10_init 41 = .ok (.putfield 24, 3) := by decide +kernel
theorem dX10_init_44 : decode cX10_init 44 = .ok (.aload_n 0, 1) := by decide +kernel
theorem dX10_init_45 : decode cX10_init 45 = .ok (.bipush 6, 2) := by decide +kernel
theorem dX10_init_47 : decode cX10_init 47 = .ok (.newarray .int, 2) := by decide +kernel
theorem dX10_init_49 : decode cX10_init 49 = .ok (.putfield 27, 3) := by decide +kernel
theorem dX10_init_52 : decode cX10_init 52 = .ok (.aload_n 0, 1) := by decide +kernel
theorem dX10_init_53 : decode cX10_init 53 = .ok (.bipush 6, 2) := by decide +kernel
theorem dX10_init_55 : decode cX10_init 55 = .ok (.newarray .int, 2) := by decide +kernel
theorem dX10_init_57 : decode cX10_init 57 = .ok (.putfield 30, 3) := by decide +kernel
theorem dX10_init_60 : decode cX10_init 60 = .ok (.aload_n 0, 1) := by decide +kernel
theorem dX10_init_61 : decode cX10_init 61 = .ok (.bipush 8, 2) := by decide +kernel
theorem dX10_init_63 : decode cX10_init 63 = .ok (.newarray .int, 2) := by decide +kernel
theorem dX10_init_65 : decode cX10_init 65 = .ok (.putfield 33, 3) := by decide +kernel
theorem dX10_init_68 : decode cX10_init 68 = .ok (.aload_n 0, 1) := by decide +kernel
theorem dX10_init_69 : decode cX10_init 69 = .ok (.bipush 8, 2) := by decide +kernel
theorem dX10_init_71 : decode cX10_init 71 = .ok (.newarray .int, 2) := by decide +kernel
theorem dX10_init_73 : decode cX10_init 73 = .ok (.putfield 36, 3) := by decide +kernel
theorem dX10_init_76 : decode cX10_init 76 = .ok (.aload_n 0, 1) := by decide +kernel
theorem dX10_init_77 : decode cX10_init 77 = .ok (.bipush 8, 2) := by decide +kernel
theorem dX10_init_79 : decode cX10_init 79 = .ok (.newarray .double, 2) := by decide +kernel
theorem dX10_init_81 : decode cX10_init 81 = .ok (.putfield 39, 3) := by decide +kernel
theorem dX10_init_84 : decode cX10_init 84 = .ok (.aload_n 0, 1) := by decide +kernel
theorem dX10_init_85 : decode cX10_init 85 = .ok (.iconst 4, 1) := by decide +kernel
theorem dX10_init_86 : decode cX10_init 86 = .ok (.newarray .double, 2) := by decide +kernel
theorem dX10_init_88 : decode cX10_init 88 = .ok (.putfield 42, 3) := by decide +kernel
theorem dX10_init_91 : decode cX10_init 91 = .ok (.aload_n 0, 1) := by decide +kernel
theorem dX10_init_92 : decode cX10_init 92 = .ok (.iconst 4, 1) := by decide +kernel
theorem dX10_init_93 : decode cX10_init 93 = .ok (.newarray .double, 2) := by decide +kernel
theorem dX10_init_95 : decode cX10_init 95 = .ok (.putfield 45, 3) := by decide +kernel
theorem dX10_init_98 : decode cX10_init 98 = .ok (.aload_n 0, 1) := by decide +kernel
theorem dX10_init_99 : decode cX10_init 99 = .ok (.iconst 4, 1) := by decide +kernel
theorem dX10_init_100 : decode cX10_init 100 = .ok (.newarray .int, 2) := by decide +kernel
theorem dX10_init_102 : decode cX10_init 102 = .ok (.putfield 48, 3) := by decide +kernel
theorem dX10_init_105 : decode cX10_init 105 = .ok (.aload_n 0, 1) := by decide +kernel
theorem dX10_init_106 : decode cX10_init 106 = .ok (.iconst 4, 1) := by decide +kernel
theorem dX10_init_107 : decode cX10_init 107 = .ok (.newarray .double, 2) := by decide +kernel
theorem dX10_init_109 : decode cX10_init 109 = .ok (.putfield 51, 3) := by decide +kernel
theorem dX10_init_112 : decode cX10_init 112 = .ok (.aload_n 0, 1) := by decide +kernel
theorem dX10_init_113 : decode cX10_init 113 = .ok (.iconst 4, 1) := by decide +kernel
theorem dX10_init_114 : decode cX10_init 114 = .ok (.newarray .double, 2) := by decide +kernel
theorem dX10_init_116 : decode cX10_init 116 = .ok (.putfield 54, 3) := by decide +kernel
theorem dX10_init_119 : decode cX10_init 119 = .ok (.aload_n 0, 1) := by decide +kernel
theorem dX10_init_120 : decode cX10_init 120 = .ok (.iconst 4, 1) := by decide +kernel
theorem dX10_init_121 : decode cX10_init 121 = .ok (.newarray .int, 2) := by decide +kernel
theorem dX10_init_123 : decode cX10_init 123 = .ok (.putfield 57, 3) := by decide +kernel
theorem dX10_init_126 : decode cX10_init 126 = .ok (.aload_n 0, 1) := by decide +kernel
theorem dX10_init_127 : decode cX10_init 127 = .ok (.iconst 4, 1) := by decide +kernel
theorem dX10_init_128 : decode cX10_init 128 = .ok (.newarray .double, 2) := by decide +kernel
theorem dX10_init_130 : decode cX10_init 130 = .ok (.putfield 60, 3) := by decide +kernel
theorem dX10_init_133 : decode cX10_init 133 = .ok (.aload_n 0, 1) := by decide +kernel
theorem dX10_init_134 : decode cX10_init 134 = .ok (.iconst 4, 1) := by decide +kernel
theorem dX10_init_135 : decode cX10_init 135 = .ok (.newarray .double, 2) := by decide +kernel
theorem dX10_init_137 : decode cX10_init 137 = .ok (.putfield 63, 3) := by decide +kernel
theorem dX10_init_140 : decode cX10_init 140 = .ok (.aload_n 0, 1) := by decide +kernel
theorem dX10_init_141 : decode cX10_init 141 = .ok (.iconst 4, 1) := by decide +kernel
theorem dX10_init_142 : decode cX10_init 142 = .ok (.newarray .int, 2) := by decide +kernel
theorem dX10_init_144 : decode cX10_init 144 = .ok (.putfield 66, 3) := by decide +kernel
theorem dX10_init_147 : decode cX10_init 147 = .ok (.aload_n 0, 1) := by decide +kernel
theorem dX10_init_148 : decode cX10_init 148 = .ok (.iconst 4, 1) := by decide +kernel
theorem dX10_init_149 : decode cX10_init 149 = .ok (.newarray .int, 2) := by decide +kernel
theorem dX10_init_151 : decode cX10_init 151 = .ok (.putfield 69, 3) := by decide +kernel
theorem dX10_init_154 : decode cX10_init 154 = .ok (.aload_n 0, 1) := by decide +kernel
theorem dX10_init_155 : decode cX10_init 155 = .ok (.bipush 60, 2) := by decide +kernel
theorem dX10_init_157 : decode cX10_init 157 = .ok (.newarray .int, 2) := by decide +kernel
theorem dX10_init_159 : decode cX10_init 159 = .ok (.putfield 72, 3) := by decide +kernel
theorem dX10_init_162 : decode cX10_init 162 = .ok (.aload_n 0, 1) := by decide +kernel
theorem dX10_init_163 : decode cX10_init 163 = .ok (.bipush 60, 2) := by decide +kernel
theorem dX10_init_165 : decode cX10_init 165 = .ok (.newarray .double, 2) := by decide +kernel
theorem dX10_init_167 : decode cX10_init 167 = .ok (.putfield 75, 3) := by decide +kernel
theorem dX10_init_170 : decode cX10_init 170 = .ok (.aload_n 0, 1) := by decide +kernel
theorem dX10_init_171 : decode cX10_init 171 = .ok (.bipush 60, 2) := by decide +kernel
theorem dX10_init_173 : decode cX10_init 173 = .ok (.newarray .int, 2) := by decide +kernel
theorem dX10_init_175 : decode cX10_init 175 = .ok (.putfield 78, 3) := by decide +kernel
theorem dX10_init_178 : decode cX10_init 178 = .ok (.aload_n 0, 1) := by decide +kernel
theorem dX10_init_179 : decode cX10_init 179 = .ok (.bipush 60, 2) := by decide +kernel
theorem dX10_init_181 : decode cX10_init 181 = .ok (.newarray .int, 2) := by decide +kernel
theorem dX10_init_183 : decode cX10_init 183 = .ok (.putfield 81, 3) := by decide +kernel
theorem dX10_init_186 : decode cX10_init 186 = .ok (.aload_n 0, 1) := by decide +kernel
theorem dX10_init_187 : decode cX10_init 187 = .ok (.bipush 60, 2) := by decide +kernel
theorem dX10_init_189 : decode cX10_init 189 = .ok (.newarray .int, 2) := by decide +kernel
theorem dX10_init_191 : decode cX10_init 191 = .ok (.putfield 84, 3) := by decide +kernel
theorem dX10_init_194 : decode cX10_init 194 = .ok (.aload_n 0, 1) := by decide +kernel
theorem dX10_init_195 : decode cX10_init 195 = .ok (.bipush 60, 2) := by decide +kernel
theorem dX10_init_197 : decode cX10_init 197 = .ok (.newarray .int, 2) := by decide +kernel
theorem dX10_init_199 : decode cX10_init 199 = .ok (.putfield 87, 3) := by decide +kernel
theorem dX10_init_202 : decode cX10_init 202 = .ok (.aload_n 0, 1) := by decide +kernel
theorem dX10_init_203 : decode cX10_init 203 = .ok (.bipush 60, 2) := by decide +kernel
theorem dX10_init_205 : decode cX10_init 205 = .ok (.newarray .int, 2) := by decide +kernel
theorem dX10_init_207 : decode cX10_init 207 = .ok (.putfield 90, 3) := by decide +kernel
theorem dX10_init_210 : decode cX10_init 210 = .ok (.aload_n 0, 1) := by decide +kernel
theorem dX10_init_211 : decode cX10_init 211 = .ok (.bipush 60, 2) := by decide +kernel
theorem dX10_init_213 : decode cX10_init 213 = .ok (.newarray .boolean, 2) := by decide +kernel
theorem dX10_init_215 : decode cX10_init 215 = .ok (.putfield 93, 3) := by decide +kernel
theorem dX10_init_218 : decode cX10_init 218 = .ok (.aload_n 0, 1) := by decide +kernel
theorem dX10_init_219 : decode cX10_init 219 = .ok (.sipush 8000, 3) := by decide +kernel
theorem dX10_init_222 : decode cX10_init 222 = .ok (.newarray .int, 2) := by decide +kernel
theorem dX10_init_224 : decode cX10_init 224 = .ok (.putfield 96, 3) := by decide +kernel
theorem dX10_init_227 : decode cX10_init 227 = .ok (.aload_n 0, 1) := by decide +kernel
theorem dX10_init_228 : decode cX10_init 228 = .ok (.sipush 240, 3) := by decide +kernel
theorem dX10_init_231 : decode cX10_init 231 = .ok (.newarray .int, 2) := by decide +kernel
theorem dX10_init_233 : decode cX10_init 233 = .ok (.putfield 99, 3) := by decide +kernel
theorem dX10_init_236 : decode cX10_init 236 = .ok (.aload_n 0, 1) := by decide +kernel
theorem dX10_init_237 : decode cX10_init 237 = .ok (.iconst 4, 1) := by decide +kernel
theorem dX10_init_238 : decode cX10_init 238 = .ok (.newarray .long, 2) := by decide +kernel
theorem dX10_init_240 : decode cX10_init 240 = .ok (.putfield 102, 3) := by decide +kernel
theorem dX10_init_243 : decode cX10_init 243 = .ok (.aload_n 0, 1) := by decide +kernel
theorem dX10_init_244 : decode cX10_init 244 = .ok (.bipush 30, 2) := by decide +kernel
theorem dX10_init_246 : decode cX10_init 246 = .ok (.newarray .int, 2) := by decide +kernel
theorem dX10_init_248 : decode cX10_init 248 = .ok (.putfield 106, 3) := by decide +kernel
theorem dX10_init_251 : decode cX10_init 251 = .ok (.aload_n 0, 1) := by decide +kernel
theorem dX10_init_252 : decode cX10_init 252 = .ok (.bipush 30, 2) := by decide +kernel
theorem dX10_init_254 : decode cX10_init 254 = .ok (.newarray .int, 2) := by decide +kernel
theorem dX10_init_256 : decode cX10_init 256 = .ok (.putfield 109, 3) := by decide +kernel
theorem dX10_init_259 : decode cX10_init 259 = .ok (.aload_n 0, 1) := by decide +kernel
theorem dX10_init_260 : decode cX10_init 260 = .ok (.bipush 30, 2) := by decide +kernel
theorem dX10_init_262 : decode cX10_init 262 = .ok (.newarray .int, 2) := by decide +kernel
theorem dX10_init_264 : decode cX10_init 264 = .ok (.putfield 112, 3) := by decide +kernel
theorem dX10_init_267 : decode cX10_init 267 = .ok (.aload_n 0, 1) := by decide +kernel
theorem dX10_init_268 : decode cX10_init 268 = .ok (.bipush 30, 2) := by decide +kernel
theorem dX10_init_270 : decode cX10_init 270 = .ok (.newarray .int, 2) := by decide +kernel
theorem dX10_init_272 : decode cX10_init 272 = .ok (.putfield 115, 3) := by decide +kernel
theorem dX10_init_275 : decode cX10_init 275 = .ok (.aload_n 0, 1) := by decide +kernel
theorem dX10_init_276 : decode cX10_init 276 = .ok (.lload_n 1, 1) := by decide +kernel
theorem dX10_init_277 : decode cX10_init 277 = .ok (.putfield 118, 3) := by decide +kernel
theorem dX10_init_280 : decode cX10_init 280 = .ok (.return_, 1) := by decide +kernel
theorem dX10_isIn_0 : decode cX10_isIn 0 = .ok (.dload_n 0, 1) := by decide +kernel
theorem dX10_isIn_1 : decode cX10_isIn 1 = .ok (.dload_n 2, 1) := by decide +kernel
theorem dX10_isIn_2 : decode cX10_isIn 2 = .ok (.dcmp .l, 1) := by decide +kernel
theorem dX10_isIn_3 : decode cX10_isIn 3 = .ok (.ifCond .lt 14, 3) := by decide +kernel
theorem dX10_isIn_6 : decode cX10_isIn 6 = .ok (.dload_n 0, 1) := by decide +kernel
theorem dX10_isIn_7 : decode cX10_isIn 7 = .ok (.dload 4, 2) := by decide +kernel
theorem dX10_isIn_9 : decode cX10_isIn 9 = .ok (.dcmp .g, 1) := by decide +kernel
theorem dX10_isIn_10 : decode cX10_isIn 10 = .ok (.ifCond .gt 7, 3) := by decide +kernel
theorem dX10_isIn_13 : decode cX10_isIn 13 = .ok (.iconst 1, 1) := by decide +kernel
theorem dX10_isIn_14 : decode cX10_isIn 14 = .ok (.goto 4, 3) := by decide +kernel
theorem dX10_isIn_17 : decode cX10_isIn 17 = .ok (.iconst 0, 1) := by decide +kernel
theorem dX10_isIn_18 : decode cX10_isIn 18 = .ok (.ireturn, 1) := by decide +kernel
theorem dX10_isBelt_0 : decode cX10_isBelt 0 = .ok (.iload_n 1, 1) := by decide +kernel
theorem dX10_isBelt_1 : decode cX10_isBelt 1 = .ok (.ifCond .lt 15, 3) := by decide +kernel
theorem dX10_isBelt_4 : decode cX10_isBelt 4 = .ok (.iload_n 1, 1) := by decide +kernel
theorem dX10_isBelt_5 : decode cX10_isBelt 5 = .ok (.aload_n 0, 1) := by decide +kernel
theorem dX10_isBelt_6 : decode cX10_isBelt 6 = .ok (.getfield 122, 3) := by decide +kernel
theorem dX10_isBelt_9 : decode cX10_isBelt 9 = .ok (.if_icmp .ge 7, 3) := by decide +kernel
theorem dX10_isBelt_12 : decode cX10_isBelt 12 = .ok (.iconst 1, 1) := by decide +kernel
theorem dX10_isBelt_13 : decode cX10_isBelt 13 = .ok (.goto 4, 3) := by decide +kernel
theorem dX10_isBelt_16 : decode cX10_isBelt 16 = .ok (.iconst 0, 1) := by decide +kernel
theorem dX10_isBelt_17 : decode cX10_isBelt 17 = .ok (.ireturn, 1) := by decide +kernel
theorem dX10_isOpen_0 : decode cX10_isOpen 0 = .ok (.aload_n 0, 1) := by decide +kernel
theorem dX10_isOpen_1 : decode cX10_isOpen 1 = .ok (.getfield 126, 3) := by decide +kernel
theorem dX10_isOpen_4 : decode cX10_isOpen 4 = .ok (.ifCond .ne 7, 3) := by decide +kernel
theorem dX10_isOpen_7 : decode cX10_isOpen 7 = .ok (.iconst 1, 1) := by decide +kernel
theorem dX10_isOpen_8 : decode cX10_isOpen 8 = .ok (.goto 4, 3) := by decide +kernel
theorem dX10_isOpen_11 : decode cX10_isOpen 11 = .ok (.iconst 0, 1) := by decide +kernel
theorem dX10_isOpen_12 : decode cX10_isOpen 12 = .ok (.ireturn, 1) := by decide +kernel
theorem dX10_belt_0 : decode cX10_belt 0 = .ok (.aload_n 0, 1) := by decide +kernel
theorem dX10_belt_1 : decode cX10_belt 1 = .ok (.getfield 122, 3) := by decide +kernel
theorem dX10_belt_4 : decode cX10_belt 4 = .ok (.bipush 6, 2) := by decide +kernel
theorem dX10_belt_6 : decode cX10_belt 6 = .ok (.if_icmp .eq 35, 3) := by decide +kernel
theorem dX10_belt_9 : decode cX10_belt 9 = .ok (.iload_n 1, 1) := by decide +kernel
theorem dX10_belt_10 : decode cX10_belt 10 = .ok (.iconst 1, 1) := by decide +kernel
theorem dX10_belt_11 : decode cX10_belt 11 = .ok (.if_icmp .lt 30, 3) := by decide +kernel
theorem dX10_belt_14 : decode cX10_belt 14 = .ok (.iload_n 1, 1) := by decide +kernel
theorem dX10_belt_15 : decode cX10_belt 15 = .ok (.sipush 1000, 3) := by decide +kernel
theorem dX10_belt_18 : decode cX10_belt 18 = .ok (.if_icmp .gt 23, 3) := by decide +kernel
theorem dX10_belt_21 : decode cX10_belt 21 = .ok (.dload_n 2, 1) := by decide +kernel
theorem dX10_belt_22 : decode cX10_belt 22 = .ok (.ldc2_w 129, 3) := by decide +kernel
theorem dX10_belt_25 : decode cX10_belt 25 = .ok (.ldc2_w 131, 3) := by decide +kernel
theorem dX10_belt_28 : decode cX10_belt 28 = .ok (.invokestatic 133, 3) := by decide +kernel
theorem dX10_belt_31 : decode cX10_belt 31 = .ok (.ifCond .eq 10, 3) := by decide +kernel
theorem dX10_belt_34 : decode cX10_belt 34 = .ok (.aload_n 0, 1) := by decide +kernel
theorem dX10_belt_35 : decode cX10_belt 35 = .ok (.invokevirtual 137, 3) := by decide +kernel
theorem dX10_belt_38 : decode cX10_belt 38 = .ok (.ifCond .ne 5, 3) := by decide +kernel
theorem dX10_belt_41 : decode cX10_belt 41 = .ok (.iconst (-1), 1) := by decide +kernel
theorem dX10_belt_42 : decode cX10_belt 42 = .ok (.ireturn, 1) := by decide +kernel
theorem dX10_belt_43 : decode cX10_belt 43 = .ok (.aload_n 0, 1) := by decide +kernel
theorem dX10_belt_44 : decode cX10_belt 44 = .ok (.getfield 7, 3) := by decide +kernel
theorem dX10_belt_47 : decode cX10_belt 47 = .ok (.aload_n 0, 1) := by decide +kernel
theorem dX10_belt_48 : decode cX10_belt 48 = .ok (.getfield 122, 3) := by decide +kernel
theorem dX10_belt_51 : decode cX10_belt 51 = .ok (.iload_n 1, 1) := by decide +kernel
theorem dX10_belt_52 : decode cX10_belt 52 = .ok (.iastore, 1) := by decide +kernel
theorem dX10_belt_53 : decode cX10_belt 53 = .ok (.aload_n 0, 1) := by decide +kernel
theorem dX10_belt_54 : decode cX10_belt 54 = .ok (.getfield 13, 3) := by decide +kernel
theorem dX10_belt_57 : decode cX10_belt 57 = .ok (.aload_n 0, 1) := by decide +kernel
theorem dX10_belt_58 : decode cX10_belt 58 = .ok (.getfield 122, 3) := by decide +kernel
theorem dX10_belt_61 : decode cX10_belt 61 = .ok (.dload_n 2, 1) := by decide +kernel
theorem dX10_belt_62 : decode cX10_belt 62 = .ok (.dastore, 1) := by decide +kernel
theorem dX10_belt_63 : decode cX10_belt 63 = .ok (.aload_n 0, 1) := by decide +kernel
theorem dX10_belt_64 : decode cX10_belt 64 = .ok (.getfield 17, 3) := by decide +kernel
theorem dX10_belt_67 : decode cX10_belt 67 = .ok (.aload_n 0, 1) := by decide +kernel
theorem dX10_belt_68 : decode cX10_belt 68 = .ok (.getfield 122, 3) := by decide +kernel
theorem dX10_belt_71 : decode cX10_belt 71 = .ok (.iconst (-1), 1) := by decide +kernel
theorem dX10_belt_72 : decode cX10_belt 72 = .ok (.iastore, 1) := by decide +kernel
theorem dX10_belt_73 : decode cX10_belt 73 = .ok (.aload_n 0, 1) := by decide +kernel
theorem dX10_belt_74 : decode cX10_belt 74 = .ok (.dup, 1) := by decide +kernel
theorem dX10_belt_75 : decode cX10_belt 75 = .ok (.getfield 122, 3) := by decide +kernel
theorem dX10_belt_78 : decode cX10_belt 78 = .ok (.iconst 1, 1) := by decide +kernel
theorem dX10_belt_79 : decode cX10_belt 79 = .ok (.iadd, 1) := by decide +kernel
theorem dX10_belt_80 : decode cX10_belt 80 = .ok (.putfield 122, 3) := by decide +kernel
theorem dX10_belt_83 : decode cX10_belt 83 = .ok (.aload_n 0, 1) := by decide +kernel
theorem dX10_belt_84 : decode cX10_belt 84 = .ok (.getfield 122, 3) := by decide +kernel
theorem dX10_belt_87 : decode cX10_belt 87 = .ok (.iconst 1, 1) := by decide +kernel
theorem dX10_belt_88 : decode cX10_belt 88 = .ok (.isub, 1) := by decide +kernel
theorem dX10_belt_89 : decode cX10_belt 89 = .ok (.ireturn, 1) := by decide +kernel
theorem dX10_head_0 : decode cX10_head 0 = .ok (.aload_n 0, 1) := by decide +kernel
theorem dX10_head_1 : decode cX10_head 1 = .ok (.getfield 141, 3) := by decide +kernel
theorem dX10_head_4 : decode cX10_head 4 = .ok (.bipush 8, 2) := by decide +kernel
theorem dX10_head_6 : decode cX10_head 6 = .ok (.if_icmp .eq 42, 3) := by decide +kernel
theorem dX10_head_9 : decode cX10_head 9 = .ok (.aload_n 0, 1) := by decide +kernel
theorem dX10_head_10 : decode cX10_head 10 = .ok (.iload_n 1, 1) := by decide +kernel
theorem dX10_head_11 : decode cX10_head 11 = .ok (.invokevirtual 144, 3) := by decide +kernel
theorem dX10_head_14 : decode cX10_head 14 = .ok (.ifCond .eq 34, 3) := by decide +kernel
theorem dX10_head_17 : decode cX10_head 17 = .ok (.dload_n 2, 1) := by decide +kernel
theorem dX10_head_18 : decode cX10_head 18 = .ok (.dconst 0, 1) := by decide +kernel
theorem dX10_head_19 : decode cX10_head 19 = .ok (.aload_n 0, 1) := by decide +kernel
theorem dX10_head_20 : decode cX10_head 20 = .ok (.getfield 13, 3) := by decide +kernel
theorem dX10_head_23 : decode cX10_head 23 = .ok (.iload_n 1, 1) := by decide +kernel
theorem dX10_head_24 : decode cX10_head 24 = .ok (.daload, 1) := by decide +kernel
theorem dX10_head_25 : decode cX10_head 25 = .ok (.invokestatic 133, 3) := by decide +kernel
theorem dX10_head_28 : decode cX10_head 28 = .ok (.ifCond .eq 20, 3) := by decide +kernel
theorem dX10_head_31 : decode cX10_head 31 = .ok (.dload 4, 2) := by decide +kernel
theorem dX10_head_33 : decode cX10_head 33 = .ok (.dconst 0, 1) := by decide +kernel
theorem dX10_head_34 : decode cX10_head 34 = .ok (.dconst 1, 1) := by decide +kernel
theorem dX10_head_35 : decode cX10_head 35 = .ok (.invokestatic 133, 3) := by decide +kernel
theorem dX10_head_38 : decode cX10_head 38 = .ok (.ifCond .eq 10, 3) := by decide +kernel
theorem dX10_head_41 : decode cX10_head 41 = .ok (.aload_n 0, 1) := by decide +kernel
theorem dX10_head_42 : decode cX10_head 42 = .ok (.invokevirtual 137, 3) := by decide +kernel
theorem dX10_head_45 : decode cX10_head 45 = .ok (.ifCond .ne 5, 3) := by decide +kernel
theorem dX10_head_48 : decode cX10_head 48 = .ok (.iconst (-1), 1) := by decide +kernel
theorem dX10_head_49 : decode cX10_head 49 = .ok (.ireturn, 1) := by decide +kernel
theorem dX10_head_50 : decode cX10_head 50 = .ok (.aload_n 0, 1) := by decide +kernel
theorem dX10_head_51 : decode cX10_head 51 = .ok (.getfield 33, 3) := by decide +kernel
theorem dX10_head_54 : decode cX10_head 54 = .ok (.aload_n 0, 1) := by decide +kernel
theorem dX10_head_55 : decode cX10_head 55 = .ok (.getfield 141, 3) := by decide +kernel
theorem dX10_head_58 : decode cX10_head 58 = .ok (.iload_n 1, 1) := by decide +kernel
theorem dX10_head_59 : decode cX10_head 59 = .ok (.iastore, 1) := by decide +kernel
theorem dX10_head_60 : decode cX10_head 60 = .ok (.aload_n 0, 1) := by decide +kernel
theorem dX10_head_61 : decode cX10_head 61 = .ok (.getfield 36, 3) := by decide +kernel
theorem dX10_head_64 : decode cX10_head 64 = .ok (.aload_n 0, 1) := by decide +kernel
theorem dX10_head_65 : decode cX10_head 65 = .ok (.getfield 141, 3) := by decide +kernel
theorem dX10_head_68 : decode cX10_head 68 = .ok (.dload_n 2, 1) := by decide +kernel
theorem dX10_head_69 : decode cX10_head 69 = .ok (.aload_n 0, 1) := by decide +kernel
theorem dX10_head_70 : decode cX10_head 70 = .ok (.getfield 13, 3) := by decide +kernel
theorem dX10_head_73 : decode cX10_head 73 = .ok (.iload_n 1, 1) := by decide +kernel
theorem dX10_head_74 : decode cX10_head 74 = .ok (.daload, 1) := by decide +kernel
theorem dX10_head_75 : decode cX10_head 75 = .ok (.ddiv, 1) := by decide +kernel
theorem dX10_head_76 : decode cX10_head 76 = .ok (.aload_n 0, 1) := by decide +kernel
theorem dX10_head_77 : decode cX10_head 77 = .ok (.getfield 7, 3) := by decide +kernel
theorem dX10_head_80 : decode cX10_head 80 = .ok (.iload_n 1, 1) := by decide +kernel
theorem dX10_head_81 : decode cX10_head 81 = .ok (.iaload, 1) := by decide +kernel
theorem dX10_head_82 : decode cX10_head 82 = .ok (.i2d, 1) := by decide +kernel
theorem dX10_head_83 : decode cX10_head 83 = .ok (.dmul, 1) := by decide +kernel
theorem dX10_head_84 : decode cX10_head 84 = .ok (.d2i, 1) := by decide +kernel
theorem dX10_head_85 : decode cX10_head 85 = .ok (.iastore, 1) := by decide +kernel
theorem dX10_head_86 : decode cX10_head 86 = .ok (.aload_n 0, 1) := by decide +kernel
theorem dX10_head_87 : decode cX10_head 87 = .ok (.getfield 39, 3) := by decide +kernel
theorem dX10_head_90 : decode cX10_head 90 = .ok (.aload_n 0, 1) := by decide +kernel
theorem dX10_head_91 : decode cX10_head 91 = .ok (.getfield 141, 3) := by decide +kernel
theorem dX10_head_94 : decode cX10_head 94 = .ok (.dload 4, 2) := by decide +kernel
theorem dX10_head_96 : decode cX10_head 96 = .ok (.dastore, 1) := by decide +kernel
theorem dX10_head_97 : decode cX10_head 97 = .ok (.aload_n 0, 1) := by decide +kernel
theorem dX10_head_98 : decode cX10_head 98 = .ok (.dup, 1) := by decide +kernel
theorem dX10_head_99 : decode cX10_head 99 = .ok (.getfield 141, 3) := by decide +kernel
theorem dX10_head_102 : decode cX10_head 102 = .ok (.iconst 1, 1) := by decide +kernel
theorem dX10_head_103 : decode cX10_head 103 = .ok (.iadd, 1) := by decide +kernel
theorem dX10_head_104 : decode cX10_head 104 = .ok (.putfield 141, 3) := by decide +kernel
theorem dX10_head_107 : decode cX10_head 107 = .ok (.aload_n 0, 1) := by decide +kernel
theorem dX10_head_108 : decode cX10_head 108 = .ok (.getfield 141, 3) := by decide +kernel
theorem dX10_head_111 : decode cX10_head 111 = .ok (.iconst 1, 1) := by decide +kernel
theorem dX10_head_112 : decode cX10_head 112 = .ok (.isub, 1) := by decide +kernel
theorem dX10_head_113 : decode cX10_head 113 = .ok (.ireturn, 1) := by decide +kernel
theorem dX10_bunker_0 : decode cX10_bunker 0 = .ok (.aload_n 0, 1) := by decide +kernel
theorem dX10_bunker_1 : decode cX10_bunker 1 = .ok (.getfield 148, 3) := by decide +kernel
theorem dX10_bunker_4 : decode cX10_bunker 4 = .ok (.iconst 4, 1) := by decide +kernel
theorem dX10_bunker_5 : decode cX10_bunker 5 = .ok (.if_icmp .eq 21, 3) := by decide +kernel
theorem dX10_bunker_8 : decode cX10_bunker 8 = .ok (.dload_n 1, 1) := by decide +kernel
theorem dX10_bunker_9 : decode cX10_bunker 9 = .ok (.dconst 0, 1) := by decide +kernel
theorem dX10_bunker_10 : decode cX10_bunker 10 = .ok (.ldc2_w 151, 3) := by decide +kernel
theorem dX10_bunker_13 : decode cX10_bunker 13 = .ok (.invokestatic 133, 3) := by decide +kernel
theorem dX10_bunker_16 : decode cX10_bunker 16 = .ok (.ifCond .eq 10, 3) := by decide +kernel
theorem dX10_bunker_19 : decode cX10_bunker 19 = .ok (.aload_n 0, 1) := by decide +kernel
theorem dX10_bunker_20 : decode cX10_bunker 20 = .ok (.invokevirtual 137, 3) := by decide +kernel
theorem dX10_bunker_23 : decode cX10_bunker 23 = .ok (.ifCond .ne 5, 3) := by decide +kernel
theorem dX10_bunker_26 : decode cX10_bunker 26 = .ok (.iconst (-1), 1) := by decide +kernel
theorem dX10_bunker_27 : decode cX10_bunker 27 = .ok (.ireturn, 1) := by decide +kernel
theorem dX10_bunker_28 : decode cX10_bunker 28 = .ok (.aload_n 0, 1) := by decide +kernel
theorem dX10_bunker_29 : decode cX10_bunker 29 = .ok (.getfield 42, 3) := by decide +kernel
theorem dX10_bunker_32 : decode cX10_bunker 32 = .ok (.aload_n 0, 1) := by decide +kernel
theorem dX10_bunker_33 : decode cX10_bunker 33 = .ok (.getfield 148, 3) := by decide +kernel
theorem dX10_bunker_36 : decode cX10_bunker 36 = .ok (.dload_n 1, 1) := by decide +kernel
theorem dX10_bunker_37 : decode cX10_bunker 37 = .ok (.dastore, 1) := by decide +kernel
theorem dX10_bunker_38 : decode cX10_bunker 38 = .ok (.aload_n 0, 1) := by decide +kernel
theorem dX10_bunker_39 : decode cX10_bunker 39 = .ok (.dup, 1) := by decide +kernel
theorem dX10_bunker_40 : decode cX10_bunker 40 = .ok (.getfield 148, 3) := by decide +kernel
theorem dX10_bunker_43 : decode cX10_bunker 43 = .ok (.iconst 1, 1) := by decide +kernel
theorem dX10_bunker_44 : decode cX10_bunker 44 = .ok (.iadd, 1) := by decide +kernel
theorem dX10_bunker_45 : decode cX10_bunker 45 = .ok (.putfield 148, 3) := by decide +kernel
theorem dX10_bunker_48 : decode cX10_bunker 48 = .ok (.aload_n 0, 1) := by decide +kernel
theorem dX10_bunker_49 : decode cX10_bunker 49 = .ok (.getfield 148, 3) := by decide +kernel
theorem dX10_bunker_52 : decode cX10_bunker 52 = .ok (.iconst 1, 1) := by decide +kernel
theorem dX10_bunker_53 : decode cX10_bunker 53 = .ok (.isub, 1) := by decide +kernel
theorem dX10_bunker_54 : decode cX10_bunker 54 = .ok (.ireturn, 1) := by decide +kernel
theorem dX10_joinTo_0 : decode cX10_joinTo 0 = .ok (.iload_n 2, 1) := by decide +kernel
theorem dX10_joinTo_1 : decode cX10_joinTo 1 = .ok (.iconst (-1), 1) := by decide +kernel
theorem dX10_joinTo_2 : decode cX10_joinTo 2 = .ok (.if_icmp .eq 32, 3) := by decide +kernel
theorem dX10_joinTo_5 : decode cX10_joinTo 5 = .ok (.iload_n 2, 1) := by decide +kernel
theorem dX10_joinTo_6 : decode cX10_joinTo 6 = .ok (.ifCond .lt 11, 3) := by decide +kernel
theorem dX10_joinTo_9 : decode cX10_joinTo 9 = .ok (.iload_n 2, 1) := by decide +kernel
theorem dX10_joinTo_10 : decode cX10_joinTo 10 = .ok (.aload_n 0, 1) := by decide +kernel
theorem dX10_joinTo_11 : decode cX10_joinTo 11 = .ok (.getfield 122, 3) := by decide +kernel
theorem dX10_joinTo_14 : decode cX10_joinTo 14 = .ok (.if_icmp .lt 20, 3) := by decide +kernel
theorem dX10_joinTo_17 : decode cX10_joinTo 17 = .ok (.iload_n 2, 1) := by decide +kernel
theorem dX10_joinTo_18 : decode cX10_joinTo 18 = .ok (.bipush (-2), 2) := by decide +kernel
theorem dX10_joinTo_20 : decode cX10_joinTo 20 = .ok (.if_icmp .gt 18, 3) := by decide +kernel
theorem dX10_joinTo_23 : decode cX10_joinTo 23 = .ok (.iload_n 2, 1) := by decide +kernel
theorem dX10_joinTo_24 : decode cX10_joinTo 24 = .ok (.bipush (-2), 2) := by decide +kernel
theorem dX10_joinTo_26 : decode cX10_joinTo 26 = .ok (.aload_n 0, 1) := by decide +kernel
theorem dX10_joinTo_27 : decode cX10_joinTo 27 = .ok (.getfield 148, 3) := by decide +kernel
theorem dX10_joinTo_30 : decode cX10_joinTo 30 = .ok (.isub, 1) := by decide +kernel
theorem dX10_joinTo_31 : decode cX10_joinTo 31 = .ok (.if_icmp .le 7, 3) := by decide +kernel
theorem dX10_joinTo_34 : decode cX10_joinTo 34 = .ok (.iconst 1, 1) := by decide +kernel
theorem dX10_joinTo_35 : decode cX10_joinTo 35 = .ok (.goto 4, 3) := by decide +kernel
theorem dX10_joinTo_38 : decode cX10_joinTo 38 = .ok (.iconst 0, 1) := by decide +kernel
theorem dX10_joinTo_39 : decode cX10_joinTo 39 = .ok (.istore_n 3, 1) := by decide +kernel
theorem dX10_joinTo_40 : decode cX10_joinTo 40 = .ok (.aload_n 0, 1) := by decide +kernel
theorem dX10_joinTo_41 : decode cX10_joinTo 41 = .ok (.iload_n 1, 1) := by decide +kernel
theorem dX10_joinTo_42 : decode cX10_joinTo 42 = .ok (.invokevirtual 144, 3) := by decide +kernel
theorem dX10_joinTo_45 : decode cX10_joinTo 45 = .ok (.ifCond .eq 14, 3) := by decide +kernel
theorem dX10_joinTo_48 : decode cX10_joinTo 48 = .ok (.iload_n 3, 1) := by decide +kernel
theorem dX10_joinTo_49 : decode cX10_joinTo 49 = .ok (.ifCond .eq 10, 3) := by decide +kernel
theorem dX10_joinTo_52 : decode cX10_joinTo 52 = .ok (.aload_n 0, 1) := by decide +kernel
theorem dX10_joinTo_53 : decode cX10_joinTo 53 = .ok (.invokevirtual 137, 3) := by decide +kernel
theorem dX10_joinTo_56 : decode cX10_joinTo 56 = .ok (.ifCond .ne 5, 3) := by decide +kernel
theorem dX10_joinTo_59 : decode cX10_joinTo 59 = .ok (.iconst 0, 1) := by decide +kernel
theorem dX10_joinTo_60 : decode cX10_joinTo 60 = .ok (.ireturn, 1) := by decide +kernel
theorem dX10_joinTo_61 : decode cX10_joinTo 61 = .ok (.aload_n 0, 1) := by decide +kernel
theorem dX10_joinTo_62 : decode cX10_joinTo 62 = .ok (.getfield 17, 3) := by decide +kernel
theorem dX10_joinTo_65 : decode cX10_joinTo 65 = .ok (.iload_n 1, 1) := by decide +kernel
theorem dX10_joinTo_66 : decode cX10_joinTo 66 = .ok (.iload_n 2, 1) := by decide +kernel
theorem dX10_joinTo_67 : decode cX10_joinTo 67 = .ok (.iastore, 1) := by decide +kernel
theorem dX10_joinTo_68 : decode cX10_joinTo 68 = .ok (.iconst 1, 1) := by decide +kernel
theorem dX10_joinTo_69 : decode cX10_joinTo 69 = .ok (.ireturn, 1) := by decide +kernel
theorem dX10_rule_0 : decode cX10_rule 0 = .ok (.aload_n 0, 1) := by decide +kernel
theorem dX10_rule_1 : decode cX10_rule 1 = .ok (.iload_n 1, 1) := by decide +kernel
theorem dX10_rule_2 : decode cX10_rule 2 = .ok (.invokevirtual 144, 3) := by decide +kernel
theorem dX10_rule_5 : decode cX10_rule 5 = .ok (.ifCond .eq 35, 3) := by decide +kernel
theorem dX10_rule_8 : decode cX10_rule 8 = .ok (.dload_n 2, 1) := by decide +kernel
theorem dX10_rule_9 : decode cX10_rule 9 = .ok (.dconst 0, 1) := by decide +kernel
theorem dX10_rule_10 : decode cX10_rule 10 = .ok (.ldc2_w 151, 3) := by decide +kernel
theorem dX10_rule_13 : decode cX10_rule 13 = .ok (.invokestatic 133, 3) := by decide +kernel
theorem dX10_rule_16 : decode cX10_rule 16 = .ok (.ifCond .eq 24, 3) := by decide +kernel
theorem dX10_rule_19 : decode cX10_rule 19 = .ok (.iload 4, 2) := by decide +kernel
theorem dX10_rule_21 : decode cX10_rule 21 = .ok (.iconst 1, 1) := by decide +kernel
theorem dX10_rule_22 : decode cX10_rule 22 = .ok (.if_icmp .lt 18, 3) := by decide +kernel
theorem dX10_rule_25 : decode cX10_rule 25 = .ok (.iload 4, 2) := by decide +kernel
theorem dX10_rule_27 : decode cX10_rule 27 = .ok (.sipush 1000, 3) := by decide +kernel
theorem dX10_rule_30 : decode cX10_rule 30 = .ok (.if_icmp .gt 10, 3) := by decide +kernel
theorem dX10_rule_33 : decode cX10_rule 33 = .ok (.aload_n 0, 1) := by decide +kernel
theorem dX10_rule_34 : decode cX10_rule 34 = .ok (.invokevirtual 137, 3) := by decide +kernel
theorem dX10_rule_37 : decode cX10_rule 37 = .ok (.ifCond .ne 5, 3) := by decide +kernel
theorem dX10_rule_40 : decode cX10_rule 40 = .ok (.iconst 0, 1) := by decide +kernel
theorem dX10_rule_41 : decode cX10_rule 41 = .ok (.ireturn, 1) := by decide +kernel
theorem dX10_rule_42 : decode cX10_rule 42 = .ok (.aload_n 0, 1) := by decide +kernel
theorem dX10_rule_43 : decode cX10_rule 43 = .ok (.getfield 20, 3) := by decide +kernel
theorem dX10_rule_46 : decode cX10_rule 46 = .ok (.iload_n 1, 1) := by decide +kernel
theorem dX10_rule_47 : decode cX10_rule 47 = .ok (.iconst 1, 1) := by decide +kernel
theorem dX10_rule_48 : decode cX10_rule 48 = .ok (.bastore, 1) := by decide +kernel
theorem dX10_rule_49 : decode cX10_rule 49 = .ok (.aload_n 0, 1) := by decide +kernel
theorem dX10_rule_50 : decode cX10_rule 50 = .ok (.getfield 24, 3) := by decide +kernel
theorem dX10_rule_53 : decode cX10_rule 53 = .ok (.iload_n 1, 1) := by decide +kernel
theorem dX10_rule_54 : decode cX10_rule 54 = .ok (.dload_n 2, 1) := by decide +kernel
theorem dX10_rule_55 : decode cX10_rule 55 = .ok (.dastore, 1) := by decide +kernel
theorem dX10_rule_56 : decode cX10_rule 56 = .ok (.aload_n 0, 1) := by decide +kernel
theorem dX10_rule_57 : decode cX10_rule 57 = .ok (.getfield 27, 3) := by decide +kernel
theorem dX10_rule_60 : decode cX10_rule 60 = .ok (.iload_n 1, 1) := by decide +kernel
theorem dX10_rule_61 : decode cX10_rule 61 = .ok (.iload 4, 2) := by decide +kernel
theorem dX10_rule_63 : decode cX10_rule 63 = .ok (.iastore, 1) := by decide +kernel
theorem dX10_rule_64 : decode cX10_rule 64 = .ok (.iconst 1, 1) := by decide +kernel
theorem dX10_rule_65 : decode cX10_rule 65 = .ok (.ireturn, 1) := by decide +kernel
theorem dX10_picker_0 : decode cX10_picker 0 = .ok (.aload_n 0, 1) := by decide +kernel
theorem dX10_picker_1 : decode cX10_picker 1 = .ok (.getfield 153, 3) := by decide +kernel
theorem dX10_picker_4 : decode cX10_picker 4 = .ok (.iconst 4, 1) := by decide +kernel
theorem dX10_picker_5 : decode cX10_picker 5 = .ok (.if_icmp .eq 43, 3) := by decide +kernel
theorem dX10_picker_8 : decode cX10_picker 8 = .ok (.aload_n 0, 1) := by decide +kernel
theorem dX10_picker_9 : decode cX10_picker 9 = .ok (.iload_n 1, 1) := by decide +kernel
theorem dX10_picker_10 : decode cX10_picker 10 = .ok (.invokevirtual 144, 3) := by decide +kernel
theorem dX10_picker_13 : decode cX10_picker 13 = .ok (.ifCond .eq 35, 3) := by decide +kernel
theorem dX10_picker_16 : decode cX10_picker 16 = .ok (.dload_n 2, 1) := by decide +kernel
theorem dX10_picker_17 : decode cX10_picker 17 = .ok (.ldc2_w 156, 3) := by decide +kernel
theorem dX10_picker_20 : decode cX10_picker 20 = .ok (.ldc2_w 158, 3) := by decide +kernel
theorem dX10_picker_23 : decode cX10_picker 23 = .ok (.invokestatic 133, 3) := by decide +kernel
theorem dX10_picker_26 : decode cX10_picker 26 = .ok (.ifCond .eq 22, 3) := by decide +kernel
theorem dX10_picker_29 : decode cX10_picker 29 = .ok (.dload 4, 2) := by decide +kernel
theorem dX10_picker_31 : decode cX10_picker 31 = .ok (.dconst 0, 1) := by decide +kernel
theorem dX10_picker_32 : decode cX10_picker 32 = .ok (.ldc2_w 160, 3) := by decide +kernel
theorem dX10_picker_35 : decode cX10_picker 35 = .ok (.invokestatic 133, 3) := by decide +kernel
theorem dX10_picker_38 : decode cX10_picker 38 = .ok (.ifCond .eq 10, 3) := by decide +kernel
theorem dX10_picker_41 : decode cX10_picker 41 = .ok (.aload_n 0, 1) := by decide +kernel
theorem dX10_picker_42 : decode cX10_picker 42 = .ok (.invokevirtual 137, 3) := by decide +kernel
theorem dX10_picker_45 : decode cX10_picker 45 = .ok (.ifCond .ne 5, 3) := by decide +kernel
theorem dX10_picker_48 : decode cX10_picker 48 = .ok (.iconst (-1), 1) := by decide +kernel
theorem dX10_picker_49 : decode cX10_picker 49 = .ok (.ireturn, 1) := by decide +kernel
theorem dX10_picker_50 : decode cX10_picker 50 = .ok (.aload_n 0, 1) := by decide +kernel
theorem dX10_picker_51 : decode cX10_picker 51 = .ok (.getfield 57, 3) := by decide +kernel
theorem dX10_picker_54 : decode cX10_picker 54 = .ok (.aload_n 0, 1) := by decide +kernel
theorem dX10_picker_55 : decode cX10_picker 55 = .ok (.getfield 153, 3) := by decide +kernel
theorem dX10_picker_58 : decode cX10_picker 58 = .ok (.iload_n 1, 1) := by decide +kernel
theorem dX10_picker_59 : decode cX10_picker 59 = .ok (.iastore, 1) := by decide +kernel
theorem dX10_picker_60 : decode cX10_picker 60 = .ok (.aload_n 0, 1) := by decide +kernel
theorem dX10_picker_61 : decode cX10_picker 61 = .ok (.getfield 60, 3) := by decide +kernel
theorem dX10_picker_64 : decode cX10_picker 64 = .ok (.aload_n 0, 1) := by decide +kernel
theorem dX10_picker_65 : decode cX10_picker 65 = .ok (.getfield 153, 3) := by decide +kernel
theorem dX10_picker_68 : decode cX10_picker 68 = .ok (.dload_n 2, 1) := by decide +kernel
theorem dX10_picker_69 : decode cX10_picker 69 = .ok (.dastore, 1) := by decide +kernel
theorem dX10_picker_70 : decode cX10_picker 70 = .ok (.aload_n 0, 1) := by decide +kernel
theorem dX10_picker_71 : decode cX10_picker 71 = .ok (.getfield 63, 3) := by decide +kernel
theorem dX10_picker_74 : decode cX10_picker 74 = .ok (.aload_n 0, 1) := by decide +kernel
theorem dX10_picker_75 : decode cX10_picker 75 = .ok (.getfield 153, 3) := by decide +kernel
theorem dX10_picker_78 : decode cX10_picker 78 = .ok (.dload 4, 2) := by decide +kernel
theorem dX10_picker_80 : decode cX10_picker 80 = .ok (.dastore, 1) := by decide +kernel
theorem dX10_picker_81 : decode cX10_picker 81 = .ok (.aload_n 0, 1) := by decide +kernel
theorem dX10_picker_82 : decode cX10_picker 82 = .ok (.dup, 1) := by decide +kernel
theorem dX10_picker_83 : decode cX10_picker 83 = .ok (.getfield 153, 3) := by decide +kernel
theorem dX10_picker_86 : decode cX10_picker 86 = .ok (.iconst 1, 1) := by decide +kernel
theorem dX10_picker_87 : decode cX10_picker 87 = .ok (.iadd, 1) := by decide +kernel
theorem dX10_picker_88 : decode cX10_picker 88 = .ok (.putfield 153, 3) := by decide +kernel
theorem dX10_picker_91 : decode cX10_picker 91 = .ok (.aload_n 0, 1) := by decide +kernel
theorem dX10_picker_92 : decode cX10_picker 92 = .ok (.getfield 153, 3) := by decide +kernel
theorem dX10_picker_95 : decode cX10_picker 95 = .ok (.iconst 1, 1) := by decide +kernel
theorem dX10_picker_96 : decode cX10_picker 96 = .ok (.isub, 1) := by decide +kernel
theorem dX10_picker_97 : decode cX10_picker 97 = .ok (.ireturn, 1) := by decide +kernel
theorem dX10_robot_0 : decode cX10_robot 0 = .ok (.aload_n 0, 1) := by decide +kernel
theorem dX10_robot_1 : decode cX10_robot 1 = .ok (.getfield 162, 3) := by decide +kernel
theorem dX10_robot_4 : decode cX10_robot 4 = .ok (.iconst 4, 1) := by decide +kernel
theorem dX10_robot_5 : decode cX10_robot 5 = .ok (.if_icmp .eq 39, 3) := by decide +kernel
theorem dX10_robot_8 : decode cX10_robot 8 = .ok (.aload_n 0, 1) := by decide +kernel
theorem dX10_robot_9 : decode cX10_robot 9 = .ok (.iload_n 1, 1) := by decide +kernel
theorem dX10_robot_10 : decode cX10_robot 10 = .ok (.invokevirtual 144, 3) := by decide +kernel
theorem dX10_robot_13 : decode cX10_robot 13 = .ok (.ifCond .eq 31, 3) := by decide +kernel
theorem dX10_robot_16 : decode cX10_robot 16 = .ok (.dload_n 2, 1) := by decide +kernel
theorem dX10_robot_17 : decode cX10_robot 17 = .ok (.dconst 0, 1) := by decide +kernel
theorem dX10_robot_18 : decode cX10_robot 18 = .ok (.ldc2_w 160, 3) := by decide +kernel
theorem dX10_robot_21 : decode cX10_robot 21 = .ok (.invokestatic 133, 3) := by decide +kernel
theorem dX10_robot_24 : decode cX10_robot 24 = .ok (.ifCond .eq 20, 3) := by decide +kernel
theorem dX10_robot_27 : decode cX10_robot 27 = .ok (.dload 4, 2) := by decide +kernel
theorem dX10_robot_29 : decode cX10_robot 29 = .ok (.dconst 0, 1) := by decide +kernel
theorem dX10_robot_30 : decode cX10_robot 30 = .ok (.dconst 1, 1) := by decide +kernel
theorem dX10_robot_31 : decode cX10_robot 31 = .ok (.invokestatic 133, 3) := by decide +kernel
theorem dX10_robot_34 : decode cX10_robot 34 = .ok (.ifCond .eq 10, 3) := by decide +kernel
theorem dX10_robot_37 : decode cX10_robot 37 = .ok (.aload_n 0, 1) := by decide +kernel
theorem dX10_robot_38 : decode cX10_robot 38 = .ok (.invokevirtual 137, 3) := by decide +kernel
theorem dX10_robot_41 : decode cX10_robot 41 = .ok (.ifCond .ne 5, 3) := by decide +kernel
theorem dX10_robot_44 : decode cX10_robot 44 = .ok (.iconst (-1), 1) := by decide +kernel
theorem dX10_robot_45 : decode cX10_robot 45 = .ok (.ireturn, 1) := by decide +kernel
theorem dX10_robot_46 : decode cX10_robot 46 = .ok (.aload_n 0, 1) := by decide +kernel
theorem dX10_robot_47 : decode cX10_robot 47 = .ok (.getfield 48, 3) := by decide +kernel
theorem dX10_robot_50 : decode cX10_robot 50 = .ok (.aload_n 0, 1) := by decide +kernel
theorem dX10_robot_51 : decode cX10_robot 51 = .ok (.getfield 162, 3) := by decide +kernel
theorem dX10_robot_54 : decode cX10_robot 54 = .ok (.iload_n 1, 1) := by decide +kernel
theorem dX10_robot_55 : decode cX10_robot 55 = .ok (.iastore, 1) := by decide +kernel
theorem dX10_robot_56 : decode cX10_robot 56 = .ok (.aload_n 0, 1) := by decide +kernel
theorem dX10_robot_57 : decode cX10_robot 57 = .ok (.getfield 51, 3) := by decide +kernel
theorem dX10_robot_60 : decode cX10_robot 60 = .ok (.aload_n 0, 1) := by decide +kernel
theorem dX10_robot_61 : decode cX10_robot 61 = .ok (.getfield 162, 3) := by decide +kernel
theorem dX10_robot_64 : decode cX10_robot 64 = .ok (.dload_n 2, 1) := by decide +kernel
theorem dX10_robot_65 : decode cX10_robot 65 = .ok (.dastore, 1) := by decide +kernel
theorem dX10_robot_66 : decode cX10_robot 66 = .ok (.aload_n 0, 1) := by decide +kernel
theorem dX10_robot_67 : decode cX10_robot 67 = .ok (.getfield 54, 3) := by decide +kernel
theorem dX10_robot_70 : decode cX10_robot 70 = .ok (.aload_n 0, 1) := by decide +kernel
theorem dX10_robot_71 : decode cX10_robot 71 = .ok (.getfield 162, 3) := by decide +kernel
theorem dX10_robot_74 : decode cX10_robot 74 = .ok (.dload 4, 2) := by decide +kernel
theorem dX10_robot_76 : decode cX10_robot 76 = .ok (.dastore, 1) := by decide +kernel
theorem dX10_robot_77 : decode cX10_robot 77 = .ok (.aload_n 0, 1) := by decide +kernel
theorem dX10_robot_78 : decode cX10_robot 78 = .ok (.dup, 1) := by decide +kernel
theorem dX10_robot_79 : decode cX10_robot 79 = .ok (.getfield 162, 3) := by decide +kernel
theorem dX10_robot_82 : decode cX10_robot 82 = .ok (.iconst 1, 1) := by decide +kernel
theorem dX10_robot_83 : decode cX10_robot 83 = .ok (.iadd, 1) := by decide +kernel
theorem dX10_robot_84 : decode cX10_robot 84 = .ok (.putfield 162, 3) := by decide +kernel
theorem dX10_robot_87 : decode cX10_robot 87 = .ok (.aload_n 0, 1) := by decide +kernel
theorem dX10_robot_88 : decode cX10_robot 88 = .ok (.getfield 162, 3) := by decide +kernel
theorem dX10_robot_91 : decode cX10_robot 91 = .ok (.iconst 1, 1) := by decide +kernel
theorem dX10_robot_92 : decode cX10_robot 92 = .ok (.isub, 1) := by decide +kernel
theorem dX10_robot_93 : decode cX10_robot 93 = .ok (.ireturn, 1) := by decide +kernel
theorem dX10_feed_0 : decode cX10_feed 0 = .ok (.aload_n 0, 1) := by decide +kernel
theorem dX10_feed_1 : decode cX10_feed 1 = .ok (.getfield 126, 3) := by decide +kernel
theorem dX10_feed_4 : decode cX10_feed 4 = .ok (.bipush 60, 2) := by decide +kernel
theorem dX10_feed_6 : decode cX10_feed 6 = .ok (.if_icmp .eq 47, 3) := by decide +kernel
theorem dX10_feed_9 : decode cX10_feed 9 = .ok (.aload_n 0, 1) := by decide +kernel
theorem dX10_feed_10 : decode cX10_feed 10 = .ok (.iload_n 1, 1) := by decide +kernel
theorem dX10_feed_11 : decode cX10_feed 11 = .ok (.invokevirtual 144, 3) := by decide +kernel
theorem dX10_feed_14 : decode cX10_feed 14 = .ok (.ifCond .eq 39, 3) := by decide +kernel
theorem dX10_feed_17 : decode cX10_feed 17 = .ok (.iload_n 2, 1) := by decide +kernel
theorem dX10_feed_18 : decode cX10_feed 18 = .ok (.aload_n 0, 1) := by decide +kernel
theorem dX10_feed_19 : decode cX10_feed 19 = .ok (.getfield 165, 3) := by decide +kernel
theorem dX10_feed_22 : decode cX10_feed 22 = .ok (.if_icmp .le 31, 3) := by decide +kernel
theorem dX10_feed_25 : decode cX10_feed 25 = .ok (.iload_n 2, 1) := by decide +kernel
theorem dX10_feed_26 : decode cX10_feed 26 = .ok (.sipush 10000, 3) := by decide +kernel
theorem dX10_feed_29 : decode cX10_feed 29 = .ok (.if_icmp .gt 24, 3) := by decide +kernel
theorem dX10_feed_32 : decode cX10_feed 32 = .ok (.iload_n 3, 1) := by decide +kernel
theorem dX10_feed_33 : decode cX10_feed 33 = .ok (.ifCond .lt 20, 3) := by decide +kernel
theorem dX10_feed_36 : decode cX10_feed 36 = .ok (.iload_n 3, 1) := by decide +kernel
theorem dX10_feed_37 : decode cX10_feed 37 = .ok (.iconst 5, 1) := by decide +kernel
theorem dX10_feed_38 : decode cX10_feed 38 = .ok (.if_icmp .ge 15, 3) := by decide +kernel
theorem dX10_feed_41 : decode cX10_feed 41 = .ok (.dload 4, 2) := by decide +kernel
theorem dX10_feed_43 : decode cX10_feed 43 = .ok (.dconst 0, 1) := by decide +kernel
theorem dX10_feed_44 : decode cX10_feed 44 = .ok (.ldc2_w 160, 3) := by decide +kernel
theorem dX10_feed_47 : decode cX10_feed 47 = .ok (.invokestatic 133, 3) := by decide +kernel
theorem dX10_feed_50 : decode cX10_feed 50 = .ok (.ifCond .ne 5, 3) := by decide +kernel
theorem dX10_feed_53 : decode cX10_feed 53 = .ok (.iconst 0, 1) := by decide +kernel
theorem dX10_feed_54 : decode cX10_feed 54 = .ok (.ireturn, 1) := by decide +kernel
theorem dX10_feed_55 : decode cX10_feed 55 = .ok (.aload_n 0, 1) := by decide +kernel
theorem dX10_feed_56 : decode cX10_feed 56 = .ok (.getfield 72, 3) := by decide +kernel
theorem dX10_feed_59 : decode cX10_feed 59 = .ok (.aload_n 0, 1) := by decide +kernel
theorem dX10_feed_60 : decode cX10_feed 60 = .ok (.getfield 126, 3) := by decide +kernel
theorem dX10_feed_63 : decode cX10_feed 63 = .ok (.iload_n 3, 1) := by decide +kernel
theorem dX10_feed_64 : decode cX10_feed 64 = .ok (.iastore, 1) := by decide +kernel
theorem dX10_feed_65 : decode cX10_feed 65 = .ok (.aload_n 0, 1) := by decide +kernel
theorem dX10_feed_66 : decode cX10_feed 66 = .ok (.getfield 75, 3) := by decide +kernel
theorem dX10_feed_69 : decode cX10_feed 69 = .ok (.aload_n 0, 1) := by decide +kernel
theorem dX10_feed_70 : decode cX10_feed 70 = .ok (.getfield 126, 3) := by decide +kernel
theorem dX10_feed_73 : decode cX10_feed 73 = .ok (.dload 4, 2) := by decide +kernel
theorem dX10_feed_75 : decode cX10_feed 75 = .ok (.dastore, 1) := by decide +kernel
theorem dX10_feed_76 : decode cX10_feed 76 = .ok (.aload_n 0, 1) := by decide +kernel
theorem dX10_feed_77 : decode cX10_feed 77 = .ok (.getfield 78, 3) := by decide +kernel
theorem dX10_feed_80 : decode cX10_feed 80 = .ok (.aload_n 0, 1) := by decide +kernel
theorem dX10_feed_81 : decode cX10_feed 81 = .ok (.getfield 126, 3) := by decide +kernel
theorem dX10_feed_84 : decode cX10_feed 84 = .ok (.iload_n 2, 1) := by decide +kernel
theorem dX10_feed_85 : decode cX10_feed 85 = .ok (.iastore, 1) := by decide +kernel
theorem dX10_feed_86 : decode cX10_feed 86 = .ok (.aload_n 0, 1) := by decide +kernel
theorem dX10_feed_87 : decode cX10_feed 87 = .ok (.getfield 81, 3) := by decide +kernel
theorem dX10_feed_90 : decode cX10_feed 90 = .ok (.aload_n 0, 1) := by decide +kernel
theorem dX10_feed_91 : decode cX10_feed 91 = .ok (.getfield 126, 3) := by decide +kernel
theorem dX10_feed_94 : decode cX10_feed 94 = .ok (.iload_n 1, 1) := by decide +kernel
theorem dX10_feed_95 : decode cX10_feed 95 = .ok (.iastore, 1) := by decide +kernel
theorem dX10_feed_96 : decode cX10_feed 96 = .ok (.aload_n 0, 1) := by decide +kernel
theorem dX10_feed_97 : decode cX10_feed 97 = .ok (.getfield 84, 3) := by decide +kernel
theorem dX10_feed_100 : decode cX10_feed 100 = .ok (.aload_n 0, 1) := by decide +kernel
theorem dX10_feed_101 : decode cX10_feed 101 = .ok (.getfield 126, 3) := by decide +kernel
theorem dX10_feed_104 : decode cX10_feed 104 = .ok (.iconst 0, 1) := by decide +kernel
theorem dX10_feed_105 : decode cX10_feed 105 = .ok (.iastore, 1) := by decide +kernel
theorem dX10_feed_106 : decode cX10_feed 106 = .ok (.aload_n 0, 1) := by decide +kernel
theorem dX10_feed_107 : decode cX10_feed 107 = .ok (.dup, 1) := by decide +kernel
theorem dX10_feed_108 : decode cX10_feed 108 = .ok (.getfield 126, 3) := by decide +kernel
theorem dX10_feed_111 : decode cX10_feed 111 = .ok (.iconst 1, 1) := by decide +kernel
theorem dX10_feed_112 : decode cX10_feed 112 = .ok (.iadd, 1) := by decide +kernel
theorem dX10_feed_113 : decode cX10_feed 113 = .ok (.putfield 126, 3) := by decide +kernel
theorem dX10_feed_116 : decode cX10_feed 116 = .ok (.iconst 1, 1) := by decide +kernel
theorem dX10_feed_117 : decode cX10_feed 117 = .ok (.ireturn, 1) := by decide +kernel
theorem dX10_chance_0 : decode cX10_chance 0 = .ok (.aload_n 0, 1) := by decide +kernel
theorem dX10_chance_1 : decode cX10_chance 1 = .ok (.getfield 118, 3) := by decide +kernel
theorem dX10_chance_4 : decode cX10_chance 4 = .ok (.ldc2_w 168, 3) := by decide +kernel
theorem dX10_chance_7 : decode cX10_chance 7 = .ok (.lmul, 1) := by decide +kernel
theorem dX10_chance_8 : decode cX10_chance 8 = .ok (.iload_n 1, 1) := by decide +kernel
theorem dX10_chance_9 : decode cX10_chance 9 = .ok (.i2l, 1) := by decide +kernel
theorem dX10_chance_10 : decode cX10_chance 10 = .ok (.ldc2_w 170, 3) := by decide +kernel
theorem dX10_chance_13 : decode cX10_chance 13 = .ok (.lmul, 1) := by decide +kernel
theorem dX10_chance_14 : decode cX10_chance 14 = .ok (.ladd, 1) := by decide +kernel
theorem dX10_chance_15 : decode cX10_chance 15 = .ok (.iload_n 2, 1) := by decide +kernel
theorem dX10_chance_16 : decode cX10_chance 16 = .ok (.i2l, 1) := by decide +kernel
theorem dX10_chance_17 : decode cX10_chance 17 = .ok (.ldc2_w 172, 3) := by decide +kernel
theorem dX10_chance_20 : decode cX10_chance 20 = .ok (.lmul, 1) := by decide +kernel
theorem dX10_chance_21 : decode cX10_chance 21 = .ok (.ladd, 1) := by decide +kernel
theorem dX10_chance_22 : decode cX10_chance 22 = .ok (.lstore_n 3, 1) := by decide +kernel
theorem dX10_chance_23 : decode cX10_chance 23 = .ok (.lload_n 3, 1) := by decide +kernel
theorem dX10_chance_24 : decode cX10_chance 24 = .ok (.lload_n 3, 1) := by decide +kernel
theorem dX10_chance_25 : decode cX10_chance 25 = .ok (.bipush 29, 2) := by decide +kernel
theorem dX10_chance_27 : decode cX10_chance 27 = .ok (.lushr, 1) := by decide +kernel
theorem dX10_chance_28 : decode cX10_chance 28 = .ok (.lxor, 1) := by decide +kernel
theorem dX10_chance_29 : decode cX10_chance 29 = .ok (.ldc2_w 174, 3) := by decide +kernel
theorem dX10_chance_32 : decode cX10_chance 32 = .ok (.lmul, 1) := by decide +kernel
theorem dX10_chance_33 : decode cX10_chance 33 = .ok (.lstore_n 3, 1) := by decide +kernel
theorem dX10_chance_34 : decode cX10_chance 34 = .ok (.lload_n 3, 1) := by decide +kernel
theorem dX10_chance_35 : decode cX10_chance 35 = .ok (.lload_n 3, 1) := by decide +kernel
theorem dX10_chance_36 : decode cX10_chance 36 = .ok (.bipush 32, 2) := by decide +kernel
theorem dX10_chance_38 : decode cX10_chance 38 = .ok (.lushr, 1) := by decide +kernel
theorem dX10_chance_39 : decode cX10_chance 39 = .ok (.lxor, 1) := by decide +kernel
theorem dX10_chance_40 : decode cX10_chance 40 = .ok (.lstore_n 3, 1) := by decide +kernel
theorem dX10_chance_41 : decode cX10_chance 41 = .ok (.lload_n 3, 1) := by decide +kernel
theorem dX10_chance_42 : decode cX10_chance 42 = .ok (.bipush 11, 2) := by decide +kernel
theorem dX10_chance_44 : decode cX10_chance 44 = .ok (.lushr, 1) := by decide +kernel
theorem dX10_chance_45 : decode cX10_chance 45 = .ok (.l2d, 1) := by decide +kernel
theorem dX10_chance_46 : decode cX10_chance 46 = .ok (.ldc2_w 176, 3) := by decide +kernel
theorem dX10_chance_49 : decode cX10_chance 49 = .ok (.ddiv, 1) := by decide +kernel
theorem dX10_chance_50 : decode cX10_chance 50 = .ok (.dreturn, 1) := by decide +kernel
theorem dX10_note_0 : decode cX10_note 0 = .ok (.aload_n 0, 1) := by decide +kernel
theorem dX10_note_1 : decode cX10_note 1 = .ok (.getfield 178, 3) := by decide +kernel
theorem dX10_note_4 : decode cX10_note 4 = .ok (.sipush 2000, 3) := by decide +kernel
theorem dX10_note_7 : decode cX10_note 7 = .ok (.if_icmp .ge 60, 3) := by decide +kernel
theorem dX10_note_10 : decode cX10_note 10 = .ok (.aload_n 0, 1) := by decide +kernel
theorem dX10_note_11 : decode cX10_note 11 = .ok (.getfield 96, 3) := by decide +kernel
theorem dX10_note_14 : decode cX10_note 14 = .ok (.iconst 4, 1) := by decide +kernel
theorem dX10_note_15 : decode cX10_note 15 = .ok (.aload_n 0, 1) := by decide +kernel
theorem dX10_note_16 : decode cX10_note 16 = .ok (.getfield 178, 3) := by decide +kernel
theorem dX10_note_19 : decode cX10_note 19 = .ok (.imul, 1) := by decide +kernel
theorem dX10_note_20 : decode cX10_note 20 = .ok (.aload_n 0, 1) := by decide +kernel
theorem dX10_note_21 : decode cX10_note 21 = .ok (.getfield 165, 3) := by decide +kernel
theorem dX10_note_24 : decode cX10_note 24 = .ok (.iastore, 1) := by decide +kernel
theorem dX10_note_25 : decode cX10_note 25 = .ok (.aload_n 0, 1) := by decide +kernel
theorem dX10_note_26 : decode cX10_note 26 = .ok (.getfield 96, 3) := by decide +kernel
theorem dX10_note_29 : decode cX10_note 29 = .ok (.iconst 4, 1) := by decide +kernel
theorem dX10_note_30 : decode cX10_note 30 = .ok (.aload_n 0, 1) := by decide +kernel
theorem dX10_note_31 : decode cX10_note 31 = .ok (.getfield 178, 3) := by decide +kernel
theorem dX10_note_34 : decode cX10_note 34 = .ok (.imul, 1) := by decide +kernel
theorem dX10_note_35 : decode cX10_note 35 = .ok (.iconst 1, 1) := by decide +kernel
theorem dX10_note_36 : decode cX10_note 36 = .ok (.iadd, 1) := by decide +kernel
theorem dX10_note_37 : decode cX10_note 37 = .ok (.iload_n 1, 1) := by decide +kernel
theorem dX10_note_38 : decode cX10_note 38 = .ok (.iastore, 1) := by decide +kernel
theorem dX10_note_39 : decode cX10_note 39 = .ok (.aload_n 0, 1) := by decide +kernel
theorem dX10_note_40 : decode cX10_note 40 = .ok (.getfield 96, 3) := by decide +kernel
theorem dX10_note_43 : decode cX10_note 43 = .ok (.iconst 4, 1) := by decide +kernel
theorem dX10_note_44 : decode cX10_note 44 = .ok (.aload_n 0, 1) := by decide +kernel
theorem dX10_note_45 : decode cX10_note 45 = .ok (.getfield 178, 3) := by decide +kernel
theorem dX10_note_48 : decode cX10_note 48 = .ok (.imul, 1) := by decide +kernel
theorem dX10_note_49 : decode cX10_note 49 = .ok (.iconst 2, 1) := by decide +kernel
theorem dX10_note_50 : decode cX10_note 50 = .ok (.iadd, 1) := by decide +kernel
theorem dX10_note_51 : decode cX10_note 51 = .ok (.iload_n 2, 1) := by decide +kernel
theorem dX10_note_52 : decode cX10_note 52 = .ok (.iastore, 1) := by decide +kernel
theorem dX10_note_53 : decode cX10_note 53 = .ok (.aload_n 0, 1) := by decide +kernel
theorem dX10_note_54 : decode cX10_note 54 = .ok (.getfield 96, 3) := by decide +kernel
theorem dX10_note_57 : decode cX10_note 57 = .ok (.iconst 4, 1) := by decide +kernel
theorem dX10_note_58 : decode cX10_note 58 = .ok (.aload_n 0, 1) := by decide +kernel
theorem dX10_note_59 : decode cX10_note 59 = .ok (.getfield 178, 3) := by decide +kernel
theorem dX10_note_62 : decode cX10_note 62 = .ok (.imul, 1) := by decide +kernel
theorem dX10_note_63 : decode cX10_note 63 = .ok (.iconst 3, 1) := by decide +kernel
theorem dX10_note_64 : decode cX10_note 64 = .ok (.iadd, 1) := by decide +kernel
theorem dX10_note_65 : decode cX10_note 65 = .ok (.iload_n 3, 1) := by decide +kernel
theorem dX10_note_66 : decode cX10_note 66 = .ok (.iastore, 1) := by decide +kernel
theorem dX10_note_67 : decode cX10_note 67 = .ok (.aload_n 0, 1) := by decide +kernel
theorem dX10_note_68 : decode cX10_note 68 = .ok (.dup, 1) := by decide +kernel
theorem dX10_note_69 : decode cX10_note 69 = .ok (.getfield 178, 3) := by decide +kernel
theorem dX10_note_72 : decode cX10_note 72 = .ok (.iconst 1, 1) := by decide +kernel
theorem dX10_note_73 : decode cX10_note 73 = .ok (.iadd, 1) := by decide +kernel
theorem dX10_note_74 : decode cX10_note 74 = .ok (.putfield 178, 3) := by decide +kernel
theorem dX10_note_77 : decode cX10_note 77 = .ok (.return_, 1) := by decide +kernel
theorem dX10_lose_0 : decode cX10_lose 0 = .ok (.aload_n 0, 1) := by decide +kernel
theorem dX10_lose_1 : decode cX10_lose 1 = .ok (.getfield 84, 3) := by decide +kernel
theorem dX10_lose_4 : decode cX10_lose 4 = .ok (.iload_n 1, 1) := by decide +kernel
theorem dX10_lose_5 : decode cX10_lose 5 = .ok (.iconst 5, 1) := by decide +kernel
theorem dX10_lose_6 : decode cX10_lose 6 = .ok (.iastore, 1) := by decide +kernel
theorem dX10_lose_7 : decode cX10_lose 7 = .ok (.aload_n 0, 1) := by decide +kernel
theorem dX10_lose_8 : decode cX10_lose 8 = .ok (.getfield 102, 3) := by decide +kernel
theorem dX10_lose_11 : decode cX10_lose 11 = .ok (.iload_n 2, 1) := by decide +kernel
theorem dX10_lose_12 : decode cX10_lose 12 = .ok (.dup2, 1) := by decide +kernel
theorem dX10_lose_13 : decode cX10_lose 13 = .ok (.laload, 1) := by decide +kernel
theorem dX10_lose_14 : decode cX10_lose 14 = .ok (.lconst 1, 1) := by decide +kernel
theorem dX10_lose_15 : decode cX10_lose 15 = .ok (.ladd, 1) := by decide +kernel
theorem dX10_lose_16 : decode cX10_lose 16 = .ok (.lastore, 1) := by decide +kernel
theorem dX10_lose_17 : decode cX10_lose 17 = .ok (.aload_n 0, 1) := by decide +kernel
theorem dX10_lose_18 : decode cX10_lose 18 = .ok (.iload_n 1, 1) := by decide +kernel
theorem dX10_lose_19 : decode cX10_lose 19 = .ok (.iload_n 3, 1) := by decide +kernel
theorem dX10_lose_20 : decode cX10_lose 20 = .ok (.iload 4, 2) := by decide +kernel
theorem dX10_lose_22 : decode cX10_lose 22 = .ok (.invokevirtual 181, 3) := by decide +kernel
theorem dX10_lose_25 : decode cX10_lose 25 = .ok (.return_, 1) := by decide +kernel
theorem dX10_sizesOn_0 : decode cX10_sizesOn 0 = .ok (.dconst 0, 1) := by decide +kernel
theorem dX10_sizesOn_1 : decode cX10_sizesOn 1 = .ok (.dstore_n 3, 1) := by decide +kernel
theorem dX10_sizesOn_2 : decode cX10_sizesOn 2 = .ok (.iconst 0, 1) := by decide +kernel
theorem dX10_sizesOn_3 : decode cX10_sizesOn 3 = .ok (.istore 5, 2) := by decide +kernel
theorem dX10_sizesOn_5 : decode cX10_sizesOn 5 = .ok (.iload 5, 2) := by decide +kernel
theorem dX10_sizesOn_7 : decode cX10_sizesOn 7 = .ok (.aload_n 0, 1) := by decide +kernel
theorem dX10_sizesOn_8 : decode cX10_sizesOn 8 = .ok (.getfield 126, 3) := by decide +kernel
theorem dX10_sizesOn_11 : decode cX10_sizesOn 11 = .ok (.if_icmp .ge 51, 3) := by decide +kernel
theorem dX10_sizesOn_14 : decode cX10_sizesOn 14 = .ok (.dload_n 3, 1) := by decide +kernel
theorem dX10_sizesOn_15 : decode cX10_sizesOn 15 = .ok (.iload 5, 2) := by decide +kernel
theorem dX10_sizesOn_17 : decode cX10_sizesOn 17 = .ok (.iload_n 2, 1) := by decide +kernel
theorem dX10_sizesOn_18 : decode cX10_sizesOn 18 = .ok (.if_icmp .eq 25, 3) := by decide +kernel
theorem dX10_sizesOn_21 : decode cX10_sizesOn 21 = .ok (.aload_n 0, 1) := by decide +kernel
theorem dX10_sizesOn_22 : decode cX10_sizesOn 22 = .ok (.getfield 84, 3) := by decide +kernel
theorem dX10_sizesOn_25 : decode cX10_sizesOn 25 = .ok (.iload 5, 2) := by decide +kernel
theorem dX10_sizesOn_27 : decode cX10_sizesOn 27 = .ok (.iaload, 1) := by decide +kernel
theorem dX10_sizesOn_28 : decode cX10_sizesOn 28 = .ok (.iconst 1, 1) := by decide +kernel
theorem dX10_sizesOn_29 : decode cX10_sizesOn 29 = .ok (.if_icmp .ne 24, 3) := by decide +kernel
theorem dX10_sizesOn_32 : decode cX10_sizesOn 32 = .ok (.aload_n 0, 1) := by decide +kernel
theorem dX10_sizesOn_33 : decode cX10_sizesOn 33 = .ok (.getfield 87, 3) := by decide +kernel
theorem dX10_sizesOn_36 : decode cX10_sizesOn 36 = .ok (.iload 5, 2) := by decide +kernel
theorem dX10_sizesOn_38 : decode cX10_sizesOn 38 = .ok (.iaload, 1) := by decide +kernel
theorem dX10_sizesOn_39 : decode cX10_sizesOn 39 = .ok (.iload_n 1, 1) := by decide +kernel
theorem dX10_sizesOn_40 : decode cX10_sizesOn 40 = .ok (.if_icmp .ne 13, 3) := by decide +kernel
theorem dX10_sizesOn_43 : decode cX10_sizesOn 43 = .ok (.aload_n 0, 1) := by decide +kernel
theorem dX10_sizesOn_44 : decode cX10_sizesOn 44 = .ok (.getfield 75, 3) := by decide +kernel
theorem dX10_sizesOn_47 : decode cX10_sizesOn 47 = .ok (.iload 5, 2) := by decide +kernel
theorem dX10_sizesOn_49 : decode cX10_sizesOn 49 = .ok (.daload, 1) := by decide +kernel
theorem dX10_sizesOn_50 : decode cX10_sizesOn 50 = .ok (.goto 4, 3) := by decide +kernel
theorem dX10_sizesOn_53 : decode cX10_sizesOn 53 = .ok (.dconst 0, 1) := by decide +kernel
theorem dX10_sizesOn_54 : decode cX10_sizesOn 54 = .ok (.dadd, 1) := by decide +kernel
theorem dX10_sizesOn_55 : decode cX10_sizesOn 55 = .ok (.dstore_n 3, 1) := by decide +kernel
theorem dX10_sizesOn_56 : decode cX10_sizesOn 56 = .ok (.iinc 5 1, 3) := by decide +kernel
theorem dX10_sizesOn_59 : decode cX10_sizesOn 59 = .ok (.goto (-54), 3) := by decide +kernel
theorem dX10_sizesOn_62 : decode cX10_sizesOn 62 = .ok (.dload_n 3, 1) := by decide +kernel
theorem dX10_sizesOn_63 : decode cX10_sizesOn 63 = .ok (.dreturn, 1) := by decide +kernel
theorem dX10_piecesOn_0 : decode cX10_piecesOn 0 = .ok (.iconst 0, 1) := by decide +kernel
theorem dX10_piecesOn_1 : decode cX10_piecesOn 1 = .ok (.istore_n 2, 1) := by decide +kernel
theorem dX10_piecesOn_2 : decode cX10_piecesOn 2 = .ok (.iconst 0, 1) := by decide +kernel
theorem dX10_piecesOn_3 : decode cX10_piecesOn 3 = .ok (.istore_n 3, 1) := by decide +kernel
theorem dX10_piecesOn_4 : decode cX10_piecesOn 4 = .ok (.iload_n 3, 1) := by decide +kernel
theorem dX10_piecesOn_5 : decode cX10_piecesOn 5 = .ok (.aload_n 0, 1) := by decide +kernel
theorem dX10_piecesOn_6 : decode cX10_piecesOn 6 = .ok (.getfield 126, 3) := by decide +kernel
theorem dX10_piecesOn_9 : decode cX10_piecesOn 9 = .ok (.if_icmp .ge 37, 3) := by decide +kernel
theorem dX10_piecesOn_12 : decode cX10_piecesOn 12 = .ok (.iload_n 2, 1) := by decide +kernel
theorem dX10_piecesOn_13 : decode cX10_piecesOn 13 = .ok (.aload_n 0, 1) := by decide +kernel
theorem dX10_piecesOn_14 : decode cX10_piecesOn 14 = .ok (.getfield 84, 3) := by decide +kernel
theorem dX10_piecesOn_17 : decode cX10_piecesOn 17 = .ok (.iload_n 3, 1) := by decide +kernel
theorem dX10_piecesOn_18 : decode cX10_piecesOn 18 = .ok (.iaload, 1) := by decide +kernel
theorem dX10_piecesOn_19 : decode cX10_piecesOn 19 = .ok (.iconst 1, 1) := by decide +kernel
theorem dX10_piecesOn_20 : decode cX10_piecesOn 20 = .ok (.if_icmp .ne 17, 3) := by decide +kernel
theorem dX10_piecesOn_23 : decode cX10_piecesOn 23 = .ok (.aload_n 0, 1) := by decide +kernel
theorem dX10_piecesOn_24 : decode cX10_piecesOn 24 = .ok (.getfield 87, 3) := by decide +kernel
theorem dX10_piecesOn_27 : decode cX10_piecesOn 27 = .ok (.iload_n 3, 1) := by decide +kernel
theorem dX10_piecesOn_28 : decode cX10_piecesOn 28 = .ok (.iaload, 1) := by decide +kernel
theorem dX10_piecesOn_29 : decode cX10_piecesOn 29 = .ok (.iload_n 1, 1) := by decide +kernel
theorem dX10_piecesOn_30 : decode cX10_piecesOn 30 = .ok (.if_icmp .ne 7, 3) := by decide +kernel
theorem dX10_piecesOn_33 : decode cX10_piecesOn 33 = .ok (.iconst 1, 1) := by decide +kernel
theorem dX10_piecesOn_34 : decode cX10_piecesOn 34 = .ok (.goto 4, 3) := by decide +kernel
theorem dX10_piecesOn_37 : decode cX10_piecesOn 37 = .ok (.iconst 0, 1) := by decide +kernel
theorem dX10_piecesOn_38 : decode cX10_piecesOn 38 = .ok (.iadd, 1) := by decide +kernel
theorem dX10_piecesOn_39 : decode cX10_piecesOn 39 = .ok (.istore_n 2, 1) := by decide +kernel
theorem dX10_piecesOn_40 : decode cX10_piecesOn 40 = .ok (.iinc 3 1, 3) := by decide +kernel
theorem dX10_piecesOn_43 : decode cX10_piecesOn 43 = .ok (.goto (-39), 3) := by decide +kernel
theorem dX10_piecesOn_46 : decode cX10_piecesOn 46 = .ok (.iload_n 2, 1) := by decide +kernel
theorem dX10_piecesOn_47 : decode cX10_piecesOn 47 = .ok (.ireturn, 1) := by decide +kernel
theorem dX10_enter_0 : decode cX10_enter 0 = .ok (.aload_n 0, 1) := by decide +kernel
theorem dX10_enter_1 : decode cX10_enter 1 = .ok (.getfield 84, 3) := by decide +kernel
theorem dX10_enter_4 : decode cX10_enter 4 = .ok (.iload_n 1, 1) := by decide +kernel
theorem dX10_enter_5 : decode cX10_enter 5 = .ok (.iconst 0, 1) := by decide +kernel
theorem dX10_enter_6 : decode cX10_enter 6 = .ok (.iastore, 1) := by decide +kernel
theorem dX10_enter_7 : decode cX10_enter 7 = .ok (.aload_n 0, 1) := by decide +kernel
theorem dX10_enter_8 : decode cX10_enter 8 = .ok (.getfield 165, 3) := by decide +kernel
theorem dX10_enter_11 : decode cX10_enter 11 = .ok (.aload_n 0, 1) := by decide +kernel
theorem dX10_enter_12 : decode cX10_enter 12 = .ok (.getfield 30, 3) := by decide +kernel
theorem dX10_enter_15 : decode cX10_enter 15 = .ok (.iload_n 2, 1) := by decide +kernel
theorem dX10_enter_16 : decode cX10_enter 16 = .ok (.iaload, 1) := by decide +kernel
theorem dX10_enter_17 : decode cX10_enter 17 = .ok (.if_icmp .ge 13, 3) := by decide +kernel
theorem dX10_enter_20 : decode cX10_enter 20 = .ok (.aload_n 0, 1) := by decide +kernel
theorem dX10_enter_21 : decode cX10_enter 21 = .ok (.iload_n 1, 1) := by decide +kernel
theorem dX10_enter_22 : decode cX10_enter 22 = .ok (.iconst 1, 1) := by decide +kernel
theorem dX10_enter_23 : decode cX10_enter 23 = .ok (.bipush 7, 2) := by decide +kernel
theorem dX10_enter_25 : decode cX10_enter 25 = .ok (.iload_n 2, 1) := by decide +kernel
theorem dX10_enter_26 : decode cX10_enter 26 = .ok (.invokevirtual 185, 3) := by decide +kernel
theorem dX10_enter_29 : decode cX10_enter 29 = .ok (.return_, 1) := by decide +kernel
theorem dX10_enter_30 : decode cX10_enter 30 = .ok (.aload_n 0, 1) := by decide +kernel
theorem dX10_enter_31 : decode cX10_enter 31 = .ok (.getfield 20, 3) := by decide +kernel
theorem dX10_enter_34 : decode cX10_enter 34 = .ok (.iload_n 2, 1) := by decide +kernel
theorem dX10_enter_35 : decode cX10_enter 35 = .ok (.baload, 1) := by decide +kernel
theorem dX10_enter_36 : decode cX10_enter 36 = .ok (.ifCond .eq 132, 3) := by decide +kernel
theorem dX10_enter_39 : decode cX10_enter 39 = .ok (.aload_n 0, 1) := by decide +kernel
theorem dX10_enter_40 : decode cX10_enter 40 = .ok (.iload_n 2, 1) := by decide +kernel
theorem dX10_enter_41 : decode cX10_enter 41 = .ok (.iload_n 1, 1) := by decide +kernel
theorem dX10_enter_42 : decode cX10_enter 42 = .ok (.invokevirtual 189, 3) := by decide +kernel
theorem dX10_enter_45 : decode cX10_enter 45 = .ok (.aload_n 0, 1) := by decide +kernel
theorem dX10_enter_46 : decode cX10_enter 46 = .ok (.getfield 24, 3) := by decide +kernel
theorem dX10_enter_49 : decode cX10_enter 49 = .ok (.iload_n 2, 1) := by decide +kernel
theorem dX10_enter_50 : decode cX10_enter 50 = .ok (.daload, 1) := by decide +kernel
theorem dX10_enter_51 : decode cX10_enter 51 = .ok (.dcmp .l, 1) := by decide +kernel
theorem dX10_enter_52 : decode cX10_enter 52 = .ok (.ifCond .le 116, 3) := by decide +kernel
theorem dX10_enter_55 : decode cX10_enter 55 = .ok (.aload_n 0, 1) := by decide +kernel
theorem dX10_enter_56 : decode cX10_enter 56 = .ok (.getfield 99, 3) := by decide +kernel
theorem dX10_enter_59 : decode cX10_enter 59 = .ok (.iconst 4, 1) := by decide +kernel
theorem dX10_enter_60 : decode cX10_enter 60 = .ok (.aload_n 0, 1) := by decide +kernel
theorem dX10_enter_61 : decode cX10_enter 61 = .ok (.getfield 193, 3) := by decide +kernel
theorem dX10_enter_64 : decode cX10_enter 64 = .ok (.imul, 1) := by decide +kernel
theorem dX10_enter_65 : decode cX10_enter 65 = .ok (.aload_n 0, 1) := by decide +kernel
theorem dX10_enter_66 : decode cX10_enter 66 = .ok (.getfield 165, 3) := by decide +kernel
theorem dX10_enter_69 : decode cX10_enter 69 = .ok (.iastore, 1) := by decide +kernel
theorem dX10_enter_70 : decode cX10_enter 70 = .ok (.aload_n 0, 1) := by decide +kernel
theorem dX10_enter_71 : decode cX10_enter 71 = .ok (.getfield 99, 3) := by decide +kernel
theorem dX10_enter_74 : decode cX10_enter 74 = .ok (.iconst 4, 1) := by decide +kernel
theorem dX10_enter_75 : decode cX10_enter 75 = .ok (.aload_n 0, 1) := by decide +kernel
theorem dX10_enter_76 : decode cX10_enter 76 = .ok (.getfield 193, 3) := by decide +kernel
theorem dX10_enter_79 : decode cX10_enter 79 = .ok (.imul, 1) := by decide +kernel
theorem dX10_enter_80 : decode cX10_enter 80 = .ok (.iconst 1, 1) := by decide +kernel
theorem dX10_enter_81 : decode cX10_enter 81 = .ok (.iadd, 1) := by decide +kernel
theorem dX10_enter_82 : decode cX10_enter 82 = .ok (.iload_n 1, 1) := by decide +kernel
theorem dX10_enter_83 : decode cX10_enter 83 = .ok (.iastore, 1) := by decide +kernel
theorem dX10_enter_84 : decode cX10_enter 84 = .ok (.aload_n 0, 1) := by decide +kernel
theorem dX10_enter_85 : decode cX10_enter 85 = .ok (.getfield 99, 3) := by decide +kernel
theorem dX10_enter_88 : decode cX10_enter 88 = .ok (.iconst 4, 1) := by decide +kernel
theorem dX10_enter_89 : decode cX10_enter 89 = .ok (.aload_n 0, 1) := by decide +kernel
theorem dX10_enter_90 : decode cX10_enter 90 = .ok (.getfield 193, 3) := by decide +kernel
theorem dX10_enter_93 : decode cX10_enter 93 = .ok (.imul, 1) := by decide +kernel
theorem dX10_enter_94 : decode cX10_enter 94 = .ok (.iconst 2, 1) := by decide +kernel
theorem dX10_enter_95 : decode cX10_enter 95 = .ok (.iadd, 1) := by decide +kernel
theorem dX10_enter_96 : decode cX10_enter 96 = .ok (.iload_n 2, 1) := by decide +kernel
theorem dX10_enter_97 : decode cX10_enter 97 = .ok (.iastore, 1) := by decide +kernel
theorem dX10_enter_98 : decode cX10_enter 98 = .ok (.aload_n 0, 1) := by decide +kernel
theorem dX10_enter_99 : decode cX10_enter 99 = .ok (.getfield 99, 3) := by decide +kernel
theorem dX10_enter_102 : decode cX10_enter 102 = .ok (.iconst 4, 1) := by decide +kernel
theorem dX10_enter_103 : decode cX10_enter 103 = .ok (.aload_n 0, 1) := by decide +kernel
theorem dX10_enter_104 : decode cX10_enter 104 = .ok (.getfield 193, 3) := by decide +kernel
theorem dX10_enter_107 : decode cX10_enter 107 = .ok (.imul, 1) := by decide +kernel
theorem dX10_enter_108 : decode cX10_enter 108 = .ok (.iconst 3, 1) := by decide +kernel
theorem dX10_enter_109 : decode cX10_enter 109 = .ok (.iadd, 1) := by decide +kernel
theorem dX10_enter_110 : decode cX10_enter 110 = .ok (.aload_n 0, 1) := by decide +kernel
theorem dX10_enter_111 : decode cX10_enter 111 = .ok (.iload_n 2, 1) := by decide +kernel
theorem dX10_enter_112 : decode cX10_enter 112 = .ok (.invokevirtual 196, 3) := by decide +kernel
theorem dX10_enter_115 : decode cX10_enter 115 = .ok (.iastore, 1) := by decide +kernel
theorem dX10_enter_116 : decode cX10_enter 116 = .ok (.aload_n 0, 1) := by decide +kernel
theorem dX10_enter_117 : decode cX10_enter 117 = .ok (.dup, 1) := by decide +kernel
theorem dX10_enter_118 : decode cX10_enter 118 = .ok (.getfield 193, 3) := by decide +kernel
theorem dX10_enter_121 : decode cX10_enter 121 = .ok (.iconst 1, 1) := by decide +kernel
theorem dX10_enter_122 : decode cX10_enter 122 = .ok (.iadd, 1) := by decide +kernel
theorem dX10_enter_123 : decode cX10_enter 123 = .ok (.putfield 193, 3) := by decide +kernel
theorem dX10_enter_126 : decode cX10_enter 126 = .ok (.aload_n 0, 1) := by decide +kernel
theorem dX10_enter_127 : decode cX10_enter 127 = .ok (.getfield 102, 3) := by decide +kernel
theorem dX10_enter_130 : decode cX10_enter 130 = .ok (.iconst 3, 1) := by decide +kernel
theorem dX10_enter_131 : decode cX10_enter 131 = .ok (.dup2, 1) := by decide +kernel
theorem dX10_enter_132 : decode cX10_enter 132 = .ok (.laload, 1) := by decide +kernel
theorem dX10_enter_133 : decode cX10_enter 133 = .ok (.aload_n 0, 1) := by decide +kernel
theorem dX10_enter_134 : decode cX10_enter 134 = .ok (.getfield 27, 3) := by decide +kernel
theorem dX10_enter_137 : decode cX10_enter 137 = .ok (.iload_n 2, 1) := by decide +kernel
theorem dX10_enter_138 : decode cX10_enter 138 = .ok (.iaload, 1) := by decide +kernel
theorem dX10_enter_139 : decode cX10_enter 139 = .ok (.i2l, 1) := by decide +kernel
theorem dX10_enter_140 : decode cX10_enter 140 = .ok (.ladd, 1) := by decide +kernel
theorem dX10_enter_141 : decode cX10_enter 141 = .ok (.lastore, 1) := by decide +kernel
theorem dX10_enter_142 : decode cX10_enter 142 = .ok (.aload_n 0, 1) := by decide +kernel
theorem dX10_enter_143 : decode cX10_enter 143 = .ok (.getfield 30, 3) := by decide +kernel
theorem dX10_enter_146 : decode cX10_enter 146 = .ok (.iload_n 2, 1) := by decide +kernel
theorem dX10_enter_147 : decode cX10_enter 147 = .ok (.aload_n 0, 1) := by decide +kernel
theorem dX10_enter_148 : decode cX10_enter 148 = .ok (.getfield 165, 3) := by decide +kernel
theorem dX10_enter_151 : decode cX10_enter 151 = .ok (.aload_n 0, 1) := by decide +kernel
theorem dX10_enter_152 : decode cX10_enter 152 = .ok (.getfield 27, 3) := by decide +kernel
theorem dX10_enter_155 : decode cX10_enter 155 = .ok (.iload_n 2, 1) := by decide +kernel
theorem dX10_enter_156 : decode cX10_enter 156 = .ok (.iaload, 1) := by decide +kernel
theorem dX10_enter_157 : decode cX10_enter 157 = .ok (.iadd, 1) := by decide +kernel
theorem dX10_enter_158 : decode cX10_enter 158 = .ok (.iastore, 1) := by decide +kernel
theorem dX10_enter_159 : decode cX10_enter 159 = .ok (.aload_n 0, 1) := by decide +kernel
theorem dX10_enter_160 : decode cX10_enter 160 = .ok (.iload_n 1, 1) := by decide +kernel
theorem dX10_enter_161 : decode cX10_enter 161 = .ok (.iconst 0, 1) := by decide +kernel
theorem dX10_enter_162 : decode cX10_enter 162 = .ok (.iconst 3, 1) := by decide +kernel
theorem dX10_enter_163 : decode cX10_enter 163 = .ok (.iload_n 2, 1) := by decide +kernel
theorem dX10_enter_164 : decode cX10_enter 164 = .ok (.invokevirtual 185, 3) := by decide +kernel
theorem dX10_enter_167 : decode cX10_enter 167 = .ok (.return_, 1) := by decide +kernel
theorem dX10_enter_168 : decode cX10_enter 168 = .ok (.aload_n 0, 1) := by decide +kernel
theorem dX10_enter_169 : decode cX10_enter 169 = .ok (.getfield 84, 3) := by decide +kernel
theorem dX10_enter_172 : decode cX10_enter 172 = .ok (.iload_n 1, 1) := by decide +kernel
theorem dX10_enter_173 : decode cX10_enter 173 = .ok (.iconst 1, 1) := by decide +kernel
theorem dX10_enter_174 : decode cX10_enter 174 = .ok (.iastore, 1) := by decide +kernel
theorem dX10_enter_175 : decode cX10_enter 175 = .ok (.aload_n 0, 1) := by decide +kernel
theorem dX10_enter_176 : decode cX10_enter 176 = .ok (.getfield 87, 3) := by decide +kernel
theorem dX10_enter_179 : decode cX10_enter 179 = .ok (.iload_n 1, 1) := by decide +kernel
theorem dX10_enter_180 : decode cX10_enter 180 = .ok (.iload_n 2, 1) := by decide +kernel
theorem dX10_enter_181 : decode cX10_enter 181 = .ok (.iastore, 1) := by decide +kernel
theorem dX10_enter_182 : decode cX10_enter 182 = .ok (.aload_n 0, 1) := by decide +kernel
theorem dX10_enter_183 : decode cX10_enter 183 = .ok (.getfield 90, 3) := by decide +kernel
theorem dX10_enter_186 : decode cX10_enter 186 = .ok (.iload_n 1, 1) := by decide +kernel
theorem dX10_enter_187 : decode cX10_enter 187 = .ok (.iconst 0, 1) := by decide +kernel
theorem dX10_enter_188 : decode cX10_enter 188 = .ok (.iastore, 1) := by decide +kernel
theorem dX10_enter_189 : decode cX10_enter 189 = .ok (.aload_n 0, 1) := by decide +kernel
theorem dX10_enter_190 : decode cX10_enter 190 = .ok (.iload_n 1, 1) := by decide +kernel
theorem dX10_enter_191 : decode cX10_enter 191 = .ok (.iconst 0, 1) := by decide +kernel
theorem dX10_enter_192 : decode cX10_enter 192 = .ok (.iload_n 2, 1) := by decide +kernel
theorem dX10_enter_193 : decode cX10_enter 193 = .ok (.invokevirtual 181, 3) := by decide +kernel
theorem dX10_enter_196 : decode cX10_enter 196 = .ok (.aload_n 0, 1) := by decide +kernel
theorem dX10_enter_197 : decode cX10_enter 197 = .ok (.iload_n 1, 1) := by decide +kernel
theorem dX10_enter_198 : decode cX10_enter 198 = .ok (.invokevirtual 200, 3) := by decide +kernel
theorem dX10_enter_201 : decode cX10_enter 201 = .ok (.return_, 1) := by decide +kernel
theorem dX10_pass_0 : decode cX10_pass 0 = .ok (.iconst 0, 1) := by decide +kernel
theorem dX10_pass_1 : decode cX10_pass 1 = .ok (.istore_n 2, 1) := by decide +kernel
theorem dX10_pass_2 : decode cX10_pass 2 = .ok (.iload_n 2, 1) := by decide +kernel
theorem dX10_pass_3 : decode cX10_pass 3 = .ok (.aload_n 0, 1) := by decide +kernel
theorem dX10_pass_4 : decode cX10_pass 4 = .ok (.getfield 141, 3) := by decide +kernel
theorem dX10_pass_7 : decode cX10_pass 7 = .ok (.if_icmp .ge 66, 3) := by decide +kernel
theorem dX10_pass_10 : decode cX10_pass 10 = .ok (.aload_n 0, 1) := by decide +kernel
theorem dX10_pass_11 : decode cX10_pass 11 = .ok (.getfield 33, 3) := by decide +kernel
theorem dX10_pass_14 : decode cX10_pass 14 = .ok (.iload_n 2, 1) := by decide +kernel
theorem dX10_pass_15 : decode cX10_pass 15 = .ok (.iaload, 1) := by decide +kernel
theorem dX10_pass_16 : decode cX10_pass 16 = .ok (.aload_n 0, 1) := by decide +kernel
theorem dX10_pass_17 : decode cX10_pass 17 = .ok (.getfield 87, 3) := by decide +kernel
theorem dX10_pass_20 : decode cX10_pass 20 = .ok (.iload_n 1, 1) := by decide +kernel
theorem dX10_pass_21 : decode cX10_pass 21 = .ok (.iaload, 1) := by decide +kernel
theorem dX10_pass_22 : decode cX10_pass 22 = .ok (.if_icmp .ne 45, 3) := by decide +kernel
theorem dX10_pass_25 : decode cX10_pass 25 = .ok (.aload_n 0, 1) := by decide +kernel
theorem dX10_pass_26 : decode cX10_pass 26 = .ok (.getfield 36, 3) := by decide +kernel
theorem dX10_pass_29 : decode cX10_pass 29 = .ok (.iload_n 2, 1) := by decide +kernel
theorem dX10_pass_30 : decode cX10_pass 30 = .ok (.iaload, 1) := by decide +kernel
theorem dX10_pass_31 : decode cX10_pass 31 = .ok (.aload_n 0, 1) := by decide +kernel
theorem dX10_pass_32 : decode cX10_pass 32 = .ok (.getfield 90, 3) := by decide +kernel
theorem dX10_pass_35 : decode cX10_pass 35 = .ok (.iload_n 1, 1) := by decide +kernel
theorem dX10_pass_36 : decode cX10_pass 36 = .ok (.iaload, 1) := by decide +kernel
theorem dX10_pass_37 : decode cX10_pass 37 = .ok (.if_icmp .ne 30, 3) := by decide +kernel
theorem dX10_pass_40 : decode cX10_pass 40 = .ok (.aload_n 0, 1) := by decide +kernel
theorem dX10_pass_41 : decode cX10_pass 41 = .ok (.iload_n 1, 1) := by decide +kernel
theorem dX10_pass_42 : decode cX10_pass 42 = .ok (.aload_n 0, 1) := by decide +kernel
theorem dX10_pass_43 : decode cX10_pass 43 = .ok (.iload_n 1, 1) := by decide +kernel
theorem dX10_pass_44 : decode cX10_pass 44 = .ok (.iload_n 2, 1) := by decide +kernel
theorem dX10_pass_45 : decode cX10_pass 45 = .ok (.invokevirtual 204, 3) := by decide +kernel
theorem dX10_pass_48 : decode cX10_pass 48 = .ok (.aload_n 0, 1) := by decide +kernel
theorem dX10_pass_49 : decode cX10_pass 49 = .ok (.getfield 39, 3) := by decide +kernel
theorem dX10_pass_52 : decode cX10_pass 52 = .ok (.iload_n 2, 1) := by decide +kernel
theorem dX10_pass_53 : decode cX10_pass 53 = .ok (.daload, 1) := by decide +kernel
theorem dX10_pass_54 : decode cX10_pass 54 = .ok (.dcmp .g, 1) := by decide +kernel
theorem dX10_pass_55 : decode cX10_pass 55 = .ok (.ifCond .ge 7, 3) := by decide +kernel
theorem dX10_pass_58 : decode cX10_pass 58 = .ok (.iconst 2, 1) := by decide +kernel
theorem dX10_pass_59 : decode cX10_pass 59 = .ok (.goto 4, 3) := by decide +kernel
theorem dX10_pass_62 : decode cX10_pass 62 = .ok (.iconst 1, 1) := by decide +kernel
theorem dX10_pass_63 : decode cX10_pass 63 = .ok (.iload_n 2, 1) := by decide +kernel
theorem dX10_pass_64 : decode cX10_pass 64 = .ok (.invokevirtual 181, 3) := by decide +kernel
theorem dX10_pass_67 : decode cX10_pass 67 = .ok (.iinc 2 1, 3) := by decide +kernel
theorem dX10_pass_70 : decode cX10_pass 70 = .ok (.goto (-68), 3) := by decide +kernel
theorem dX10_pass_73 : decode cX10_pass 73 = .ok (.return_, 1) := by decide +kernel
theorem dX10_isTaken_0 : decode cX10_isTaken 0 = .ok (.aload_n 0, 1) := by decide +kernel
theorem dX10_isTaken_1 : decode cX10_isTaken 1 = .ok (.getfield 87, 3) := by decide +kernel
theorem dX10_isTaken_4 : decode cX10_isTaken 4 = .ok (.iload_n 1, 1) := by decide +kernel
theorem dX10_isTaken_5 : decode cX10_isTaken 5 = .ok (.iaload, 1) := by decide +kernel
theorem dX10_isTaken_6 : decode cX10_isTaken 6 = .ok (.istore_n 2, 1) := by decide +kernel
theorem dX10_isTaken_7 : decode cX10_isTaken 7 = .ok (.iconst 0, 1) := by decide +kernel
theorem dX10_isTaken_8 : decode cX10_isTaken 8 = .ok (.istore_n 3, 1) := by decide +kernel
theorem dX10_isTaken_9 : decode cX10_isTaken 9 = .ok (.iload_n 3, 1) := by decide +kernel
theorem dX10_isTaken_10 : decode cX10_isTaken 10 = .ok (.aload_n 0, 1) := by decide +kernel
theorem dX10_isTaken_11 : decode cX10_isTaken 11 = .ok (.getfield 162, 3) := by decide +kernel
theorem dX10_isTaken_14 : decode cX10_isTaken 14 = .ok (.if_icmp .ge 80, 3) := by decide +kernel
theorem dX10_isTaken_17 : decode cX10_isTaken 17 = .ok (.aload_n 0, 1) := by decide +kernel
theorem dX10_isTaken_18 : decode cX10_isTaken 18 = .ok (.getfield 72, 3) := by decide +kernel
theorem dX10_isTaken_21 : decode cX10_isTaken 21 = .ok (.iload_n 1, 1) := by decide +kernel
theorem dX10_isTaken_22 : decode cX10_isTaken 22 = .ok (.iaload, 1) := by decide +kernel
theorem dX10_isTaken_23 : decode cX10_isTaken 23 = .ok (.ifCond .le 71, 3) := by decide +kernel
theorem dX10_isTaken_26 : decode cX10_isTaken 26 = .ok (.aload_n 0, 1) := by decide +kernel
theorem dX10_isTaken_27 : decode cX10_isTaken 27 = .ok (.getfield 48, 3) := by decide +kernel
theorem dX10_isTaken_30 : decode cX10_isTaken 30 = .ok (.iload_n 3, 1) := by decide +kernel
theorem dX10_isTaken_31 : decode cX10_isTaken 31 = .ok (.iaload, 1) := by decide +kernel
theorem dX10_isTaken_32 : decode cX10_isTaken 32 = .ok (.iload_n 2, 1) := by decide +kernel
theorem dX10_isTaken_33 : decode cX10_isTaken 33 = .ok (.if_icmp .ne 55, 3) := by decide +kernel
theorem dX10_isTaken_36 : decode cX10_isTaken 36 = .ok (.aload_n 0, 1) := by decide +kernel
theorem dX10_isTaken_37 : decode cX10_isTaken 37 = .ok (.getfield 75, 3) := by decide +kernel
theorem dX10_isTaken_40 : decode cX10_isTaken 40 = .ok (.iload_n 1, 1) := by decide +kernel
theorem dX10_isTaken_41 : decode cX10_isTaken 41 = .ok (.daload, 1) := by decide +kernel
theorem dX10_isTaken_42 : decode cX10_isTaken 42 = .ok (.aload_n 0, 1) := by decide +kernel
theorem dX10_isTaken_43 : decode cX10_isTaken 43 = .ok (.getfield 51, 3) := by decide +kernel
theorem dX10_isTaken_46 : decode cX10_isTaken 46 = .ok (.iload_n 3, 1) := by decide +kernel
theorem dX10_isTaken_47 : decode cX10_isTaken 47 = .ok (.daload, 1) := by decide +kernel
theorem dX10_isTaken_48 : decode cX10_isTaken 48 = .ok (.dcmp .g, 1) := by decide +kernel
theorem dX10_isTaken_49 : decode cX10_isTaken 49 = .ok (.ifCond .gt 39, 3) := by decide +kernel
theorem dX10_isTaken_52 : decode cX10_isTaken 52 = .ok (.aload_n 0, 1) := by decide +kernel
theorem dX10_isTaken_53 : decode cX10_isTaken 53 = .ok (.iload_n 1, 1) := by decide +kernel
theorem dX10_isTaken_54 : decode cX10_isTaken 54 = .ok (.bipush 100, 2) := by decide +kernel
theorem dX10_isTaken_56 : decode cX10_isTaken 56 = .ok (.iload_n 3, 1) := by decide +kernel
theorem dX10_isTaken_57 : decode cX10_isTaken 57 = .ok (.iadd, 1) := by decide +kernel
theorem dX10_isTaken_58 : decode cX10_isTaken 58 = .ok (.invokevirtual 204, 3) := by decide +kernel
theorem dX10_isTaken_61 : decode cX10_isTaken 61 = .ok (.aload_n 0, 1) := by decide +kernel
theorem dX10_isTaken_62 : decode cX10_isTaken 62 = .ok (.getfield 54, 3) := by decide +kernel
theorem dX10_isTaken_65 : decode cX10_isTaken 65 = .ok (.iload_n 3, 1) := by decide +kernel
theorem dX10_isTaken_66 : decode cX10_isTaken 66 = .ok (.daload, 1) := by decide +kernel
theorem dX10_isTaken_67 : decode cX10_isTaken 67 = .ok (.dcmp .l, 1) := by decide +kernel
theorem dX10_isTaken_68 : decode cX10_isTaken 68 = .ok (.ifCond .lt 20, 3) := by decide +kernel
theorem dX10_isTaken_71 : decode cX10_isTaken 71 = .ok (.aload_n 0, 1) := by decide +kernel
theorem dX10_isTaken_72 : decode cX10_isTaken 72 = .ok (.getfield 84, 3) := by decide +kernel
theorem dX10_isTaken_75 : decode cX10_isTaken 75 = .ok (.iload_n 1, 1) := by decide +kernel
theorem dX10_isTaken_76 : decode cX10_isTaken 76 = .ok (.iconst 4, 1) := by decide +kernel
theorem dX10_isTaken_77 : decode cX10_isTaken 77 = .ok (.iastore, 1) := by decide +kernel
theorem dX10_isTaken_78 : decode cX10_isTaken 78 = .ok (.aload_n 0, 1) := by decide +kernel
theorem dX10_isTaken_79 : decode cX10_isTaken 79 = .ok (.iload_n 1, 1) := by decide +kernel
theorem dX10_isTaken_80 : decode cX10_isTaken 80 = .ok (.bipush 6, 2) := by decide +kernel
theorem dX10_isTaken_82 : decode cX10_isTaken 82 = .ok (.iload_n 3, 1) := by decide +kernel
theorem dX10_isTaken_83 : decode cX10_isTaken 83 = .ok (.invokevirtual 181, 3) := by decide +kernel
theorem dX10_isTaken_86 : decode cX10_isTaken 86 = .ok (.iconst 1, 1) := by decide +kernel
theorem dX10_isTaken_87 : decode cX10_isTaken 87 = .ok (.ireturn, 1) := by decide +kernel
theorem dX10_isTaken_88 : decode cX10_isTaken 88 = .ok (.iinc 3 1, 3) := by decide +kernel
theorem dX10_isTaken_91 : decode cX10_isTaken 91 = .ok (.goto (-82), 3) := by decide +kernel
theorem dX10_isTaken_94 : decode cX10_isTaken 94 = .ok (.iconst 0, 1) := by decide +kernel
theorem dX10_isTaken_95 : decode cX10_isTaken 95 = .ok (.istore_n 3, 1) := by decide +kernel
theorem dX10_isTaken_96 : decode cX10_isTaken 96 = .ok (.iload_n 3, 1) := by decide +kernel
theorem dX10_isTaken_97 : decode cX10_isTaken 97 = .ok (.aload_n 0, 1) := by decide +kernel
theorem dX10_isTaken_98 : decode cX10_isTaken 98 = .ok (.getfield 153, 3) := by decide +kernel
theorem dX10_isTaken_101 : decode cX10_isTaken 101 = .ok (.if_icmp .ge 108, 3) := by decide +kernel
theorem dX10_isTaken_104 : decode cX10_isTaken 104 = .ok (.aload_n 0, 1) := by decide +kernel
theorem dX10_isTaken_105 : decode cX10_isTaken 105 = .ok (.getfield 72, 3) := by decide +kernel
theorem dX10_isTaken_108 : decode cX10_isTaken 108 = .ok (.iload_n 1, 1) := by decide +kernel
theorem dX10_isTaken_109 : decode cX10_isTaken 109 = .ok (.iaload, 1) := by decide +kernel
theorem dX10_isTaken_110 : decode cX10_isTaken 110 = .ok (.ifCond .le 99, 3) := by decide +kernel
theorem dX10_isTaken_113 : decode cX10_isTaken 113 = .ok (.aload_n 0, 1) := by decide +kernel
theorem dX10_isTaken_114 : decode cX10_isTaken 114 = .ok (.getfield 57, 3) := by decide +kernel
theorem dX10_isTaken_117 : decode cX10_isTaken 117 = .ok (.iload_n 3, 1) := by decide +kernel
theorem dX10_isTaken_118 : decode cX10_isTaken 118 = .ok (.iaload, 1) := by decide +kernel
theorem dX10_isTaken_119 : decode cX10_isTaken 119 = .ok (.iload_n 2, 1) := by decide +kernel
theorem dX10_isTaken_120 : decode cX10_isTaken 120 = .ok (.if_icmp .ne 83, 3) := by decide +kernel
theorem dX10_isTaken_123 : decode cX10_isTaken 123 = .ok (.aload_n 0, 1) := by decide +kernel
theorem dX10_isTaken_124 : decode cX10_isTaken 124 = .ok (.getfield 165, 3) := by decide +kernel
theorem dX10_isTaken_127 : decode cX10_isTaken 127 = .ok (.aload_n 0, 1) := by decide +kernel
theorem dX10_isTaken_128 : decode cX10_isTaken 128 = .ok (.getfield 66, 3) := by decide +kernel
theorem dX10_isTaken_131 : decode cX10_isTaken 131 = .ok (.iload_n 3, 1) := by decide +kernel
theorem dX10_isTaken_132 : decode cX10_isTaken 132 = .ok (.iaload, 1) := by decide +kernel
theorem dX10_isTaken_133 : decode cX10_isTaken 133 = .ok (.if_icmp .lt 70, 3) := by decide +kernel
theorem dX10_isTaken_136 : decode cX10_isTaken 136 = .ok (.aload_n 0, 1) := by decide +kernel
theorem dX10_isTaken_137 : decode cX10_isTaken 137 = .ok (.getfield 66, 3) := by decide +kernel
theorem dX10_isTaken_140 : decode cX10_isTaken 140 = .ok (.iload_n 3, 1) := by decide +kernel
theorem dX10_isTaken_141 : decode cX10_isTaken 141 = .ok (.aload_n 0, 1) := by decide +kernel
theorem dX10_isTaken_142 : decode cX10_isTaken 142 = .ok (.getfield 165, 3) := by decide +kernel
theorem dX10_isTaken_145 : decode cX10_isTaken 145 = .ok (.iconst 1, 1) := by decide +kernel
theorem dX10_isTaken_146 : decode cX10_isTaken 146 = .ok (.iadd, 1) := by decide +kernel
theorem dX10_isTaken_147 : decode cX10_isTaken 147 = .ok (.ldc2_w 160, 3) := by decide +kernel
theorem dX10_isTaken_150 : decode cX10_isTaken 150 = .ok (.aload_n 0, 1) := by decide +kernel
theorem dX10_isTaken_151 : decode cX10_isTaken 151 = .ok (.getfield 60, 3) := by decide +kernel
theorem dX10_isTaken_154 : decode cX10_isTaken 154 = .ok (.iload_n 3, 1) := by decide +kernel
theorem dX10_isTaken_155 : decode cX10_isTaken 155 = .ok (.daload, 1) := by decide +kernel
theorem dX10_isTaken_156 : decode cX10_isTaken 156 = .ok (.ddiv, 1) := by decide +kernel
theorem dX10_isTaken_157 : decode cX10_isTaken 157 = .ok (.dconst 1, 1) := by decide +kernel
theorem dX10_isTaken_158 : decode cX10_isTaken 158 = .ok (.aload_n 0, 1) := by decide +kernel
theorem dX10_isTaken_159 : decode cX10_isTaken 159 = .ok (.getfield 63, 3) := by decide +kernel
theorem dX10_isTaken_162 : decode cX10_isTaken 162 = .ok (.iload_n 3, 1) := by decide +kernel
theorem dX10_isTaken_163 : decode cX10_isTaken 163 = .ok (.daload, 1) := by decide +kernel
theorem dX10_isTaken_164 : decode cX10_isTaken 164 = .ok (.aload_n 0, 1) := by decide +kernel
theorem dX10_isTaken_165 : decode cX10_isTaken 165 = .ok (.getfield 69, 3) := by decide +kernel
theorem dX10_isTaken_168 : decode cX10_isTaken 168 = .ok (.iload_n 3, 1) := by decide +kernel
theorem dX10_isTaken_169 : decode cX10_isTaken 169 = .ok (.iaload, 1) := by decide +kernel
theorem dX10_isTaken_170 : decode cX10_isTaken 170 = .ok (.i2d, 1) := by decide +kernel
theorem dX10_isTaken_171 : decode cX10_isTaken 171 = .ok (.dmul, 1) := by decide +kernel
theorem dX10_isTaken_172 : decode cX10_isTaken 172 = .ok (.dadd, 1) := by decide +kernel
theorem dX10_isTaken_173 : decode cX10_isTaken 173 = .ok (.dmul, 1) := by decide +kernel
theorem dX10_isTaken_174 : decode cX10_isTaken 174 = .ok (.d2i, 1) := by decide +kernel
theorem dX10_isTaken_175 : decode cX10_isTaken 175 = .ok (.iadd, 1) := by decide +kernel
theorem dX10_isTaken_176 : decode cX10_isTaken 176 = .ok (.iastore, 1) := by decide +kernel
theorem dX10_isTaken_177 : decode cX10_isTaken 177 = .ok (.aload_n 0, 1) := by decide +kernel
theorem dX10_isTaken_178 : decode cX10_isTaken 178 = .ok (.getfield 69, 3) := by decide +kernel
theorem dX10_isTaken_181 : decode cX10_isTaken 181 = .ok (.iload_n 3, 1) := by decide +kernel
theorem dX10_isTaken_182 : decode cX10_isTaken 182 = .ok (.dup2, 1) := by decide +kernel
theorem dX10_isTaken_183 : decode cX10_isTaken 183 = .ok (.iaload, 1) := by decide +kernel
theorem dX10_isTaken_184 : decode cX10_isTaken 184 = .ok (.iconst 1, 1) := by decide +kernel
theorem dX10_isTaken_185 : decode cX10_isTaken 185 = .ok (.iadd, 1) := by decide +kernel
theorem dX10_isTaken_186 : decode cX10_isTaken 186 = .ok (.iastore, 1) := by decide +kernel
theorem dX10_isTaken_187 : decode cX10_isTaken 187 = .ok (.aload_n 0, 1) := by decide +kernel
theorem dX10_isTaken_188 : decode cX10_isTaken 188 = .ok (.getfield 84, 3) := by decide +kernel
theorem dX10_isTaken_191 : decode cX10_isTaken 191 = .ok (.iload_n 1, 1) := by decide +kernel
theorem dX10_isTaken_192 : decode cX10_isTaken 192 = .ok (.iconst 4, 1) := by decide +kernel
theorem dX10_isTaken_193 : decode cX10_isTaken 193 = .ok (.iastore, 1) := by decide +kernel
theorem dX10_isTaken_194 : decode cX10_isTaken 194 = .ok (.aload_n 0, 1) := by decide +kernel
theorem dX10_isTaken_195 : decode cX10_isTaken 195 = .ok (.iload_n 1, 1) := by decide +kernel
theorem dX10_isTaken_196 : decode cX10_isTaken 196 = .ok (.iconst 5, 1) := by decide +kernel
theorem dX10_isTaken_197 : decode cX10_isTaken 197 = .ok (.iload_n 3, 1) := by decide +kernel
theorem dX10_isTaken_198 : decode cX10_isTaken 198 = .ok (.invokevirtual 181, 3) := by decide +kernel
theorem dX10_isTaken_201 : decode cX10_isTaken 201 = .ok (.iconst 1, 1) := by decide +kernel
theorem dX10_isTaken_202 : decode cX10_isTaken 202 = .ok (.ireturn, 1) := by decide +kernel
theorem dX10_isTaken_203 : decode cX10_isTaken 203 = .ok (.iinc 3 1, 3) := by decide +kernel
theorem dX10_isTaken_206 : decode cX10_isTaken 206 = .ok (.goto (-110), 3) := by decide +kernel
theorem dX10_isTaken_209 : decode cX10_isTaken 209 = .ok (.iconst 0, 1) := by decide +kernel
theorem dX10_isTaken_210 : decode cX10_isTaken 210 = .ok (.ireturn, 1) := by decide +kernel
theorem dX10_goOn_0 : decode cX10_goOn 0 = .ok (.aload_n 0, 1) := by decide +kernel
theorem dX10_goOn_1 : decode cX10_goOn 1 = .ok (.getfield 17, 3) := by decide +kernel
theorem dX10_goOn_4 : decode cX10_goOn 4 = .ok (.aload_n 0, 1) := by decide +kernel
theorem dX10_goOn_5 : decode cX10_goOn 5 = .ok (.getfield 87, 3) := by decide +kernel
theorem dX10_goOn_8 : decode cX10_goOn 8 = .ok (.iload_n 1, 1) := by decide +kernel
theorem dX10_goOn_9 : decode cX10_goOn 9 = .ok (.iaload, 1) := by decide +kernel
theorem dX10_goOn_10 : decode cX10_goOn 10 = .ok (.iaload, 1) := by decide +kernel
theorem dX10_goOn_11 : decode cX10_goOn 11 = .ok (.istore_n 2, 1) := by decide +kernel
theorem dX10_goOn_12 : decode cX10_goOn 12 = .ok (.iload_n 2, 1) := by decide +kernel
theorem dX10_goOn_13 : decode cX10_goOn 13 = .ok (.ifCond .lt 12, 3) := by decide +kernel
theorem dX10_goOn_16 : decode cX10_goOn 16 = .ok (.aload_n 0, 1) := by decide +kernel
theorem dX10_goOn_17 : decode cX10_goOn 17 = .ok (.iload_n 1, 1) := by decide +kernel
theorem dX10_goOn_18 : decode cX10_goOn 18 = .ok (.iload_n 2, 1) := by decide +kernel
theorem dX10_goOn_19 : decode cX10_goOn 19 = .ok (.invokevirtual 207, 3) := by decide +kernel
theorem dX10_goOn_22 : decode cX10_goOn 22 = .ok (.goto 86, 3) := by decide +kernel
theorem dX10_goOn_25 : decode cX10_goOn 25 = .ok (.iload_n 2, 1) := by decide +kernel
theorem dX10_goOn_26 : decode cX10_goOn 26 = .ok (.iconst (-1), 1) := by decide +kernel
theorem dX10_goOn_27 : decode cX10_goOn 27 = .ok (.if_icmp .ne 11, 3) := by decide +kernel
theorem dX10_goOn_30 : decode cX10_goOn 30 = .ok (.aload_n 0, 1) := by decide +kernel
theorem dX10_goOn_31 : decode cX10_goOn 31 = .ok (.iload_n 1, 1) := by decide +kernel
theorem dX10_goOn_32 : decode cX10_goOn 32 = .ok (.invokevirtual 211, 3) := by decide +kernel
theorem dX10_goOn_35 : decode cX10_goOn 35 = .ok (.goto 73, 3) := by decide +kernel
theorem dX10_goOn_38 : decode cX10_goOn 38 = .ok (.bipush (-2), 2) := by decide +kernel
theorem dX10_goOn_40 : decode cX10_goOn 40 = .ok (.iload_n 2, 1) := by decide +kernel
theorem dX10_goOn_41 : decode cX10_goOn 41 = .ok (.isub, 1) := by decide +kernel
theorem dX10_goOn_42 : decode cX10_goOn 42 = .ok (.istore_n 3, 1) := by decide +kernel
theorem dX10_goOn_43 : decode cX10_goOn 43 = .ok (.aload_n 0, 1) := by decide +kernel
theorem dX10_goOn_44 : decode cX10_goOn 44 = .ok (.getfield 45, 3) := by decide +kernel
theorem dX10_goOn_47 : decode cX10_goOn 47 = .ok (.iload_n 3, 1) := by decide +kernel
theorem dX10_goOn_48 : decode cX10_goOn 48 = .ok (.daload, 1) := by decide +kernel
theorem dX10_goOn_49 : decode cX10_goOn 49 = .ok (.aload_n 0, 1) := by decide +kernel
theorem dX10_goOn_50 : decode cX10_goOn 50 = .ok (.getfield 75, 3) := by decide +kernel
theorem dX10_goOn_53 : decode cX10_goOn 53 = .ok (.iload_n 1, 1) := by decide +kernel
theorem dX10_goOn_54 : decode cX10_goOn 54 = .ok (.daload, 1) := by decide +kernel
theorem dX10_goOn_55 : decode cX10_goOn 55 = .ok (.dadd, 1) := by decide +kernel
theorem dX10_goOn_56 : decode cX10_goOn 56 = .ok (.aload_n 0, 1) := by decide +kernel
theorem dX10_goOn_57 : decode cX10_goOn 57 = .ok (.getfield 42, 3) := by decide +kernel
theorem dX10_goOn_60 : decode cX10_goOn 60 = .ok (.iload_n 3, 1) := by decide +kernel
theorem dX10_goOn_61 : decode cX10_goOn 61 = .ok (.daload, 1) := by decide +kernel
theorem dX10_goOn_62 : decode cX10_goOn 62 = .ok (.dcmp .g, 1) := by decide +kernel
theorem dX10_goOn_63 : decode cX10_goOn 63 = .ok (.ifCond .gt 36, 3) := by decide +kernel
theorem dX10_goOn_66 : decode cX10_goOn 66 = .ok (.aload_n 0, 1) := by decide +kernel
theorem dX10_goOn_67 : decode cX10_goOn 67 = .ok (.getfield 45, 3) := by decide +kernel
theorem dX10_goOn_70 : decode cX10_goOn 70 = .ok (.iload_n 3, 1) := by decide +kernel
theorem dX10_goOn_71 : decode cX10_goOn 71 = .ok (.dup2, 1) := by decide +kernel
theorem dX10_goOn_72 : decode cX10_goOn 72 = .ok (.daload, 1) := by decide +kernel
theorem dX10_goOn_73 : decode cX10_goOn 73 = .ok (.aload_n 0, 1) := by decide +kernel
theorem dX10_goOn_74 : decode cX10_goOn 74 = .ok (.getfield 75, 3) := by decide +kernel
theorem dX10_goOn_77 : decode cX10_goOn 77 = .ok (.iload_n 1, 1) := by decide +kernel
theorem dX10_goOn_78 : decode cX10_goOn 78 = .ok (.daload, 1) := by decide +kernel
theorem dX10_goOn_79 : decode cX10_goOn 79 = .ok (.dadd, 1) := by decide +kernel
theorem dX10_goOn_80 : decode cX10_goOn 80 = .ok (.dastore, 1) := by decide +kernel
theorem dX10_goOn_81 : decode cX10_goOn 81 = .ok (.aload_n 0, 1) := by decide +kernel
theorem dX10_goOn_82 : decode cX10_goOn 82 = .ok (.getfield 84, 3) := by decide +kernel
theorem dX10_goOn_85 : decode cX10_goOn 85 = .ok (.iload_n 1, 1) := by decide +kernel
theorem dX10_goOn_86 : decode cX10_goOn 86 = .ok (.iconst 2, 1) := by decide +kernel
theorem dX10_goOn_87 : decode cX10_goOn 87 = .ok (.iastore, 1) := by decide +kernel
theorem dX10_goOn_88 : decode cX10_goOn 88 = .ok (.aload_n 0, 1) := by decide +kernel
theorem dX10_goOn_89 : decode cX10_goOn 89 = .ok (.iload_n 1, 1) := by decide +kernel
theorem dX10_goOn_90 : decode cX10_goOn 90 = .ok (.bipush 9, 2) := by decide +kernel
theorem dX10_goOn_92 : decode cX10_goOn 92 = .ok (.iload_n 3, 1) := by decide +kernel
theorem dX10_goOn_93 : decode cX10_goOn 93 = .ok (.invokevirtual 181, 3) := by decide +kernel
theorem dX10_goOn_96 : decode cX10_goOn 96 = .ok (.goto 12, 3) := by decide +kernel
theorem dX10_goOn_99 : decode cX10_goOn 99 = .ok (.aload_n 0, 1) := by decide +kernel
theorem dX10_goOn_100 : decode cX10_goOn 100 = .ok (.iload_n 1, 1) := by decide +kernel
theorem dX10_goOn_101 : decode cX10_goOn 101 = .ok (.iconst 2, 1) := by decide +kernel
theorem dX10_goOn_102 : decode cX10_goOn 102 = .ok (.bipush 8, 2) := by decide +kernel
theorem dX10_goOn_104 : decode cX10_goOn 104 = .ok (.iload_n 3, 1) := by decide +kernel
theorem dX10_goOn_105 : decode cX10_goOn 105 = .ok (.invokevirtual 185, 3) := by decide +kernel
theorem dX10_goOn_108 : decode cX10_goOn 108 = .ok (.return_, 1) := by decide +kernel
theorem dX10_goOut_0 : decode cX10_goOut 0 = .ok (.iconst 5, 1) := by decide +kernel
theorem dX10_goOut_1 : decode cX10_goOut 1 = .ok (.aload_n 0, 1) := by decide +kernel
theorem dX10_goOut_2 : decode cX10_goOut 2 = .ok (.getfield 87, 3) := by decide +kernel
theorem dX10_goOut_5 : decode cX10_goOut 5 = .ok (.iload_n 1, 1) := by decide +kernel
theorem dX10_goOut_6 : decode cX10_goOut 6 = .ok (.iaload, 1) := by decide +kernel
theorem dX10_goOut_7 : decode cX10_goOut 7 = .ok (.imul, 1) := by decide +kernel
theorem dX10_goOut_8 : decode cX10_goOut 8 = .ok (.aload_n 0, 1) := by decide +kernel
theorem dX10_goOut_9 : decode cX10_goOut 9 = .ok (.getfield 72, 3) := by decide +kernel
theorem dX10_goOut_12 : decode cX10_goOut 12 = .ok (.iload_n 1, 1) := by decide +kernel
theorem dX10_goOut_13 : decode cX10_goOut 13 = .ok (.iaload, 1) := by decide +kernel
theorem dX10_goOut_14 : decode cX10_goOut 14 = .ok (.iadd, 1) := by decide +kernel
theorem dX10_goOut_15 : decode cX10_goOut 15 = .ok (.istore_n 2, 1) := by decide +kernel
theorem dX10_goOut_16 : decode cX10_goOut 16 = .ok (.aload_n 0, 1) := by decide +kernel
theorem dX10_goOut_17 : decode cX10_goOut 17 = .ok (.getfield 106, 3) := by decide +kernel
theorem dX10_goOut_20 : decode cX10_goOut 20 = .ok (.iload_n 2, 1) := by decide +kernel
theorem dX10_goOut_21 : decode cX10_goOut 21 = .ok (.iaload, 1) := by decide +kernel
theorem dX10_goOut_22 : decode cX10_goOut 22 = .ok (.ifCond .le 87, 3) := by decide +kernel
theorem dX10_goOut_25 : decode cX10_goOut 25 = .ok (.aload_n 0, 1) := by decide +kernel
theorem dX10_goOut_26 : decode cX10_goOut 26 = .ok (.getfield 165, 3) := by decide +kernel
theorem dX10_goOut_29 : decode cX10_goOut 29 = .ok (.aload_n 0, 1) := by decide +kernel
theorem dX10_goOut_30 : decode cX10_goOut 30 = .ok (.getfield 109, 3) := by decide +kernel
theorem dX10_goOut_33 : decode cX10_goOut 33 = .ok (.iload_n 2, 1) := by decide +kernel
theorem dX10_goOut_34 : decode cX10_goOut 34 = .ok (.iaload, 1) := by decide +kernel
theorem dX10_goOut_35 : decode cX10_goOut 35 = .ok (.isub, 1) := by decide +kernel
theorem dX10_goOut_36 : decode cX10_goOut 36 = .ok (.istore_n 3, 1) := by decide +kernel
theorem dX10_goOut_37 : decode cX10_goOut 37 = .ok (.aload_n 0, 1) := by decide +kernel
theorem dX10_goOut_38 : decode cX10_goOut 38 = .ok (.getfield 112, 3) := by decide +kernel
theorem dX10_goOut_41 : decode cX10_goOut 41 = .ok (.iload_n 2, 1) := by decide +kernel
theorem dX10_goOut_42 : decode cX10_goOut 42 = .ok (.aload_n 0, 1) := by decide +kernel
theorem dX10_goOut_43 : decode cX10_goOut 43 = .ok (.getfield 106, 3) := by decide +kernel
theorem dX10_goOut_46 : decode cX10_goOut 46 = .ok (.iload_n 2, 1) := by decide +kernel
theorem dX10_goOut_47 : decode cX10_goOut 47 = .ok (.iaload, 1) := by decide +kernel
theorem dX10_goOut_48 : decode cX10_goOut 48 = .ok (.iconst 1, 1) := by decide +kernel
theorem dX10_goOut_49 : decode cX10_goOut 49 = .ok (.if_icmp .eq 13, 3) := by decide +kernel
theorem dX10_goOut_52 : decode cX10_goOut 52 = .ok (.iload_n 3, 1) := by decide +kernel
theorem dX10_goOut_53 : decode cX10_goOut 53 = .ok (.aload_n 0, 1) := by decide +kernel
theorem dX10_goOut_54 : decode cX10_goOut 54 = .ok (.getfield 112, 3) := by decide +kernel
theorem dX10_goOut_57 : decode cX10_goOut 57 = .ok (.iload_n 2, 1) := by decide +kernel
theorem dX10_goOut_58 : decode cX10_goOut 58 = .ok (.iaload, 1) := by decide +kernel
theorem dX10_goOut_59 : decode cX10_goOut 59 = .ok (.if_icmp .ge 7, 3) := by decide +kernel
theorem dX10_goOut_62 : decode cX10_goOut 62 = .ok (.iload_n 3, 1) := by decide +kernel
theorem dX10_goOut_63 : decode cX10_goOut 63 = .ok (.goto 9, 3) := by decide +kernel
theorem dX10_goOut_66 : decode cX10_goOut 66 = .ok (.aload_n 0, 1) := by decide +kernel
theorem dX10_goOut_67 : decode cX10_goOut 67 = .ok (.getfield 112, 3) := by decide +kernel
theorem dX10_goOut_70 : decode cX10_goOut 70 = .ok (.iload_n 2, 1) := by decide +kernel
theorem dX10_goOut_71 : decode cX10_goOut 71 = .ok (.iaload, 1) := by decide +kernel
theorem dX10_goOut_72 : decode cX10_goOut 72 = .ok (.iastore, 1) := by decide +kernel
theorem dX10_goOut_73 : decode cX10_goOut 73 = .ok (.aload_n 0, 1) := by decide +kernel
theorem dX10_goOut_74 : decode cX10_goOut 74 = .ok (.getfield 115, 3) := by decide +kernel
theorem dX10_goOut_77 : decode cX10_goOut 77 = .ok (.iload_n 2, 1) := by decide +kernel
theorem dX10_goOut_78 : decode cX10_goOut 78 = .ok (.aload_n 0, 1) := by decide +kernel
theorem dX10_goOut_79 : decode cX10_goOut 79 = .ok (.getfield 106, 3) := by decide +kernel
theorem dX10_goOut_82 : decode cX10_goOut 82 = .ok (.iload_n 2, 1) := by decide +kernel
theorem dX10_goOut_83 : decode cX10_goOut 83 = .ok (.iaload, 1) := by decide +kernel
theorem dX10_goOut_84 : decode cX10_goOut 84 = .ok (.iconst 1, 1) := by decide +kernel
theorem dX10_goOut_85 : decode cX10_goOut 85 = .ok (.if_icmp .eq 13, 3) := by decide +kernel
theorem dX10_goOut_88 : decode cX10_goOut 88 = .ok (.iload_n 3, 1) := by decide +kernel
theorem dX10_goOut_89 : decode cX10_goOut 89 = .ok (.aload_n 0, 1) := by decide +kernel
theorem dX10_goOut_90 : decode cX10_goOut 90 = .ok (.getfield 115, 3) := by decide +kernel
theorem dX10_goOut_93 : decode cX10_goOut 93 = .ok (.iload_n 2, 1) := by decide +kernel
theorem dX10_goOut_94 : decode cX10_goOut 94 = .ok (.iaload, 1) := by decide +kernel
theorem dX10_goOut_95 : decode cX10_goOut 95 = .ok (.if_icmp .le 7, 3) := by decide +kernel
theorem dX10_goOut_98 : decode cX10_goOut 98 = .ok (.iload_n 3, 1) := by decide +kernel
theorem dX10_goOut_99 : decode cX10_goOut 99 = .ok (.goto 9, 3) := by decide +kernel
theorem dX10_goOut_102 : decode cX10_goOut 102 = .ok (.aload_n 0, 1) := by decide +kernel
theorem dX10_goOut_103 : decode cX10_goOut 103 = .ok (.getfield 115, 3) := by decide +kernel
theorem dX10_goOut_106 : decode cX10_goOut 106 = .ok (.iload_n 2, 1) := by decide +kernel
theorem dX10_goOut_107 : decode cX10_goOut 107 = .ok (.iaload, 1) := by decide +kernel
theorem dX10_goOut_108 : decode cX10_goOut 108 = .ok (.iastore, 1) := by decide +kernel
theorem dX10_goOut_109 : decode cX10_goOut 109 = .ok (.aload_n 0, 1) := by decide +kernel
theorem dX10_goOut_110 : decode cX10_goOut 110 = .ok (.getfield 106, 3) := by decide +kernel
theorem dX10_goOut_113 : decode cX10_goOut 113 = .ok (.iload_n 2, 1) := by decide +kernel
theorem dX10_goOut_114 : decode cX10_goOut 114 = .ok (.dup2, 1) := by decide +kernel
theorem dX10_goOut_115 : decode cX10_goOut 115 = .ok (.iaload, 1) := by decide +kernel
theorem dX10_goOut_116 : decode cX10_goOut 116 = .ok (.iconst 1, 1) := by decide +kernel
theorem dX10_goOut_117 : decode cX10_goOut 117 = .ok (.iadd, 1) := by decide +kernel
theorem dX10_goOut_118 : decode cX10_goOut 118 = .ok (.iastore, 1) := by decide +kernel
theorem dX10_goOut_119 : decode cX10_goOut 119 = .ok (.aload_n 0, 1) := by decide +kernel
theorem dX10_goOut_120 : decode cX10_goOut 120 = .ok (.getfield 109, 3) := by decide +kernel
theorem dX10_goOut_123 : decode cX10_goOut 123 = .ok (.iload_n 2, 1) := by decide +kernel
theorem dX10_goOut_124 : decode cX10_goOut 124 = .ok (.aload_n 0, 1) := by decide +kernel
theorem dX10_goOut_125 : decode cX10_goOut 125 = .ok (.getfield 165, 3) := by decide +kernel
theorem dX10_goOut_128 : decode cX10_goOut 128 = .ok (.iastore, 1) := by decide +kernel
theorem dX10_goOut_129 : decode cX10_goOut 129 = .ok (.aload_n 0, 1) := by decide +kernel
theorem dX10_goOut_130 : decode cX10_goOut 130 = .ok (.getfield 84, 3) := by decide +kernel
theorem dX10_goOut_133 : decode cX10_goOut 133 = .ok (.iload_n 1, 1) := by decide +kernel
theorem dX10_goOut_134 : decode cX10_goOut 134 = .ok (.iconst 3, 1) := by decide +kernel
theorem dX10_goOut_135 : decode cX10_goOut 135 = .ok (.iastore, 1) := by decide +kernel
theorem dX10_goOut_136 : decode cX10_goOut 136 = .ok (.aload_n 0, 1) := by decide +kernel
theorem dX10_goOut_137 : decode cX10_goOut 137 = .ok (.iload_n 1, 1) := by decide +kernel
theorem dX10_goOut_138 : decode cX10_goOut 138 = .ok (.iconst 4, 1) := by decide +kernel
theorem dX10_goOut_139 : decode cX10_goOut 139 = .ok (.aload_n 0, 1) := by decide +kernel
theorem dX10_goOut_140 : decode cX10_goOut 140 = .ok (.getfield 87, 3) := by decide +kernel
theorem dX10_goOut_143 : decode cX10_goOut 143 = .ok (.iload_n 1, 1) := by decide +kernel
theorem dX10_goOut_144 : decode cX10_goOut 144 = .ok (.iaload, 1) := by decide +kernel
theorem dX10_goOut_145 : decode cX10_goOut 145 = .ok (.invokevirtual 181, 3) := by decide +kernel
theorem dX10_goOut_148 : decode cX10_goOut 148 = .ok (.return_, 1) := by decide +kernel
theorem dX10_tenth_0 : decode cX10_tenth 0 = .ok (.aload_n 0, 1) := by decide +kernel
theorem dX10_tenth_1 : decode cX10_tenth 1 = .ok (.dup, 1) := by decide +kernel
theorem dX10_tenth_2 : decode cX10_tenth 2 = .ok (.getfield 165, 3) := by decide +kernel
theorem dX10_tenth_5 : decode cX10_tenth 5 = .ok (.iconst 1, 1) := by decide +kernel
theorem dX10_tenth_6 : decode cX10_tenth 6 = .ok (.iadd, 1) := by decide +kernel
theorem dX10_tenth_7 : decode cX10_tenth 7 = .ok (.putfield 165, 3) := by decide +kernel
theorem dX10_tenth_10 : decode cX10_tenth 10 = .ok (.iconst 0, 1) := by decide +kernel
theorem dX10_tenth_11 : decode cX10_tenth 11 = .ok (.istore_n 1, 1) := by decide +kernel
theorem dX10_tenth_12 : decode cX10_tenth 12 = .ok (.iload_n 1, 1) := by decide +kernel
theorem dX10_tenth_13 : decode cX10_tenth 13 = .ok (.aload_n 0, 1) := by decide +kernel
theorem dX10_tenth_14 : decode cX10_tenth 14 = .ok (.getfield 126, 3) := by decide +kernel
theorem dX10_tenth_17 : decode cX10_tenth 17 = .ok (.if_icmp .ge 71, 3) := by decide +kernel
theorem dX10_tenth_20 : decode cX10_tenth 20 = .ok (.aload_n 0, 1) := by decide +kernel
theorem dX10_tenth_21 : decode cX10_tenth 21 = .ok (.getfield 93, 3) := by decide +kernel
theorem dX10_tenth_24 : decode cX10_tenth 24 = .ok (.iload_n 1, 1) := by decide +kernel
theorem dX10_tenth_25 : decode cX10_tenth 25 = .ok (.aload_n 0, 1) := by decide +kernel
theorem dX10_tenth_26 : decode cX10_tenth 26 = .ok (.getfield 84, 3) := by decide +kernel
theorem dX10_tenth_29 : decode cX10_tenth 29 = .ok (.iload_n 1, 1) := by decide +kernel
theorem dX10_tenth_30 : decode cX10_tenth 30 = .ok (.iaload, 1) := by decide +kernel
theorem dX10_tenth_31 : decode cX10_tenth 31 = .ok (.iconst 1, 1) := by decide +kernel
theorem dX10_tenth_32 : decode cX10_tenth 32 = .ok (.if_icmp .ne 25, 3) := by decide +kernel
theorem dX10_tenth_35 : decode cX10_tenth 35 = .ok (.aload_n 0, 1) := by decide +kernel
theorem dX10_tenth_36 : decode cX10_tenth 36 = .ok (.getfield 165, 3) := by decide +kernel
theorem dX10_tenth_39 : decode cX10_tenth 39 = .ok (.aload_n 0, 1) := by decide +kernel
theorem dX10_tenth_40 : decode cX10_tenth 40 = .ok (.getfield 30, 3) := by decide +kernel
theorem dX10_tenth_43 : decode cX10_tenth 43 = .ok (.aload_n 0, 1) := by decide +kernel
theorem dX10_tenth_44 : decode cX10_tenth 44 = .ok (.getfield 87, 3) := by decide +kernel
theorem dX10_tenth_47 : decode cX10_tenth 47 = .ok (.iload_n 1, 1) := by decide +kernel
theorem dX10_tenth_48 : decode cX10_tenth 48 = .ok (.iaload, 1) := by decide +kernel
theorem dX10_tenth_49 : decode cX10_tenth 49 = .ok (.iaload, 1) := by decide +kernel
theorem dX10_tenth_50 : decode cX10_tenth 50 = .ok (.if_icmp .le 7, 3) := by decide +kernel
theorem dX10_tenth_53 : decode cX10_tenth 53 = .ok (.iconst 1, 1) := by decide +kernel
theorem dX10_tenth_54 : decode cX10_tenth 54 = .ok (.goto 4, 3) := by decide +kernel
theorem dX10_tenth_57 : decode cX10_tenth 57 = .ok (.iconst 0, 1) := by decide +kernel
theorem dX10_tenth_58 : decode cX10_tenth 58 = .ok (.bastore, 1) := by decide +kernel
theorem dX10_tenth_59 : decode cX10_tenth 59 = .ok (.aload_n 0, 1) := by decide +kernel
theorem dX10_tenth_60 : decode cX10_tenth 60 = .ok (.getfield 90, 3) := by decide +kernel
theorem dX10_tenth_63 : decode cX10_tenth 63 = .ok (.iload_n 1, 1) := by decide +kernel
theorem dX10_tenth_64 : decode cX10_tenth 64 = .ok (.dup2, 1) := by decide +kernel
theorem dX10_tenth_65 : decode cX10_tenth 65 = .ok (.iaload, 1) := by decide +kernel
theorem dX10_tenth_66 : decode cX10_tenth 66 = .ok (.aload_n 0, 1) := by decide +kernel
theorem dX10_tenth_67 : decode cX10_tenth 67 = .ok (.getfield 93, 3) := by decide +kernel
theorem dX10_tenth_70 : decode cX10_tenth 70 = .ok (.iload_n 1, 1) := by decide +kernel
theorem dX10_tenth_71 : decode cX10_tenth 71 = .ok (.baload, 1) := by decide +kernel
theorem dX10_tenth_72 : decode cX10_tenth 72 = .ok (.ifCond .eq 7, 3) := by decide +kernel
theorem dX10_tenth_75 : decode cX10_tenth 75 = .ok (.iconst 1, 1) := by decide +kernel
theorem dX10_tenth_76 : decode cX10_tenth 76 = .ok (.goto 4, 3) := by decide +kernel
theorem dX10_tenth_79 : decode cX10_tenth 79 = .ok (.iconst 0, 1) := by decide +kernel
theorem dX10_tenth_80 : decode cX10_tenth 80 = .ok (.iadd, 1) := by decide +kernel
theorem dX10_tenth_81 : decode cX10_tenth 81 = .ok (.iastore, 1) := by decide +kernel
theorem dX10_tenth_82 : decode cX10_tenth 82 = .ok (.iinc 1 1, 3) := by decide +kernel
theorem dX10_tenth_85 : decode cX10_tenth 85 = .ok (.goto (-73), 3) := by decide +kernel
theorem dX10_tenth_88 : decode cX10_tenth 88 = .ok (.iconst 0, 1) := by decide +kernel
theorem dX10_tenth_89 : decode cX10_tenth 89 = .ok (.istore_n 1, 1) := by decide +kernel
theorem dX10_tenth_90 : decode cX10_tenth 90 = .ok (.iload_n 1, 1) := by decide +kernel
theorem dX10_tenth_91 : decode cX10_tenth 91 = .ok (.aload_n 0, 1) := by decide +kernel
theorem dX10_tenth_92 : decode cX10_tenth 92 = .ok (.getfield 126, 3) := by decide +kernel
theorem dX10_tenth_95 : decode cX10_tenth 95 = .ok (.if_icmp .ge 92, 3) := by decide +kernel
theorem dX10_tenth_98 : decode cX10_tenth 98 = .ok (.aload_n 0, 1) := by decide +kernel
theorem dX10_tenth_99 : decode cX10_tenth 99 = .ok (.getfield 84, 3) := by decide +kernel
theorem dX10_tenth_102 : decode cX10_tenth 102 = .ok (.iload_n 1, 1) := by decide +kernel
theorem dX10_tenth_103 : decode cX10_tenth 103 = .ok (.iaload, 1) := by decide +kernel
theorem dX10_tenth_104 : decode cX10_tenth 104 = .ok (.ifCond .ne 30, 3) := by decide +kernel
theorem dX10_tenth_107 : decode cX10_tenth 107 = .ok (.aload_n 0, 1) := by decide +kernel
theorem dX10_tenth_108 : decode cX10_tenth 108 = .ok (.getfield 78, 3) := by decide +kernel
theorem dX10_tenth_111 : decode cX10_tenth 111 = .ok (.iload_n 1, 1) := by decide +kernel
theorem dX10_tenth_112 : decode cX10_tenth 112 = .ok (.iaload, 1) := by decide +kernel
theorem dX10_tenth_113 : decode cX10_tenth 113 = .ok (.aload_n 0, 1) := by decide +kernel
theorem dX10_tenth_114 : decode cX10_tenth 114 = .ok (.getfield 165, 3) := by decide +kernel
theorem dX10_tenth_117 : decode cX10_tenth 117 = .ok (.if_icmp .ne 17, 3) := by decide +kernel
theorem dX10_tenth_120 : decode cX10_tenth 120 = .ok (.aload_n 0, 1) := by decide +kernel
theorem dX10_tenth_121 : decode cX10_tenth 121 = .ok (.iload_n 1, 1) := by decide +kernel
theorem dX10_tenth_122 : decode cX10_tenth 122 = .ok (.aload_n 0, 1) := by decide +kernel
theorem dX10_tenth_123 : decode cX10_tenth 123 = .ok (.getfield 81, 3) := by decide +kernel
theorem dX10_tenth_126 : decode cX10_tenth 126 = .ok (.iload_n 1, 1) := by decide +kernel
theorem dX10_tenth_127 : decode cX10_tenth 127 = .ok (.iaload, 1) := by decide +kernel
theorem dX10_tenth_128 : decode cX10_tenth 128 = .ok (.invokevirtual 207, 3) := by decide +kernel
theorem dX10_tenth_131 : decode cX10_tenth 131 = .ok (.goto 50, 3) := by decide +kernel
theorem dX10_tenth_134 : decode cX10_tenth 134 = .ok (.aload_n 0, 1) := by decide +kernel
theorem dX10_tenth_135 : decode cX10_tenth 135 = .ok (.getfield 93, 3) := by decide +kernel
theorem dX10_tenth_138 : decode cX10_tenth 138 = .ok (.iload_n 1, 1) := by decide +kernel
theorem dX10_tenth_139 : decode cX10_tenth 139 = .ok (.baload, 1) := by decide +kernel
theorem dX10_tenth_140 : decode cX10_tenth 140 = .ok (.ifCond .eq 41, 3) := by decide +kernel
theorem dX10_tenth_143 : decode cX10_tenth 143 = .ok (.aload_n 0, 1) := by decide +kernel
theorem dX10_tenth_144 : decode cX10_tenth 144 = .ok (.iload_n 1, 1) := by decide +kernel
theorem dX10_tenth_145 : decode cX10_tenth 145 = .ok (.invokevirtual 200, 3) := by decide +kernel
theorem dX10_tenth_148 : decode cX10_tenth 148 = .ok (.aload_n 0, 1) := by decide +kernel
theorem dX10_tenth_149 : decode cX10_tenth 149 = .ok (.getfield 90, 3) := by decide +kernel
theorem dX10_tenth_152 : decode cX10_tenth 152 = .ok (.iload_n 1, 1) := by decide +kernel
theorem dX10_tenth_153 : decode cX10_tenth 153 = .ok (.iaload, 1) := by decide +kernel
theorem dX10_tenth_154 : decode cX10_tenth 154 = .ok (.aload_n 0, 1) := by decide +kernel
theorem dX10_tenth_155 : decode cX10_tenth 155 = .ok (.getfield 7, 3) := by decide +kernel
theorem dX10_tenth_158 : decode cX10_tenth 158 = .ok (.aload_n 0, 1) := by decide +kernel
theorem dX10_tenth_159 : decode cX10_tenth 159 = .ok (.getfield 87, 3) := by decide +kernel
theorem dX10_tenth_162 : decode cX10_tenth 162 = .ok (.iload_n 1, 1) := by decide +kernel
theorem dX10_tenth_163 : decode cX10_tenth 163 = .ok (.iaload, 1) := by decide +kernel
theorem dX10_tenth_164 : decode cX10_tenth 164 = .ok (.iaload, 1) := by decide +kernel
theorem dX10_tenth_165 : decode cX10_tenth 165 = .ok (.if_icmp .ne 16, 3) := by decide +kernel
theorem dX10_tenth_168 : decode cX10_tenth 168 = .ok (.aload_n 0, 1) := by decide +kernel
theorem dX10_tenth_169 : decode cX10_tenth 169 = .ok (.iload_n 1, 1) := by decide +kernel
theorem dX10_tenth_170 : decode cX10_tenth 170 = .ok (.invokevirtual 214, 3) := by decide +kernel
theorem dX10_tenth_173 : decode cX10_tenth 173 = .ok (.ifCond .ne 8, 3) := by decide +kernel
theorem dX10_tenth_176 : decode cX10_tenth 176 = .ok (.aload_n 0, 1) := by decide +kernel
theorem dX10_tenth_177 : decode cX10_tenth 177 = .ok (.iload_n 1, 1) := by decide +kernel
theorem dX10_tenth_178 : decode cX10_tenth 178 = .ok (.invokevirtual 217, 3) := by decide +kernel
theorem dX10_tenth_181 : decode cX10_tenth 181 = .ok (.iinc 1 1, 3) := by decide +kernel
theorem dX10_tenth_184 : decode cX10_tenth 184 = .ok (.goto (-94), 3) := by decide +kernel
theorem dX10_tenth_187 : decode cX10_tenth 187 = .ok (.return_, 1) := by decide +kernel
theorem dX10_run_0 : decode cX10_run 0 = .ok (.iload_n 1, 1) := by decide +kernel
theorem dX10_run_1 : decode cX10_run 1 = .ok (.aload_n 0, 1) := by decide +kernel
theorem dX10_run_2 : decode cX10_run 2 = .ok (.getfield 165, 3) := by decide +kernel
theorem dX10_run_5 : decode cX10_run 5 = .ok (.if_icmp .lt 10, 3) := by decide +kernel
theorem dX10_run_8 : decode cX10_run 8 = .ok (.iload_n 1, 1) := by decide +kernel
theorem dX10_run_9 : decode cX10_run 9 = .ok (.sipush 10000, 3) := by decide +kernel
theorem dX10_run_12 : decode cX10_run 12 = .ok (.if_icmp .le 5, 3) := by decide +kernel
theorem dX10_run_15 : decode cX10_run 15 = .ok (.iconst (-1), 1) := by decide +kernel
theorem dX10_run_16 : decode cX10_run 16 = .ok (.ireturn, 1) := by decide +kernel
theorem dX10_run_17 : decode cX10_run 17 = .ok (.aload_n 0, 1) := by decide +kernel
theorem dX10_run_18 : decode cX10_run 18 = .ok (.getfield 165, 3) := by decide +kernel
theorem dX10_run_21 : decode cX10_run 21 = .ok (.iload_n 1, 1) := by decide +kernel
theorem dX10_run_22 : decode cX10_run 22 = .ok (.if_icmp .ge 10, 3) := by decide +kernel
theorem dX10_run_25 : decode cX10_run 25 = .ok (.aload_n 0, 1) := by decide +kernel
theorem dX10_run_26 : decode cX10_run 26 = .ok (.invokevirtual 220, 3) := by decide +kernel
theorem dX10_run_29 : decode cX10_run 29 = .ok (.goto (-12), 3) := by decide +kernel
theorem dX10_run_32 : decode cX10_run 32 = .ok (.aload_n 0, 1) := by decide +kernel
theorem dX10_run_33 : decode cX10_run 33 = .ok (.getfield 178, 3) := by decide +kernel
theorem dX10_run_36 : decode cX10_run 36 = .ok (.ireturn, 1) := by decide +kernel
theorem dX10_event_0 : decode cX10_event 0 = .ok (.iload_n 1, 1) := by decide +kernel
theorem dX10_event_1 : decode cX10_event 1 = .ok (.ifCond .lt 40, 3) := by decide +kernel
theorem dX10_event_4 : decode cX10_event 4 = .ok (.iload_n 1, 1) := by decide +kernel
theorem dX10_event_5 : decode cX10_event 5 = .ok (.aload_n 0, 1) := by decide +kernel
theorem dX10_event_6 : decode cX10_event 6 = .ok (.getfield 178, 3) := by decide +kernel
theorem dX10_event_9 : decode cX10_event 9 = .ok (.if_icmp .ge 32, 3) := by decide +kernel
theorem dX10_event_12 : decode cX10_event 12 = .ok (.iload_n 1, 1) := by decide +kernel
theorem dX10_event_13 : decode cX10_event 13 = .ok (.sipush 2000, 3) := by decide +kernel
theorem dX10_event_16 : decode cX10_event 16 = .ok (.if_icmp .ge 25, 3) := by decide +kernel
theorem dX10_event_19 : decode cX10_event 19 = .ok (.iload_n 2, 1) := by decide +kernel
theorem dX10_event_20 : decode cX10_event 20 = .ok (.ifCond .lt 21, 3) := by decide +kernel
theorem dX10_event_23 : decode cX10_event 23 = .ok (.iload_n 2, 1) := by decide +kernel
theorem dX10_event_24 : decode cX10_event 24 = .ok (.iconst 4, 1) := by decide +kernel
theorem dX10_event_25 : decode cX10_event 25 = .ok (.if_icmp .ge 16, 3) := by decide +kernel
theorem dX10_event_28 : decode cX10_event 28 = .ok (.aload_n 0, 1) := by decide +kernel
theorem dX10_event_29 : decode cX10_event 29 = .ok (.getfield 96, 3) := by decide +kernel
theorem dX10_event_32 : decode cX10_event 32 = .ok (.iconst 4, 1) := by decide +kernel
theorem dX10_event_33 : decode cX10_event 33 = .ok (.iload_n 1, 1) := by decide +kernel
theorem dX10_event_34 : decode cX10_event 34 = .ok (.imul, 1) := by decide +kernel
theorem dX10_event_35 : decode cX10_event 35 = .ok (.iload_n 2, 1) := by decide +kernel
theorem dX10_event_36 : decode cX10_event 36 = .ok (.iadd, 1) := by decide +kernel
theorem dX10_event_37 : decode cX10_event 37 = .ok (.iaload, 1) := by decide +kernel
theorem dX10_event_38 : decode cX10_event 38 = .ok (.goto 4, 3) := by decide +kernel
theorem dX10_event_41 : decode cX10_event 41 = .ok (.iconst (-1), 1) := by decide +kernel
theorem dX10_event_42 : decode cX10_event 42 = .ok (.ireturn, 1) := by decide +kernel
theorem dX10_isKind_0 : decode cX10_isKind 0 = .ok (.aload_n 0, 1) := by decide +kernel
theorem dX10_isKind_1 : decode cX10_isKind 1 = .ok (.iload_n 1, 1) := by decide +kernel
theorem dX10_isKind_2 : decode cX10_isKind 2 = .ok (.invokevirtual 144, 3) := by decide +kernel
theorem dX10_isKind_5 : decode cX10_isKind 5 = .ok (.ifCond .eq 16, 3) := by decide +kernel
theorem dX10_isKind_8 : decode cX10_isKind 8 = .ok (.iload_n 2, 1) := by decide +kernel
theorem dX10_isKind_9 : decode cX10_isKind 9 = .ok (.ifCond .lt 12, 3) := by decide +kernel
theorem dX10_isKind_12 : decode cX10_isKind 12 = .ok (.iload_n 2, 1) := by decide +kernel
theorem dX10_isKind_13 : decode cX10_isKind 13 = .ok (.iconst 5, 1) := by decide +kernel
theorem dX10_isKind_14 : decode cX10_isKind 14 = .ok (.if_icmp .ge 7, 3) := by decide +kernel
theorem dX10_isKind_17 : decode cX10_isKind 17 = .ok (.iconst 1, 1) := by decide +kernel
theorem dX10_isKind_18 : decode cX10_isKind 18 = .ok (.goto 4, 3) := by decide +kernel
theorem dX10_isKind_21 : decode cX10_isKind 21 = .ok (.iconst 0, 1) := by decide +kernel
theorem dX10_isKind_22 : decode cX10_isKind 22 = .ok (.ireturn, 1) := by decide +kernel
theorem dX10_out_0 : decode cX10_out 0 = .ok (.aload_n 0, 1) := by decide +kernel
theorem dX10_out_1 : decode cX10_out 1 = .ok (.iload_n 1, 1) := by decide +kernel
theorem dX10_out_2 : decode cX10_out 2 = .ok (.iload_n 2, 1) := by decide +kernel
theorem dX10_out_3 : decode cX10_out 3 = .ok (.invokevirtual 223, 3) := by decide +kernel
theorem dX10_out_6 : decode cX10_out 6 = .ok (.ifCond .eq 17, 3) := by decide +kernel
theorem dX10_out_9 : decode cX10_out 9 = .ok (.aload_n 0, 1) := by decide +kernel
theorem dX10_out_10 : decode cX10_out 10 = .ok (.getfield 106, 3) := by decide +kernel
theorem dX10_out_13 : decode cX10_out 13 = .ok (.iconst 5, 1) := by decide +kernel
theorem dX10_out_14 : decode cX10_out 14 = .ok (.iload_n 1, 1) := by decide +kernel
theorem dX10_out_15 : decode cX10_out 15 = .ok (.imul, 1) := by decide +kernel
theorem dX10_out_16 : decode cX10_out 16 = .ok (.iload_n 2, 1) := by decide +kernel
theorem dX10_out_17 : decode cX10_out 17 = .ok (.iadd, 1) := by decide +kernel
theorem dX10_out_18 : decode cX10_out 18 = .ok (.iaload, 1) := by decide +kernel
theorem dX10_out_19 : decode cX10_out 19 = .ok (.i2l, 1) := by decide +kernel
theorem dX10_out_20 : decode cX10_out 20 = .ok (.goto 6, 3) := by decide +kernel
theorem dX10_out_23 : decode cX10_out 23 = .ok (.ldc2_w 227, 3) := by decide +kernel
theorem dX10_out_26 : decode cX10_out 26 = .ok (.lreturn, 1) := by decide +kernel
theorem dX10_count_0 : decode cX10_count 0 = .ok (.iconst 0, 1) := by decide +kernel
theorem dX10_count_1 : decode cX10_count 1 = .ok (.istore_n 2, 1) := by decide +kernel
theorem dX10_count_2 : decode cX10_count 2 = .ok (.iconst 0, 1) := by decide +kernel
theorem dX10_count_3 : decode cX10_count 3 = .ok (.istore_n 3, 1) := by decide +kernel
theorem dX10_count_4 : decode cX10_count 4 = .ok (.iload_n 3, 1) := by decide +kernel
theorem dX10_count_5 : decode cX10_count 5 = .ok (.aload_n 0, 1) := by decide +kernel
theorem dX10_count_6 : decode cX10_count 6 = .ok (.getfield 126, 3) := by decide +kernel
theorem dX10_count_9 : decode cX10_count 9 = .ok (.if_icmp .ge 27, 3) := by decide +kernel
theorem dX10_count_12 : decode cX10_count 12 = .ok (.iload_n 2, 1) := by decide +kernel
theorem dX10_count_13 : decode cX10_count 13 = .ok (.aload_n 0, 1) := by decide +kernel
theorem dX10_count_14 : decode cX10_count 14 = .ok (.getfield 84, 3) := by decide +kernel
theorem dX10_count_17 : decode cX10_count 17 = .ok (.iload_n 3, 1) := by decide +kernel
theorem dX10_count_18 : decode cX10_count 18 = .ok (.iaload, 1) := by decide +kernel
theorem dX10_count_19 : decode cX10_count 19 = .ok (.iload_n 1, 1) := by decide +kernel
theorem dX10_count_20 : decode cX10_count 20 = .ok (.if_icmp .ne 7, 3) := by decide +kernel
theorem dX10_count_23 : decode cX10_count 23 = .ok (.iconst 1, 1) := by decide +kernel
theorem dX10_count_24 : decode cX10_count 24 = .ok (.goto 4, 3) := by decide +kernel
theorem dX10_count_27 : decode cX10_count 27 = .ok (.iconst 0, 1) := by decide +kernel
theorem dX10_count_28 : decode cX10_count 28 = .ok (.iadd, 1) := by decide +kernel
theorem dX10_count_29 : decode cX10_count 29 = .ok (.istore_n 2, 1) := by decide +kernel
theorem dX10_count_30 : decode cX10_count 30 = .ok (.iinc 3 1, 3) := by decide +kernel
theorem dX10_count_33 : decode cX10_count 33 = .ok (.goto (-29), 3) := by decide +kernel
theorem dX10_count_36 : decode cX10_count 36 = .ok (.iload_n 2, 1) := by decide +kernel
theorem dX10_count_37 : decode cX10_count 37 = .ok (.ireturn, 1) := by decide +kernel
theorem dX10_inside_0 : decode cX10_inside 0 = .ok (.aload_n 0, 1) := by decide +kernel
theorem dX10_inside_1 : decode cX10_inside 1 = .ok (.iconst 1, 1) := by decide +kernel
theorem dX10_inside_2 : decode cX10_inside 2 = .ok (.invokevirtual 229, 3) := by decide +kernel
theorem dX10_inside_5 : decode cX10_inside 5 = .ok (.aload_n 0, 1) := by decide +kernel
theorem dX10_inside_6 : decode cX10_inside 6 = .ok (.iconst 2, 1) := by decide +kernel
theorem dX10_inside_7 : decode cX10_inside 7 = .ok (.invokevirtual 229, 3) := by decide +kernel
theorem dX10_inside_10 : decode cX10_inside 10 = .ok (.iadd, 1) := by decide +kernel
theorem dX10_inside_11 : decode cX10_inside 11 = .ok (.i2l, 1) := by decide +kernel
theorem dX10_inside_12 : decode cX10_inside 12 = .ok (.lreturn, 1) := by decide +kernel
theorem dX10_jam_0 : decode cX10_jam 0 = .ok (.iload_n 1, 1) := by decide +kernel
theorem dX10_jam_1 : decode cX10_jam 1 = .ok (.ifCond .lt 33, 3) := by decide +kernel
theorem dX10_jam_4 : decode cX10_jam 4 = .ok (.iload_n 1, 1) := by decide +kernel
theorem dX10_jam_5 : decode cX10_jam 5 = .ok (.aload_n 0, 1) := by decide +kernel
theorem dX10_jam_6 : decode cX10_jam 6 = .ok (.getfield 193, 3) := by decide +kernel
theorem dX10_jam_9 : decode cX10_jam 9 = .ok (.if_icmp .ge 25, 3) := by decide +kernel
theorem dX10_jam_12 : decode cX10_jam 12 = .ok (.iload_n 2, 1) := by decide +kernel
theorem dX10_jam_13 : decode cX10_jam 13 = .ok (.ifCond .lt 21, 3) := by decide +kernel
theorem dX10_jam_16 : decode cX10_jam 16 = .ok (.iload_n 2, 1) := by decide +kernel
theorem dX10_jam_17 : decode cX10_jam 17 = .ok (.iconst 4, 1) := by decide +kernel
theorem dX10_jam_18 : decode cX10_jam 18 = .ok (.if_icmp .ge 16, 3) := by decide +kernel
theorem dX10_jam_21 : decode cX10_jam 21 = .ok (.aload_n 0, 1) := by decide +kernel
theorem dX10_jam_22 : decode cX10_jam 22 = .ok (.getfield 99, 3) := by decide +kernel
theorem dX10_jam_25 : decode cX10_jam 25 = .ok (.iconst 4, 1) := by decide +kernel
theorem dX10_jam_26 : decode cX10_jam 26 = .ok (.iload_n 1, 1) := by decide +kernel
theorem dX10_jam_27 : decode cX10_jam 27 = .ok (.imul, 1) := by decide +kernel
theorem dX10_jam_28 : decode cX10_jam 28 = .ok (.iload_n 2, 1) := by decide +kernel
theorem dX10_jam_29 : decode cX10_jam 29 = .ok (.iadd, 1) := by decide +kernel
theorem dX10_jam_30 : decode cX10_jam 30 = .ok (.iaload, 1) := by decide +kernel
theorem dX10_jam_31 : decode cX10_jam 31 = .ok (.goto 4, 3) := by decide +kernel
theorem dX10_jam_34 : decode cX10_jam 34 = .ok (.iconst (-1), 1) := by decide +kernel
theorem dX10_jam_35 : decode cX10_jam 35 = .ok (.ireturn, 1) := by decide +kernel
theorem dX10_lost_0 : decode cX10_lost 0 = .ok (.iload_n 1, 1) := by decide +kernel
theorem dX10_lost_1 : decode cX10_lost 1 = .ok (.ifCond .lt 17, 3) := by decide +kernel
theorem dX10_lost_4 : decode cX10_lost 4 = .ok (.iload_n 1, 1) := by decide +kernel
theorem dX10_lost_5 : decode cX10_lost 5 = .ok (.iconst 4, 1) := by decide +kernel
theorem dX10_lost_6 : decode cX10_lost 6 = .ok (.if_icmp .ge 12, 3) := by decide +kernel
theorem dX10_lost_9 : decode cX10_lost 9 = .ok (.aload_n 0, 1) := by decide +kernel
theorem dX10_lost_10 : decode cX10_lost 10 = .ok (.getfield 102, 3) := by decide +kernel
theorem dX10_lost_13 : decode cX10_lost 13 = .ok (.iload_n 1, 1) := by decide +kernel
theorem dX10_lost_14 : decode cX10_lost 14 = .ok (.laload, 1) := by decide +kernel
theorem dX10_lost_15 : decode cX10_lost 15 = .ok (.goto 6, 3) := by decide +kernel
theorem dX10_lost_18 : decode cX10_lost 18 = .ok (.ldc2_w 227, 3) := by decide +kernel
theorem dX10_lost_21 : decode cX10_lost 21 = .ok (.lreturn, 1) := by decide +kernel
theorem dX10_interval_0 : decode cX10_interval 0 = .ok (.aload_n 0, 1) := by decide +kernel
theorem dX10_interval_1 : decode cX10_interval 1 = .ok (.iload_n 1, 1) := by decide +kernel
theorem dX10_interval_2 : decode cX10_interval 2 = .ok (.iload_n 2, 1) := by decide +kernel
theorem dX10_interval_3 : decode cX10_interval 3 = .ok (.invokevirtual 223, 3) := by decide +kernel
theorem dX10_interval_6 : decode cX10_interval 6 = .ok (.ifCond .eq 26, 3) := by decide +kernel
theorem dX10_interval_9 : decode cX10_interval 9 = .ok (.iload_n 3, 1) := by decide +kernel
theorem dX10_interval_10 : decode cX10_interval 10 = .ok (.ifCond .lt 22, 3) := by decide +kernel
theorem dX10_interval_13 : decode cX10_interval 13 = .ok (.iload_n 3, 1) := by decide +kernel
theorem dX10_interval_14 : decode cX10_interval 14 = .ok (.iconst 1, 1) := by decide +kernel
theorem dX10_interval_15 : decode cX10_interval 15 = .ok (.if_icmp .gt 17, 3) := by decide +kernel
theorem dX10_interval_18 : decode cX10_interval 18 = .ok (.aload_n 0, 1) := by decide +kernel
theorem dX10_interval_19 : decode cX10_interval 19 = .ok (.getfield 106, 3) := by decide +kernel
theorem dX10_interval_22 : decode cX10_interval 22 = .ok (.iconst 5, 1) := by decide +kernel
theorem dX10_interval_23 : decode cX10_interval 23 = .ok (.iload_n 1, 1) := by decide +kernel
theorem dX10_interval_24 : decode cX10_interval 24 = .ok (.imul, 1) := by decide +kernel
theorem dX10_interval_25 : decode cX10_interval 25 = .ok (.iload_n 2, 1) := by decide +kernel
theorem dX10_interval_26 : decode cX10_interval 26 = .ok (.iadd, 1) := by decide +kernel
theorem dX10_interval_27 : decode cX10_interval 27 = .ok (.iaload, 1) := by decide +kernel
theorem dX10_interval_28 : decode cX10_interval 28 = .ok (.iconst 2, 1) := by decide +kernel
theorem dX10_interval_29 : decode cX10_interval 29 = .ok (.if_icmp .ge 7, 3) := by decide +kernel
theorem dX10_interval_32 : decode cX10_interval 32 = .ok (.ldc2_w 232, 3) := by decide +kernel
theorem dX10_interval_35 : decode cX10_interval 35 = .ok (.dreturn, 1) := by decide +kernel
theorem dX10_interval_36 : decode cX10_interval 36 = .ok (.iload_n 3, 1) := by decide +kernel
theorem dX10_interval_37 : decode cX10_interval 37 = .ok (.ifCond .ne 16, 3) := by decide +kernel
theorem dX10_interval_40 : decode cX10_interval 40 = .ok (.aload_n 0, 1) := by decide +kernel
theorem dX10_interval_41 : decode cX10_interval 41 = .ok (.getfield 112, 3) := by decide +kernel
theorem dX10_interval_44 : decode cX10_interval 44 = .ok (.iconst 5, 1) := by decide +kernel
theorem dX10_interval_45 : decode cX10_interval 45 = .ok (.iload_n 1, 1) := by decide +kernel
theorem dX10_interval_46 : decode cX10_interval 46 = .ok (.imul, 1) := by decide +kernel
theorem dX10_interval_47 : decode cX10_interval 47 = .ok (.iload_n 2, 1) := by decide +kernel
theorem dX10_interval_48 : decode cX10_interval 48 = .ok (.iadd, 1) := by decide +kernel
theorem dX10_interval_49 : decode cX10_interval 49 = .ok (.iaload, 1) := by decide +kernel
theorem dX10_interval_50 : decode cX10_interval 50 = .ok (.goto 13, 3) := by decide +kernel
theorem dX10_interval_53 : decode cX10_interval 53 = .ok (.aload_n 0, 1) := by decide +kernel
theorem dX10_interval_54 : decode cX10_interval 54 = .ok (.getfield 115, 3) := by decide +kernel
theorem dX10_interval_57 : decode cX10_interval 57 = .ok (.iconst 5, 1) := by decide +kernel
theorem dX10_interval_58 : decode cX10_interval 58 = .ok (.iload_n 1, 1) := by decide +kernel
theorem dX10_interval_59 : decode cX10_interval 59 = .ok (.imul, 1) := by decide +kernel
theorem dX10_interval_60 : decode cX10_interval 60 = .ok (.iload_n 2, 1) := by decide +kernel
theorem dX10_interval_61 : decode cX10_interval 61 = .ok (.iadd, 1) := by decide +kernel
theorem dX10_interval_62 : decode cX10_interval 62 = .ok (.iaload, 1) := by decide +kernel
theorem dX10_interval_63 : decode cX10_interval 63 = .ok (.i2d, 1) := by decide +kernel
theorem dX10_interval_64 : decode cX10_interval 64 = .ok (.ldc2_w 160, 3) := by decide +kernel
theorem dX10_interval_67 : decode cX10_interval 67 = .ok (.ddiv, 1) := by decide +kernel
theorem dX10_interval_68 : decode cX10_interval 68 = .ok (.dreturn, 1) := by decide +kernel
theorem dX10_same_0 : decode cX10_same 0 = .ok (.iconst 0, 1) := by decide +kernel
theorem dX10_same_1 : decode cX10_same 1 = .ok (.istore_n 1, 1) := by decide +kernel
theorem dX10_same_2 : decode cX10_same 2 = .ok (.iconst 0, 1) := by decide +kernel
theorem dX10_same_3 : decode cX10_same 3 = .ok (.istore_n 2, 1) := by decide +kernel
theorem dX10_same_4 : decode cX10_same 4 = .ok (.iload_n 2, 1) := by decide +kernel
theorem dX10_same_5 : decode cX10_same 5 = .ok (.aload_n 0, 1) := by decide +kernel
theorem dX10_same_6 : decode cX10_same 6 = .ok (.getfield 126, 3) := by decide +kernel
theorem dX10_same_9 : decode cX10_same 9 = .ok (.if_icmp .ge 30, 3) := by decide +kernel
theorem dX10_same_12 : decode cX10_same 12 = .ok (.iload_n 1, 1) := by decide +kernel
theorem dX10_same_13 : decode cX10_same 13 = .ok (.aload_n 0, 1) := by decide +kernel
theorem dX10_same_14 : decode cX10_same 14 = .ok (.getfield 78, 3) := by decide +kernel
theorem dX10_same_17 : decode cX10_same 17 = .ok (.iload_n 2, 1) := by decide +kernel
theorem dX10_same_18 : decode cX10_same 18 = .ok (.iaload, 1) := by decide +kernel
theorem dX10_same_19 : decode cX10_same 19 = .ok (.aload_n 0, 1) := by decide +kernel
theorem dX10_same_20 : decode cX10_same 20 = .ok (.getfield 165, 3) := by decide +kernel
theorem dX10_same_23 : decode cX10_same 23 = .ok (.if_icmp .gt 7, 3) := by decide +kernel
theorem dX10_same_26 : decode cX10_same 26 = .ok (.iconst 1, 1) := by decide +kernel
theorem dX10_same_27 : decode cX10_same 27 = .ok (.goto 4, 3) := by decide +kernel
theorem dX10_same_30 : decode cX10_same 30 = .ok (.iconst 0, 1) := by decide +kernel
theorem dX10_same_31 : decode cX10_same 31 = .ok (.iadd, 1) := by decide +kernel
theorem dX10_same_32 : decode cX10_same 32 = .ok (.istore_n 1, 1) := by decide +kernel
theorem dX10_same_33 : decode cX10_same 33 = .ok (.iinc 2 1, 3) := by decide +kernel
theorem dX10_same_36 : decode cX10_same 36 = .ok (.goto (-32), 3) := by decide +kernel
theorem dX10_same_39 : decode cX10_same 39 = .ok (.iload_n 1, 1) := by decide +kernel
theorem dX10_same_40 : decode cX10_same 40 = .ok (.i2l, 1) := by decide +kernel
theorem dX10_same_41 : decode cX10_same 41 = .ok (.aload_n 0, 1) := by decide +kernel
theorem dX10_same_42 : decode cX10_same 42 = .ok (.invokevirtual 234, 3) := by decide +kernel
theorem dX10_same_45 : decode cX10_same 45 = .ok (.aload_n 0, 1) := by decide +kernel
theorem dX10_same_46 : decode cX10_same 46 = .ok (.iconst 3, 1) := by decide +kernel
theorem dX10_same_47 : decode cX10_same 47 = .ok (.invokevirtual 229, 3) := by decide +kernel
theorem dX10_same_50 : decode cX10_same 50 = .ok (.i2l, 1) := by decide +kernel
theorem dX10_same_51 : decode cX10_same 51 = .ok (.ladd, 1) := by decide +kernel
theorem dX10_same_52 : decode cX10_same 52 = .ok (.aload_n 0, 1) := by decide +kernel
theorem dX10_same_53 : decode cX10_same 53 = .ok (.iconst 4, 1) := by decide +kernel
theorem dX10_same_54 : decode cX10_same 54 = .ok (.invokevirtual 229, 3) := by decide +kernel
theorem dX10_same_57 : decode cX10_same 57 = .ok (.i2l, 1) := by decide +kernel
theorem dX10_same_58 : decode cX10_same 58 = .ok (.ladd, 1) := by decide +kernel
theorem dX10_same_59 : decode cX10_same 59 = .ok (.aload_n 0, 1) := by decide +kernel
theorem dX10_same_60 : decode cX10_same 60 = .ok (.iconst 5, 1) := by decide +kernel
theorem dX10_same_61 : decode cX10_same 61 = .ok (.invokevirtual 229, 3) := by decide +kernel
theorem dX10_same_64 : decode cX10_same 64 = .ok (.i2l, 1) := by decide +kernel
theorem dX10_same_65 : decode cX10_same 65 = .ok (.ladd, 1) := by decide +kernel
theorem dX10_same_66 : decode cX10_same 66 = .ok (.lcmp, 1) := by decide +kernel
theorem dX10_same_67 : decode cX10_same 67 = .ok (.ifCond .ne 7, 3) := by decide +kernel
theorem dX10_same_70 : decode cX10_same 70 = .ok (.iconst 1, 1) := by decide +kernel
theorem dX10_same_71 : decode cX10_same 71 = .ok (.goto 4, 3) := by decide +kernel
theorem dX10_same_74 : decode cX10_same 74 = .ok (.iconst 0, 1) := by decide +kernel
theorem dX10_same_75 : decode cX10_same 75 = .ok (.ireturn, 1) := by decide +kernel
theorem dX10_pieceKind_0 : decode cX10_pieceKind 0 = .ok (.lload_n 1, 1) := by decide +kernel
theorem dX10_pieceKind_1 : decode cX10_pieceKind 1 = .ok (.lconst 0, 1) := by decide +kernel
theorem dX10_pieceKind_2 : decode cX10_pieceKind 2 = .ok (.lcmp, 1) := by decide +kernel
theorem dX10_pieceKind_3 : decode cX10_pieceKind 3 = .ok (.ifCond .lt 23, 3) := by decide +kernel
theorem dX10_pieceKind_6 : decode cX10_pieceKind 6 = .ok (.lload_n 1, 1) := by decide +kernel
theorem dX10_pieceKind_7 : decode cX10_pieceKind 7 = .ok (.aload_n 0, 1) := by decide +kernel
theorem dX10_pieceKind_8 : decode cX10_pieceKind 8 = .ok (.getfield 126, 3) := by decide +kernel
theorem dX10_pieceKind_11 : decode cX10_pieceKind 11 = .ok (.i2l, 1) := by decide +kernel
theorem dX10_pieceKind_12 : decode cX10_pieceKind 12 = .ok (.lcmp, 1) := by decide +kernel
theorem dX10_pieceKind_13 : decode cX10_pieceKind 13 = .ok (.ifCond .ge 13, 3) := by decide +kernel
theorem dX10_pieceKind_16 : decode cX10_pieceKind 16 = .ok (.aload_n 0, 1) := by decide +kernel
theorem dX10_pieceKind_17 : decode cX10_pieceKind 17 = .ok (.getfield 72, 3) := by decide +kernel
theorem dX10_pieceKind_20 : decode cX10_pieceKind 20 = .ok (.lload_n 1, 1) := by decide +kernel
theorem dX10_pieceKind_21 : decode cX10_pieceKind 21 = .ok (.l2i, 1) := by decide +kernel
theorem dX10_pieceKind_22 : decode cX10_pieceKind 22 = .ok (.iaload, 1) := by decide +kernel
theorem dX10_pieceKind_23 : decode cX10_pieceKind 23 = .ok (.goto 4, 3) := by decide +kernel
theorem dX10_pieceKind_26 : decode cX10_pieceKind 26 = .ok (.iconst (-1), 1) := by decide +kernel
theorem dX10_pieceKind_27 : decode cX10_pieceKind 27 = .ok (.ireturn, 1) := by decide +kernel
end
section
theorem dL_cell_0 : decode cL_cell 0 = .ok (.iload_n 1, 1) := by decide +kernel
theorem dL_cell_1 : decode cL_cell 1 = .ok (.aload_n 0, 1) := by decide +kernel
theorem dL_cell_2 : decode cL_cell 2 = .ok (.arraylength, 1) := by decide +kernel
theorem dL_cell_3 : decode cL_cell 3 = .ok (.if_icmp .ge 9, 3) := by decide +kernel
theorem dL_cell_6 : decode cL_cell 6 = .ok (.aload_n 0, 1) := by decide +kernel
theorem dL_cell_7 : decode cL_cell 7 = .ok (.iload_n 1, 1) := by decide +kernel
theorem dL_cell_8 : decode cL_cell 8 = .ok (.iaload, 1) := by decide +kernel
theorem dL_cell_9 : decode cL_cell 9 = .ok (.goto 4, 3) := by decide +kernel
theorem dL_cell_12 : decode cL_cell 12 = .ok (.iconst 0, 1) := by decide +kernel
theorem dL_cell_13 : decode cL_cell 13 = .ok (.ireturn, 1) := by decide +kernel
theorem dL_law_0 : decode cL_law 0 = .ok (.new 7, 3) := by decide +kernel
theorem dL_law_3 : decode cL_law 3 = .ok (.dup, 1) := by decide +kernel
theorem dL_law_4 : decode cL_law 4 = .ok (.aload_n 0, 1) := by decide +kernel
theorem dL_law_5 : decode cL_law 5 = .ok (.iconst 0, 1) := by decide +kernel
theorem dL_law_6 : decode cL_law 6 = .ok (.invokestatic 9, 3) := by decide +kernel
theorem dL_law_9 : decode cL_law 9 = .ok (.i2l, 1) := by decide +kernel
theorem dL_law_10 : decode cL_law 10 = .ok (.invokespecial 15, 3) := by decide +kernel
theorem dL_law_13 : decode cL_law 13 = .ok (.astore_n 1, 1) := by decide +kernel
theorem dL_law_14 : decode cL_law 14 = .ok (.new 18, 3) := by decide +kernel
theorem dL_law_17 : decode cL_law 17 = .ok (.dup, 1) := by decide +kernel
theorem dL_law_18 : decode cL_law 18 = .ok (.aload_n 0, 1) := by decide +kernel
theorem dL_law_19 : decode cL_law 19 = .ok (.iconst 0, 1) := by decide +kernel
theorem dL_law_20 : decode cL_law 20 = .ok (.invokestatic 9, 3) := by decide +kernel
theorem dL_law_23 : decode cL_law 23 = .ok (.i2l, 1) := by decide +kernel
theorem dL_law_24 : decode cL_law 24 = .ok (.invokespecial 20, 3) := by decide +kernel
theorem dL_law_27 : decode cL_law 27 = .ok (.astore_n 2, 1) := by decide +kernel
theorem dL_law_28 : decode cL_law 28 = .ok (.iconst 1, 1) := by decide +kernel
theorem dL_law_29 : decode cL_law 29 = .ok (.istore_n 3, 1) := by decide +kernel
theorem dL_law_30 : decode cL_law 30 = .ok (.iload_n 3, 1) := by decide +kernel
theorem dL_law_31 : decode cL_law 31 = .ok (.aload_n 0, 1) := by decide +kernel
theorem dL_law_32 : decode cL_law 32 = .ok (.arraylength, 1) := by decide +kernel
theorem dL_law_33 : decode cL_law 33 = .ok (.iconst 5, 1) := by decide +kernel
theorem dL_law_34 : decode cL_law 34 = .ok (.isub, 1) := by decide +kernel
theorem dL_law_35 : decode cL_law 35 = .ok (.if_icmp .gt 811, 3) := by decide +kernel
theorem dL_law_38 : decode cL_law 38 = .ok (.aload_n 0, 1) := by decide +kernel
theorem dL_law_39 : decode cL_law 39 = .ok (.iload_n 3, 1) := by decide +kernel
theorem dL_law_40 : decode cL_law 40 = .ok (.iaload, 1) := by decide +kernel
theorem dL_law_41 : decode cL_law 41 = .ok (.bipush 31, 2) := by decide +kernel
theorem dL_law_43 : decode cL_law 43 = .ok (.iand, 1) := by decide +kernel
theorem dL_law_44 : decode cL_law 44 = .ok (.tableswitch 796 0 16 #[84, 127, 190, 223, 256, 309, 372, 435, 498, 521, 554, 588, 602, 635, 659, 730, 743], 84) := by decide +kernel
theorem dL_law_128 : decode cL_law 128 = .ok (.aload_n 1, 1) := by decide +kernel
theorem dL_law_129 : decode cL_law 129 = .ok (.aload_n 0, 1) := by decide +kernel
theorem dL_law_130 : decode cL_law 130 = .ok (.iload_n 3, 1) := by decide +kernel
theorem dL_law_131 : decode cL_law 131 = .ok (.iconst 1, 1) := by decide +kernel
theorem dL_law_132 : decode cL_law 132 = .ok (.iadd, 1) := by decide +kernel
theorem dL_law_133 : decode cL_law 133 = .ok (.iaload, 1) := by decide +kernel
theorem dL_law_134 : decode cL_law 134 = .ok (.aload_n 0, 1) := by decide +kernel
theorem dL_law_135 : decode cL_law 135 = .ok (.iload_n 3, 1) := by decide +kernel
theorem dL_law_136 : decode cL_law 136 = .ok (.iconst 2, 1) := by decide +kernel
theorem dL_law_137 : decode cL_law 137 = .ok (.iadd, 1) := by decide +kernel
theorem dL_law_138 : decode cL_law 138 = .ok (.iaload, 1) := by decide +kernel
theorem dL_law_139 : decode cL_law 139 = .ok (.i2d, 1) := by decide +kernel
theorem dL_law_140 : decode cL_law 140 = .ok (.ldc2_w 21, 3) := by decide +kernel
theorem dL_law_143 : decode cL_law 143 = .ok (.dmul, 1) := by decide +kernel
theorem dL_law_144 : decode cL_law 144 = .ok (.invokevirtual 23, 3) := by decide +kernel
theorem dL_law_147 : decode cL_law 147 = .ok (.aload_n 2, 1) := by decide +kernel
theorem dL_law_148 : decode cL_law 148 = .ok (.aload_n 0, 1) := by decide +kernel
theorem dL_law_149 : decode cL_law 149 = .ok (.iload_n 3, 1) := by decide +kernel
theorem dL_law_150 : decode cL_law 150 = .ok (.iconst 1, 1) := by decide +kernel
theorem dL_law_151 : decode cL_law 151 = .ok (.iadd, 1) := by decide +kernel
theorem dL_law_152 : decode cL_law 152 = .ok (.iaload, 1) := by decide +kernel
theorem dL_law_153 : decode cL_law 153 = .ok (.aload_n 0, 1) := by decide +kernel
theorem dL_law_154 : decode cL_law 154 = .ok (.iload_n 3, 1) := by decide +kernel
theorem dL_law_155 : decode cL_law 155 = .ok (.iconst 2, 1) := by decide +kernel
theorem dL_law_156 : decode cL_law 156 = .ok (.iadd, 1) := by decide +kernel
theorem dL_law_157 : decode cL_law 157 = .ok (.iaload, 1) := by decide +kernel
theorem dL_law_158 : decode cL_law 158 = .ok (.i2d, 1) := by decide +kernel
theorem dL_law_159 : decode cL_law 159 = .ok (.ldc2_w 21, 3) := by decide +kernel
theorem dL_law_162 : decode cL_law 162 = .ok (.dmul, 1) := by decide +kernel
theorem dL_law_163 : decode cL_law 163 = .ok (.invokevirtual 27, 3) := by decide +kernel
theorem dL_law_166 : decode cL_law 166 = .ok (.if_icmp .eq 674, 3) := by decide +kernel
theorem dL_law_169 : decode cL_law 169 = .ok (.iconst 0, 1) := by decide +kernel
theorem dL_law_170 : decode cL_law 170 = .ok (.ireturn, 1) := by decide +kernel
theorem dL_law_171 : decode cL_law 171 = .ok (.aload_n 1, 1) := by decide +kernel
theorem dL_law_172 : decode cL_law 172 = .ok (.aload_n 0, 1) := by decide +kernel
theorem dL_law_173 : decode cL_law 173 = .ok (.iload_n 3, 1) := by decide +kernel
theorem dL_law_174 : decode cL_law 174 = .ok (.iconst 1, 1) := by decide +kernel
theorem dL_law_175 : decode cL_law 175 = .ok (.iadd, 1) := by decide +kernel
theorem dL_law_176 : decode cL_law 176 = .ok (.iaload, 1) := by decide +kernel
theorem dL_law_177 : decode cL_law 177 = .ok (.aload_n 0, 1) := by decide +kernel
theorem dL_law_178 : decode cL_law 178 = .ok (.iload_n 3, 1) := by decide +kernel
theorem dL_law_179 : decode cL_law 179 = .ok (.iconst 2, 1) := by decide +kernel
theorem dL_law_180 : decode cL_law 180 = .ok (.iadd, 1) := by decide +kernel
theorem dL_law_181 : decode cL_law 181 = .ok (.iaload, 1) := by decide +kernel
theorem dL_law_182 : decode cL_law 182 = .ok (.i2d, 1) := by decide +kernel
theorem dL_law_183 : decode cL_law 183 = .ok (.ldc2_w 21, 3) := by decide +kernel
theorem dL_law_186 : decode cL_law 186 = .ok (.dmul, 1) := by decide +kernel
theorem dL_law_187 : decode cL_law 187 = .ok (.aload_n 0, 1) := by decide +kernel
theorem dL_law_188 : decode cL_law 188 = .ok (.iload_n 3, 1) := by decide +kernel
theorem dL_law_189 : decode cL_law 189 = .ok (.iconst 3, 1) := by decide +kernel
theorem dL_law_190 : decode cL_law 190 = .ok (.iadd, 1) := by decide +kernel
theorem dL_law_191 : decode cL_law 191 = .ok (.iaload, 1) := by decide +kernel
theorem dL_law_192 : decode cL_law 192 = .ok (.i2d, 1) := by decide +kernel
theorem dL_law_193 : decode cL_law 193 = .ok (.ldc2_w 21, 3) := by decide +kernel
theorem dL_law_196 : decode cL_law 196 = .ok (.dmul, 1) := by decide +kernel
theorem dL_law_197 : decode cL_law 197 = .ok (.invokevirtual 28, 3) := by decide +kernel
theorem dL_law_200 : decode cL_law 200 = .ok (.aload_n 2, 1) := by decide +kernel
theorem dL_law_201 : decode cL_law 201 = .ok (.aload_n 0, 1) := by decide +kernel
theorem dL_law_202 : decode cL_law 202 = .ok (.iload_n 3, 1) := by decide +kernel
theorem dL_law_203 : decode cL_law 203 = .ok (.iconst 1, 1) := by decide +kernel
theorem dL_law_204 : decode cL_law 204 = .ok (.iadd, 1) := by decide +kernel
theorem dL_law_205 : decode cL_law 205 = .ok (.iaload, 1) := by decide +kernel
theorem dL_law_206 : decode cL_law 206 = .ok (.aload_n 0, 1) := by decide +kernel
theorem dL_law_207 : decode cL_law 207 = .ok (.iload_n 3, 1) := by decide +kernel
theorem dL_law_208 : decode cL_law 208 = .ok (.iconst 2, 1) := by decide +kernel
theorem dL_law_209 : decode cL_law 209 = .ok (.iadd, 1) := by decide +kernel
theorem dL_law_210 : decode cL_law 210 = .ok (.iaload, 1) := by decide +kernel
theorem dL_law_211 : decode cL_law 211 = .ok (.i2d, 1) := by decide +kernel
theorem dL_law_212 : decode cL_law 212 = .ok (.ldc2_w 21, 3) := by decide +kernel
theorem dL_law_215 : decode cL_law 215 = .ok (.dmul, 1) := by decide +kernel
theorem dL_law_216 : decode cL_law 216 = .ok (.aload_n 0, 1) := by decide +kernel
theorem dL_law_217 : decode cL_law 217 = .ok (.iload_n 3, 1) := by decide +kernel
theorem dL_law_218 : decode cL_law 218 = .ok (.iconst 3, 1) := by decide +kernel
theorem dL_law_219 : decode cL_law 219 = .ok (.iadd, 1) := by decide +kernel
theorem dL_law_220 : decode cL_law 220 = .ok (.iaload, 1) := by decide +kernel
theorem dL_law_221 : decode cL_law 221 = .ok (.i2d, 1) := by decide +kernel
theorem dL_law_222 : decode cL_law 222 = .ok (.ldc2_w 21, 3) := by decide +kernel
theorem dL_law_225 : decode cL_law 225 = .ok (.dmul, 1) := by decide +kernel
theorem dL_law_226 : decode cL_law 226 = .ok (.invokevirtual 32, 3) := by decide +kernel
theorem dL_law_229 : decode cL_law 229 = .ok (.if_icmp .eq 611, 3) := by decide +kernel
theorem dL_law_232 : decode cL_law 232 = .ok (.iconst 0, 1) := by decide +kernel
theorem dL_law_233 : decode cL_law 233 = .ok (.ireturn, 1) := by decide +kernel
theorem dL_law_234 : decode cL_law 234 = .ok (.aload_n 1, 1) := by decide +kernel
theorem dL_law_235 : decode cL_law 235 = .ok (.aload_n 0, 1) := by decide +kernel
theorem dL_law_236 : decode cL_law 236 = .ok (.iload_n 3, 1) := by decide +kernel
theorem dL_law_237 : decode cL_law 237 = .ok (.iconst 1, 1) := by decide +kernel
theorem dL_law_238 : decode cL_law 238 = .ok (.iadd, 1) := by decide +kernel
theorem dL_law_239 : decode cL_law 239 = .ok (.iaload, 1) := by decide +kernel
theorem dL_law_240 : decode cL_law 240 = .ok (.i2d, 1) := by decide +kernel
theorem dL_law_241 : decode cL_law 241 = .ok (.ldc2_w 21, 3) := by decide +kernel
theorem dL_law_244 : decode cL_law 244 = .ok (.dmul, 1) := by decide +kernel
theorem dL_law_245 : decode cL_law 245 = .ok (.invokevirtual 33, 3) := by decide +kernel
theorem dL_law_248 : decode cL_law 248 = .ok (.aload_n 2, 1) := by decide +kernel
theorem dL_law_249 : decode cL_law 249 = .ok (.aload_n 0, 1) := by decide +kernel
theorem dL_law_250 : decode cL_law 250 = .ok (.iload_n 3, 1) := by decide +kernel
theorem dL_law_251 : decode cL_law 251 = .ok (.iconst 1, 1) := by decide +kernel
theorem dL_law_252 : decode cL_law 252 = .ok (.iadd, 1) := by decide +kernel
theorem dL_law_253 : decode cL_law 253 = .ok (.iaload, 1) := by decide +kernel
theorem dL_law_254 : decode cL_law 254 = .ok (.i2d, 1) := by decide +kernel
theorem dL_law_255 : decode cL_law 255 = .ok (.ldc2_w 21, 3) := by decide +kernel
theorem dL_law_258 : decode cL_law 258 = .ok (.dmul, 1) := by decide +kernel
theorem dL_law_259 : decode cL_law 259 = .ok (.invokevirtual 37, 3) := by decide +kernel
theorem dL_law_262 : decode cL_law 262 = .ok (.if_icmp .eq 578, 3) := by decide +kernel
theorem dL_law_265 : decode cL_law 265 = .ok (.iconst 0, 1) := by decide +kernel
theorem dL_law_266 : decode cL_law 266 = .ok (.ireturn, 1) := by decide +kernel
theorem dL_law_267 : decode cL_law 267 = .ok (.aload_n 1, 1) := by decide +kernel
theorem dL_law_268 : decode cL_law 268 = .ok (.aload_n 0, 1) := by decide +kernel
theorem dL_law_269 : decode cL_law 269 = .ok (.iload_n 3, 1) := by decide +kernel
theorem dL_law_270 : decode cL_law 270 = .ok (.iconst 1, 1) := by decide +kernel
theorem dL_law_271 : decode cL_law 271 = .ok (.iadd, 1) := by decide +kernel
theorem dL_law_272 : decode cL_law 272 = .ok (.iaload, 1) := by decide +kernel
theorem dL_law_273 : decode cL_law 273 = .ok (.aload_n 0, 1) := by decide +kernel
theorem dL_law_274 : decode cL_law 274 = .ok (.iload_n 3, 1) := by decide +kernel
theorem dL_law_275 : decode cL_law 275 = .ok (.iconst 2, 1) := by decide +kernel
theorem dL_law_276 : decode cL_law 276 = .ok (.iadd, 1) := by decide +kernel
theorem dL_law_277 : decode cL_law 277 = .ok (.iaload, 1) := by decide +kernel
theorem dL_law_278 : decode cL_law 278 = .ok (.invokevirtual 38, 3) := by decide +kernel
theorem dL_law_281 : decode cL_law 281 = .ok (.aload_n 2, 1) := by decide +kernel
theorem dL_law_282 : decode cL_law 282 = .ok (.aload_n 0, 1) := by decide +kernel
theorem dL_law_283 : decode cL_law 283 = .ok (.iload_n 3, 1) := by decide +kernel
theorem dL_law_284 : decode cL_law 284 = .ok (.iconst 1, 1) := by decide +kernel
theorem dL_law_285 : decode cL_law 285 = .ok (.iadd, 1) := by decide +kernel
theorem dL_law_286 : decode cL_law 286 = .ok (.iaload, 1) := by decide +kernel
theorem dL_law_287 : decode cL_law 287 = .ok (.aload_n 0, 1) := by decide +kernel
theorem dL_law_288 : decode cL_law 288 = .ok (.iload_n 3, 1) := by decide +kernel
theorem dL_law_289 : decode cL_law 289 = .ok (.iconst 2, 1) := by decide +kernel
theorem dL_law_290 : decode cL_law 290 = .ok (.iadd, 1) := by decide +kernel
theorem dL_law_291 : decode cL_law 291 = .ok (.iaload, 1) := by decide +kernel
theorem dL_law_292 : decode cL_law 292 = .ok (.invokevirtual 42, 3) := by decide +kernel
theorem dL_law_295 : decode cL_law 295 = .ok (.if_icmp .eq 545, 3) := by decide +kernel
theorem dL_law_298 : decode cL_law 298 = .ok (.iconst 0, 1) := by decide +kernel
theorem dL_law_299 : decode cL_law 299 = .ok (.ireturn, 1) := by decide +kernel
theorem dL_law_300 : decode cL_law 300 = .ok (.aload_n 1, 1) := by decide +kernel
theorem dL_law_301 : decode cL_law 301 = .ok (.aload_n 0, 1) := by decide +kernel
theorem dL_law_302 : decode cL_law 302 = .ok (.iload_n 3, 1) := by decide +kernel
theorem dL_law_303 : decode cL_law 303 = .ok (.iconst 1, 1) := by decide +kernel
theorem dL_law_304 : decode cL_law 304 = .ok (.iadd, 1) := by decide +kernel
theorem dL_law_305 : decode cL_law 305 = .ok (.iaload, 1) := by decide +kernel
theorem dL_law_306 : decode cL_law 306 = .ok (.aload_n 0, 1) := by decide +kernel
theorem dL_law_307 : decode cL_law 307 = .ok (.iload_n 3, 1) := by decide +kernel
theorem dL_law_308 : decode cL_law 308 = .ok (.iconst 2, 1) := by decide +kernel
theorem dL_law_309 : decode cL_law 309 = .ok (.iadd, 1) := by decide +kernel
theorem dL_law_310 : decode cL_law 310 = .ok (.iaload, 1) := by decide +kernel
theorem dL_law_311 : decode cL_law 311 = .ok (.i2d, 1) := by decide +kernel
theorem dL_law_312 : decode cL_law 312 = .ok (.ldc2_w 21, 3) := by decide +kernel
theorem dL_law_315 : decode cL_law 315 = .ok (.dmul, 1) := by decide +kernel
theorem dL_law_316 : decode cL_law 316 = .ok (.aload_n 0, 1) := by decide +kernel
theorem dL_law_317 : decode cL_law 317 = .ok (.iload_n 3, 1) := by decide +kernel
theorem dL_law_318 : decode cL_law 318 = .ok (.iconst 3, 1) := by decide +kernel
theorem dL_law_319 : decode cL_law 319 = .ok (.iadd, 1) := by decide +kernel
theorem dL_law_320 : decode cL_law 320 = .ok (.iaload, 1) := by decide +kernel
theorem dL_law_321 : decode cL_law 321 = .ok (.invokevirtual 43, 3) := by decide +kernel
theorem dL_law_324 : decode cL_law 324 = .ok (.aload_n 2, 1) := by decide +kernel
theorem dL_law_325 : decode cL_law 325 = .ok (.aload_n 0, 1) := by decide +kernel
theorem dL_law_326 : decode cL_law 326 = .ok (.iload_n 3, 1) := by decide +kernel
theorem dL_law_327 : decode cL_law 327 = .ok (.iconst 1, 1) := by decide +kernel
theorem dL_law_328 : decode cL_law 328 = .ok (.iadd, 1) := by decide +kernel
theorem dL_law_329 : decode cL_law 329 = .ok (.iaload, 1) := by decide +kernel
theorem dL_law_330 : decode cL_law 330 = .ok (.aload_n 0, 1) := by decide +kernel
theorem dL_law_331 : decode cL_law 331 = .ok (.iload_n 3, 1) := by decide +kernel
theorem dL_law_332 : decode cL_law 332 = .ok (.iconst 2, 1) := by decide +kernel
theorem dL_law_333 : decode cL_law 333 = .ok (.iadd, 1) := by decide +kernel
theorem dL_law_334 : decode cL_law 334 = .ok (.iaload, 1) := by decide +kernel
theorem dL_law_335 : decode cL_law 335 = .ok (.i2d, 1) := by decide +kernel
theorem dL_law_336 : decode cL_law 336 = .ok (.ldc2_w 21, 3) := by decide +kernel
theorem dL_law_339 : decode cL_law 339 = .ok (.dmul, 1) := by decide +kernel
theorem dL_law_340 : decode cL_law 340 = .ok (.aload_n 0, 1) := by decide +kernel
theorem dL_law_341 : decode cL_law 341 = .ok (.iload_n 3, 1) := by decide +kernel
theorem dL_law_342 : decode cL_law 342 = .ok (.iconst 3, 1) := by decide +kernel
theorem dL_law_343 : decode cL_law 343 = .ok (.iadd, 1) := by decide +kernel
theorem dL_law_344 : decode cL_law 344 = .ok (.iaload, 1) := by decide +kernel
theorem dL_law_345 : decode cL_law 345 = .ok (.invokevirtual 47, 3) := by decide +kernel
theorem dL_law_348 : decode cL_law 348 = .ok (.if_icmp .eq 492, 3) := by decide +kernel
theorem dL_law_351 : decode cL_law 351 = .ok (.iconst 0, 1) := by decide +kernel
theorem dL_law_352 : decode cL_law 352 = .ok (.ireturn, 1) := by decide +kernel
theorem dL_law_353 : decode cL_law 353 = .ok (.aload_n 1, 1) := by decide +kernel
theorem dL_law_354 : decode cL_law 354 = .ok (.aload_n 0, 1) := by decide +kernel
theorem dL_law_355 : decode cL_law 355 = .ok (.iload_n 3, 1) := by decide +kernel
theorem dL_law_356 : decode cL_law 356 = .ok (.iconst 1, 1) := by decide +kernel
theorem dL_law_357 : decode cL_law 357 = .ok (.iadd, 1) := by decide +kernel
theorem dL_law_358 : decode cL_law 358 = .ok (.iaload, 1) := by decide +kernel
theorem dL_law_359 : decode cL_law 359 = .ok (.aload_n 0, 1) := by decide +kernel
theorem dL_law_360 : decode cL_law 360 = .ok (.iload_n 3, 1) := by decide +kernel
theorem dL_law_361 : decode cL_law 361 = .ok (.iconst 2, 1) := by decide +kernel
theorem dL_law_362 : decode cL_law 362 = .ok (.iadd, 1) := by decide +kernel
theorem dL_law_363 : decode cL_law 363 = .ok (.iaload, 1) := by decide +kernel
theorem dL_law_364 : decode cL_law 364 = .ok (.i2d, 1) := by decide +kernel
theorem dL_law_365 : decode cL_law 365 = .ok (.ldc2_w 21, 3) := by decide +kernel
theorem dL_law_368 : decode cL_law 368 = .ok (.dmul, 1) := by decide +kernel
theorem dL_law_369 : decode cL_law 369 = .ok (.aload_n 0, 1) := by decide +kernel
theorem dL_law_370 : decode cL_law 370 = .ok (.iload_n 3, 1) := by decide +kernel
theorem dL_law_371 : decode cL_law 371 = .ok (.iconst 3, 1) := by decide +kernel
theorem dL_law_372 : decode cL_law 372 = .ok (.iadd, 1) := by decide +kernel
theorem dL_law_373 : decode cL_law 373 = .ok (.iaload, 1) := by decide +kernel
theorem dL_law_374 : decode cL_law 374 = .ok (.i2d, 1) := by decide +kernel
theorem dL_law_375 : decode cL_law 375 = .ok (.ldc2_w 21, 3) := by decide +kernel
theorem dL_law_378 : decode cL_law 378 = .ok (.dmul, 1) := by decide +kernel
theorem dL_law_379 : decode cL_law 379 = .ok (.invokevirtual 48, 3) := by decide +kernel
theorem dL_law_382 : decode cL_law 382 = .ok (.aload_n 2, 1) := by decide +kernel
theorem dL_law_383 : decode cL_law 383 = .ok (.aload_n 0, 1) := by decide +kernel
theorem dL_law_384 : decode cL_law 384 = .ok (.iload_n 3, 1) := by decide +kernel
theorem dL_law_385 : decode cL_law 385 = .ok (.iconst 1, 1) := by decide +kernel
theorem dL_law_386 : decode cL_law 386 = .ok (.iadd, 1) := by decide +kernel
theorem dL_law_387 : decode cL_law 387 = .ok (.iaload, 1) := by decide +kernel
theorem dL_law_388 : decode cL_law 388 = .ok (.aload_n 0, 1) := by decide +kernel
theorem dL_law_389 : decode cL_law 389 = .ok (.iload_n 3, 1) := by decide +kernel
theorem dL_law_390 : decode cL_law 390 = .ok (.iconst 2, 1) := by decide +kernel
theorem dL_law_391 : decode cL_law 391 = .ok (.iadd, 1) := by decide +kernel
theorem dL_law_392 : decode cL_law 392 = .ok (.iaload, 1) := by decide +kernel
theorem dL_law_393 : decode cL_law 393 = .ok (.i2d, 1) := by decide +kernel
theorem dL_law_394 : decode cL_law 394 = .ok (.ldc2_w 21, 3) := by decide +kernel
theorem dL_law_397 : decode cL_law 397 = .ok (.dmul, 1) := by decide +kernel
theorem dL_law_398 : decode cL_law 398 = .ok (.aload_n 0, 1) := by decide +kernel
theorem dL_law_399 : decode cL_law 399 = .ok (.iload_n 3, 1) := by decide +kernel
theorem dL_law_400 : decode cL_law 400 = .ok (.iconst 3, 1) := by decide +kernel
theorem dL_law_401 : decode cL_law 401 = .ok (.iadd, 1) := by decide +kernel
theorem dL_law_402 : decode cL_law 402 = .ok (.iaload, 1) := by decide +kernel
theorem dL_law_403 : decode cL_law 403 = .ok (.i2d, 1) := by decide +kernel
theorem dL_law_404 : decode cL_law 404 = .ok (.ldc2_w 21, 3) := by decide +kernel
theorem dL_law_407 : decode cL_law 407 = .ok (.dmul, 1) := by decide +kernel
theorem dL_law_408 : decode cL_law 408 = .ok (.invokevirtual 51, 3) := by decide +kernel
theorem dL_law_411 : decode cL_law 411 = .ok (.if_icmp .eq 429, 3) := by decide +kernel
theorem dL_law_414 : decode cL_law 414 = .ok (.iconst 0, 1) := by decide +kernel
theorem dL_law_415 : decode cL_law 415 = .ok (.ireturn, 1) := by decide +kernel
theorem dL_law_416 : decode cL_law 416 = .ok (.aload_n 1, 1) := by decide +kernel
theorem dL_law_417 : decode cL_law 417 = .ok (.aload_n 0, 1) := by decide +kernel
theorem dL_law_418 : decode cL_law 418 = .ok (.iload_n 3, 1) := by decide +kernel
theorem dL_law_419 : decode cL_law 419 = .ok (.iconst 1, 1) := by decide +kernel
theorem dL_law_420 : decode cL_law 420 = .ok (.iadd, 1) := by decide +kernel
theorem dL_law_421 : decode cL_law 421 = .ok (.iaload, 1) := by decide +kernel
theorem dL_law_422 : decode cL_law 422 = .ok (.aload_n 0, 1) := by decide +kernel
theorem dL_law_423 : decode cL_law 423 = .ok (.iload_n 3, 1) := by decide +kernel
theorem dL_law_424 : decode cL_law 424 = .ok (.iconst 2, 1) := by decide +kernel
theorem dL_law_425 : decode cL_law 425 = .ok (.iadd, 1) := by decide +kernel
theorem dL_law_426 : decode cL_law 426 = .ok (.iaload, 1) := by decide +kernel
theorem dL_law_427 : decode cL_law 427 = .ok (.i2d, 1) := by decide +kernel
theorem dL_law_428 : decode cL_law 428 = .ok (.ldc2_w 21, 3) := by decide +kernel
theorem dL_law_431 : decode cL_law 431 = .ok (.dmul, 1) := by decide +kernel
theorem dL_law_432 : decode cL_law 432 = .ok (.aload_n 0, 1) := by decide +kernel
theorem dL_law_433 : decode cL_law 433 = .ok (.iload_n 3, 1) := by decide +kernel
theorem dL_law_434 : decode cL_law 434 = .ok (.iconst 3, 1) := by decide +kernel
theorem dL_law_435 : decode cL_law 435 = .ok (.iadd, 1) := by decide +kernel
theorem dL_law_436 : decode cL_law 436 = .ok (.iaload, 1) := by decide +kernel
theorem dL_law_437 : decode cL_law 437 = .ok (.i2d, 1) := by decide +kernel
theorem dL_law_438 : decode cL_law 438 = .ok (.ldc2_w 21, 3) := by decide +kernel
theorem dL_law_441 : decode cL_law 441 = .ok (.dmul, 1) := by decide +kernel
theorem dL_law_442 : decode cL_law 442 = .ok (.invokevirtual 52, 3) := by decide +kernel
theorem dL_law_445 : decode cL_law 445 = .ok (.aload_n 2, 1) := by decide +kernel
theorem dL_law_446 : decode cL_law 446 = .ok (.aload_n 0, 1) := by decide +kernel
theorem dL_law_447 : decode cL_law 447 = .ok (.iload_n 3, 1) := by decide +kernel
theorem dL_law_448 : decode cL_law 448 = .ok (.iconst 1, 1) := by decide +kernel
theorem dL_law_449 : decode cL_law 449 = .ok (.iadd, 1) := by decide +kernel
theorem dL_law_450 : decode cL_law 450 = .ok (.iaload, 1) := by decide +kernel
theorem dL_law_451 : decode cL_law 451 = .ok (.aload_n 0, 1) := by decide +kernel
theorem dL_law_452 : decode cL_law 452 = .ok (.iload_n 3, 1) := by decide +kernel
theorem dL_law_453 : decode cL_law 453 = .ok (.iconst 2, 1) := by decide +kernel
theorem dL_law_454 : decode cL_law 454 = .ok (.iadd, 1) := by decide +kernel
theorem dL_law_455 : decode cL_law 455 = .ok (.iaload, 1) := by decide +kernel
theorem dL_law_456 : decode cL_law 456 = .ok (.i2d, 1) := by decide +kernel
theorem dL_law_457 : decode cL_law 457 = .ok (.ldc2_w 21, 3) := by decide +kernel
theorem dL_law_460 : decode cL_law 460 = .ok (.dmul, 1) := by decide +kernel
theorem dL_law_461 : decode cL_law 461 = .ok (.aload_n 0, 1) := by decide +kernel
theorem dL_law_462 : decode cL_law 462 = .ok (.iload_n 3, 1) := by decide +kernel
theorem dL_law_463 : decode cL_law 463 = .ok (.iconst 3, 1) := by decide +kernel
theorem dL_law_464 : decode cL_law 464 = .ok (.iadd, 1) := by decide +kernel
theorem dL_law_465 : decode cL_law 465 = .ok (.iaload, 1) := by decide +kernel
theorem dL_law_466 : decode cL_law 466 = .ok (.i2d, 1) := by decide +kernel
theorem dL_law_467 : decode cL_law 467 = .ok (.ldc2_w 21, 3) := by decide +kernel
theorem dL_law_470 : decode cL_law 470 = .ok (.dmul, 1) := by decide +kernel
theorem dL_law_471 : decode cL_law 471 = .ok (.invokevirtual 55, 3) := by decide +kernel
theorem dL_law_474 : decode cL_law 474 = .ok (.if_icmp .eq 366, 3) := by decide +kernel
theorem dL_law_477 : decode cL_law 477 = .ok (.iconst 0, 1) := by decide +kernel
theorem dL_law_478 : decode cL_law 478 = .ok (.ireturn, 1) := by decide +kernel
theorem dL_law_479 : decode cL_law 479 = .ok (.aload_n 1, 1) := by decide +kernel
theorem dL_law_480 : decode cL_law 480 = .ok (.aload_n 0, 1) := by decide +kernel
theorem dL_law_481 : decode cL_law 481 = .ok (.iload_n 3, 1) := by decide +kernel
theorem dL_law_482 : decode cL_law 482 = .ok (.iconst 1, 1) := by decide +kernel
theorem dL_law_483 : decode cL_law 483 = .ok (.iadd, 1) := by decide +kernel
theorem dL_law_484 : decode cL_law 484 = .ok (.iaload, 1) := by decide +kernel
theorem dL_law_485 : decode cL_law 485 = .ok (.aload_n 0, 1) := by decide +kernel
theorem dL_law_486 : decode cL_law 486 = .ok (.iload_n 3, 1) := by decide +kernel
theorem dL_law_487 : decode cL_law 487 = .ok (.iconst 2, 1) := by decide +kernel
theorem dL_law_488 : decode cL_law 488 = .ok (.iadd, 1) := by decide +kernel
theorem dL_law_489 : decode cL_law 489 = .ok (.iaload, 1) := by decide +kernel
theorem dL_law_490 : decode cL_law 490 = .ok (.aload_n 0, 1) := by decide +kernel
theorem dL_law_491 : decode cL_law 491 = .ok (.iload_n 3, 1) := by decide +kernel
theorem dL_law_492 : decode cL_law 492 = .ok (.iconst 3, 1) := by decide +kernel
theorem dL_law_493 : decode cL_law 493 = .ok (.iadd, 1) := by decide +kernel
theorem dL_law_494 : decode cL_law 494 = .ok (.iaload, 1) := by decide +kernel
theorem dL_law_495 : decode cL_law 495 = .ok (.aload_n 0, 1) := by decide +kernel
theorem dL_law_496 : decode cL_law 496 = .ok (.iload_n 3, 1) := by decide +kernel
theorem dL_law_497 : decode cL_law 497 = .ok (.iconst 4, 1) := by decide +kernel
theorem dL_law_498 : decode cL_law 498 = .ok (.iadd, 1) := by decide +kernel
theorem dL_law_499 : decode cL_law 499 = .ok (.iaload, 1) := by decide +kernel
theorem dL_law_500 : decode cL_law 500 = .ok (.i2d, 1) := by decide +kernel
theorem dL_law_501 : decode cL_law 501 = .ok (.ldc2_w 21, 3) := by decide +kernel
theorem dL_law_504 : decode cL_law 504 = .ok (.dmul, 1) := by decide +kernel
theorem dL_law_505 : decode cL_law 505 = .ok (.invokevirtual 56, 3) := by decide +kernel
theorem dL_law_508 : decode cL_law 508 = .ok (.aload_n 2, 1) := by decide +kernel
theorem dL_law_509 : decode cL_law 509 = .ok (.aload_n 0, 1) := by decide +kernel
theorem dL_law_510 : decode cL_law 510 = .ok (.iload_n 3, 1) := by decide +kernel
theorem dL_law_511 : decode cL_law 511 = .ok (.iconst 1, 1) := by decide +kernel
theorem dL_law_512 : decode cL_law 512 = .ok (.iadd, 1) := by decide +kernel
theorem dL_law_513 : decode cL_law 513 = .ok (.iaload, 1) := by decide +kernel
theorem dL_law_514 : decode cL_law 514 = .ok (.aload_n 0, 1) := by decide +kernel
theorem dL_law_515 : decode cL_law 515 = .ok (.iload_n 3, 1) := by decide +kernel
theorem dL_law_516 : decode cL_law 516 = .ok (.iconst 2, 1) := by decide +kernel
theorem dL_law_517 : decode cL_law 517 = .ok (.iadd, 1) := by decide +kernel
theorem dL_law_518 : decode cL_law 518 = .ok (.iaload, 1) := by decide +kernel
theorem dL_law_519 : decode cL_law 519 = .ok (.aload_n 0, 1) := by decide +kernel
theorem dL_law_520 : decode cL_law 520 = .ok (.iload_n 3, 1) := by decide +kernel
theorem dL_law_521 : decode cL_law 521 = .ok (.iconst 3, 1) := by decide +kernel
theorem dL_law_522 : decode cL_law 522 = .ok (.iadd, 1) := by decide +kernel
theorem dL_law_523 : decode cL_law 523 = .ok (.iaload, 1) := by decide +kernel
theorem dL_law_524 : decode cL_law 524 = .ok (.aload_n 0, 1) := by decide +kernel
theorem dL_law_525 : decode cL_law 525 = .ok (.iload_n 3, 1) := by decide +kernel
theorem dL_law_526 : decode cL_law 526 = .ok (.iconst 4, 1) := by decide +kernel
theorem dL_law_527 : decode cL_law 527 = .ok (.iadd, 1) := by decide +kernel
theorem dL_law_528 : decode cL_law 528 = .ok (.iaload, 1) := by decide +kernel
theorem dL_law_529 : decode cL_law 529 = .ok (.i2d, 1) := by decide +kernel
theorem dL_law_530 : decode cL_law 530 = .ok (.ldc2_w 21, 3) := by decide +kernel
theorem dL_law_533 : decode cL_law 533 = .ok (.dmul, 1) := by decide +kernel
theorem dL_law_534 : decode cL_law 534 = .ok (.invokevirtual 60, 3) := by decide +kernel
theorem dL_law_537 : decode cL_law 537 = .ok (.if_icmp .eq 303, 3) := by decide +kernel
theorem dL_law_540 : decode cL_law 540 = .ok (.iconst 0, 1) := by decide +kernel
theorem dL_law_541 : decode cL_law 541 = .ok (.ireturn, 1) := by decide +kernel
theorem dL_law_542 : decode cL_law 542 = .ok (.aload_n 1, 1) := by decide +kernel
theorem dL_law_543 : decode cL_law 543 = .ok (.aload_n 0, 1) := by decide +kernel
theorem dL_law_544 : decode cL_law 544 = .ok (.iload_n 3, 1) := by decide +kernel
theorem dL_law_545 : decode cL_law 545 = .ok (.iconst 1, 1) := by decide +kernel
theorem dL_law_546 : decode cL_law 546 = .ok (.iadd, 1) := by decide +kernel
theorem dL_law_547 : decode cL_law 547 = .ok (.iaload, 1) := by decide +kernel
theorem dL_law_548 : decode cL_law 548 = .ok (.invokevirtual 61, 3) := by decide +kernel
theorem dL_law_551 : decode cL_law 551 = .ok (.aload_n 2, 1) := by decide +kernel
theorem dL_law_552 : decode cL_law 552 = .ok (.aload_n 0, 1) := by decide +kernel
theorem dL_law_553 : decode cL_law 553 = .ok (.iload_n 3, 1) := by decide +kernel
theorem dL_law_554 : decode cL_law 554 = .ok (.iconst 1, 1) := by decide +kernel
theorem dL_law_555 : decode cL_law 555 = .ok (.iadd, 1) := by decide +kernel
theorem dL_law_556 : decode cL_law 556 = .ok (.iaload, 1) := by decide +kernel
theorem dL_law_557 : decode cL_law 557 = .ok (.invokevirtual 65, 3) := by decide +kernel
theorem dL_law_560 : decode cL_law 560 = .ok (.if_icmp .eq 280, 3) := by decide +kernel
theorem dL_law_563 : decode cL_law 563 = .ok (.iconst 0, 1) := by decide +kernel
theorem dL_law_564 : decode cL_law 564 = .ok (.ireturn, 1) := by decide +kernel
theorem dL_law_565 : decode cL_law 565 = .ok (.aload_n 1, 1) := by decide +kernel
theorem dL_law_566 : decode cL_law 566 = .ok (.aload_n 0, 1) := by decide +kernel
theorem dL_law_567 : decode cL_law 567 = .ok (.iload_n 3, 1) := by decide +kernel
theorem dL_law_568 : decode cL_law 568 = .ok (.iconst 1, 1) := by decide +kernel
theorem dL_law_569 : decode cL_law 569 = .ok (.iadd, 1) := by decide +kernel
theorem dL_law_570 : decode cL_law 570 = .ok (.iaload, 1) := by decide +kernel
theorem dL_law_571 : decode cL_law 571 = .ok (.aload_n 0, 1) := by decide +kernel
theorem dL_law_572 : decode cL_law 572 = .ok (.iload_n 3, 1) := by decide +kernel
theorem dL_law_573 : decode cL_law 573 = .ok (.iconst 2, 1) := by decide +kernel
theorem dL_law_574 : decode cL_law 574 = .ok (.iadd, 1) := by decide +kernel
theorem dL_law_575 : decode cL_law 575 = .ok (.iaload, 1) := by decide +kernel
theorem dL_law_576 : decode cL_law 576 = .ok (.invokevirtual 66, 3) := by decide +kernel
theorem dL_law_579 : decode cL_law 579 = .ok (.aload_n 2, 1) := by decide +kernel
theorem dL_law_580 : decode cL_law 580 = .ok (.aload_n 0, 1) := by decide +kernel
theorem dL_law_581 : decode cL_law 581 = .ok (.iload_n 3, 1) := by decide +kernel
theorem dL_law_582 : decode cL_law 582 = .ok (.iconst 1, 1) := by decide +kernel
theorem dL_law_583 : decode cL_law 583 = .ok (.iadd, 1) := by decide +kernel
theorem dL_law_584 : decode cL_law 584 = .ok (.iaload, 1) := by decide +kernel
theorem dL_law_585 : decode cL_law 585 = .ok (.aload_n 0, 1) := by decide +kernel
theorem dL_law_586 : decode cL_law 586 = .ok (.iload_n 3, 1) := by decide +kernel
theorem dL_law_587 : decode cL_law 587 = .ok (.iconst 2, 1) := by decide +kernel
theorem dL_law_588 : decode cL_law 588 = .ok (.iadd, 1) := by decide +kernel
theorem dL_law_589 : decode cL_law 589 = .ok (.iaload, 1) := by decide +kernel
theorem dL_law_590 : decode cL_law 590 = .ok (.invokevirtual 70, 3) := by decide +kernel
theorem dL_law_593 : decode cL_law 593 = .ok (.if_icmp .eq 247, 3) := by decide +kernel
theorem dL_law_596 : decode cL_law 596 = .ok (.iconst 0, 1) := by decide +kernel
theorem dL_law_597 : decode cL_law 597 = .ok (.ireturn, 1) := by decide +kernel
theorem dL_law_598 : decode cL_law 598 = .ok (.aload_n 1, 1) := by decide +kernel
theorem dL_law_599 : decode cL_law 599 = .ok (.aload_n 0, 1) := by decide +kernel
theorem dL_law_600 : decode cL_law 600 = .ok (.iload_n 3, 1) := by decide +kernel
theorem dL_law_601 : decode cL_law 601 = .ok (.iconst 1, 1) := by decide +kernel
theorem dL_law_602 : decode cL_law 602 = .ok (.iadd, 1) := by decide +kernel
theorem dL_law_603 : decode cL_law 603 = .ok (.iaload, 1) := by decide +kernel
theorem dL_law_604 : decode cL_law 604 = .ok (.aload_n 0, 1) := by decide +kernel
theorem dL_law_605 : decode cL_law 605 = .ok (.iload_n 3, 1) := by decide +kernel
theorem dL_law_606 : decode cL_law 606 = .ok (.iconst 2, 1) := by decide +kernel
theorem dL_law_607 : decode cL_law 607 = .ok (.iadd, 1) := by decide +kernel
theorem dL_law_608 : decode cL_law 608 = .ok (.iaload, 1) := by decide +kernel
theorem dL_law_609 : decode cL_law 609 = .ok (.invokevirtual 71, 3) := by decide +kernel
theorem dL_law_612 : decode cL_law 612 = .ok (.aload_n 2, 1) := by decide +kernel
theorem dL_law_613 : decode cL_law 613 = .ok (.aload_n 0, 1) := by decide +kernel
theorem dL_law_614 : decode cL_law 614 = .ok (.iload_n 3, 1) := by decide +kernel
theorem dL_law_615 : decode cL_law 615 = .ok (.iconst 1, 1) := by decide +kernel
theorem dL_law_616 : decode cL_law 616 = .ok (.iadd, 1) := by decide +kernel
theorem dL_law_617 : decode cL_law 617 = .ok (.iaload, 1) := by decide +kernel
theorem dL_law_618 : decode cL_law 618 = .ok (.aload_n 0, 1) := by decide +kernel
theorem dL_law_619 : decode cL_law 619 = .ok (.iload_n 3, 1) := by decide +kernel
theorem dL_law_620 : decode cL_law 620 = .ok (.iconst 2, 1) := by decide +kernel
theorem dL_law_621 : decode cL_law 621 = .ok (.iadd, 1) := by decide +kernel
theorem dL_law_622 : decode cL_law 622 = .ok (.iaload, 1) := by decide +kernel
theorem dL_law_623 : decode cL_law 623 = .ok (.invokevirtual 75, 3) := by decide +kernel
theorem dL_law_626 : decode cL_law 626 = .ok (.lcmp, 1) := by decide +kernel
theorem dL_law_627 : decode cL_law 627 = .ok (.ifCond .eq 213, 3) := by decide +kernel
theorem dL_law_630 : decode cL_law 630 = .ok (.iconst 0, 1) := by decide +kernel
theorem dL_law_631 : decode cL_law 631 = .ok (.ireturn, 1) := by decide +kernel
theorem dL_law_632 : decode cL_law 632 = .ok (.aload_n 1, 1) := by decide +kernel
theorem dL_law_633 : decode cL_law 633 = .ok (.invokevirtual 76, 3) := by decide +kernel
theorem dL_law_636 : decode cL_law 636 = .ok (.aload_n 2, 1) := by decide +kernel
theorem dL_law_637 : decode cL_law 637 = .ok (.invokevirtual 80, 3) := by decide +kernel
theorem dL_law_640 : decode cL_law 640 = .ok (.lcmp, 1) := by decide +kernel
theorem dL_law_641 : decode cL_law 641 = .ok (.ifCond .eq 199, 3) := by decide +kernel
theorem dL_law_644 : decode cL_law 644 = .ok (.iconst 0, 1) := by decide +kernel
theorem dL_law_645 : decode cL_law 645 = .ok (.ireturn, 1) := by decide +kernel
theorem dL_law_646 : decode cL_law 646 = .ok (.aload_n 1, 1) := by decide +kernel
theorem dL_law_647 : decode cL_law 647 = .ok (.aload_n 0, 1) := by decide +kernel
theorem dL_law_648 : decode cL_law 648 = .ok (.iload_n 3, 1) := by decide +kernel
theorem dL_law_649 : decode cL_law 649 = .ok (.iconst 1, 1) := by decide +kernel
theorem dL_law_650 : decode cL_law 650 = .ok (.iadd, 1) := by decide +kernel
theorem dL_law_651 : decode cL_law 651 = .ok (.iaload, 1) := by decide +kernel
theorem dL_law_652 : decode cL_law 652 = .ok (.aload_n 0, 1) := by decide +kernel
theorem dL_law_653 : decode cL_law 653 = .ok (.iload_n 3, 1) := by decide +kernel
theorem dL_law_654 : decode cL_law 654 = .ok (.iconst 2, 1) := by decide +kernel
theorem dL_law_655 : decode cL_law 655 = .ok (.iadd, 1) := by decide +kernel
theorem dL_law_656 : decode cL_law 656 = .ok (.iaload, 1) := by decide +kernel
theorem dL_law_657 : decode cL_law 657 = .ok (.invokevirtual 81, 3) := by decide +kernel
theorem dL_law_660 : decode cL_law 660 = .ok (.aload_n 2, 1) := by decide +kernel
theorem dL_law_661 : decode cL_law 661 = .ok (.aload_n 0, 1) := by decide +kernel
theorem dL_law_662 : decode cL_law 662 = .ok (.iload_n 3, 1) := by decide +kernel
theorem dL_law_663 : decode cL_law 663 = .ok (.iconst 1, 1) := by decide +kernel
theorem dL_law_664 : decode cL_law 664 = .ok (.iadd, 1) := by decide +kernel
theorem dL_law_665 : decode cL_law 665 = .ok (.iaload, 1) := by decide +kernel
theorem dL_law_666 : decode cL_law 666 = .ok (.aload_n 0, 1) := by decide +kernel
theorem dL_law_667 : decode cL_law 667 = .ok (.iload_n 3, 1) := by decide +kernel
theorem dL_law_668 : decode cL_law 668 = .ok (.iconst 2, 1) := by decide +kernel
theorem dL_law_669 : decode cL_law 669 = .ok (.iadd, 1) := by decide +kernel
theorem dL_law_670 : decode cL_law 670 = .ok (.iaload, 1) := by decide +kernel
theorem dL_law_671 : decode cL_law 671 = .ok (.invokevirtual 84, 3) := by decide +kernel
theorem dL_law_674 : decode cL_law 674 = .ok (.if_icmp .eq 166, 3) := by decide +kernel
theorem dL_law_677 : decode cL_law 677 = .ok (.iconst 0, 1) := by decide +kernel
theorem dL_law_678 : decode cL_law 678 = .ok (.ireturn, 1) := by decide +kernel
theorem dL_law_679 : decode cL_law 679 = .ok (.aload_n 1, 1) := by decide +kernel
theorem dL_law_680 : decode cL_law 680 = .ok (.aload_n 0, 1) := by decide +kernel
theorem dL_law_681 : decode cL_law 681 = .ok (.iload_n 3, 1) := by decide +kernel
theorem dL_law_682 : decode cL_law 682 = .ok (.iconst 1, 1) := by decide +kernel
theorem dL_law_683 : decode cL_law 683 = .ok (.iadd, 1) := by decide +kernel
theorem dL_law_684 : decode cL_law 684 = .ok (.iaload, 1) := by decide +kernel
theorem dL_law_685 : decode cL_law 685 = .ok (.invokevirtual 85, 3) := by decide +kernel
theorem dL_law_688 : decode cL_law 688 = .ok (.aload_n 2, 1) := by decide +kernel
theorem dL_law_689 : decode cL_law 689 = .ok (.aload_n 0, 1) := by decide +kernel
theorem dL_law_690 : decode cL_law 690 = .ok (.iload_n 3, 1) := by decide +kernel
theorem dL_law_691 : decode cL_law 691 = .ok (.iconst 1, 1) := by decide +kernel
theorem dL_law_692 : decode cL_law 692 = .ok (.iadd, 1) := by decide +kernel
theorem dL_law_693 : decode cL_law 693 = .ok (.iaload, 1) := by decide +kernel
theorem dL_law_694 : decode cL_law 694 = .ok (.invokevirtual 89, 3) := by decide +kernel
theorem dL_law_697 : decode cL_law 697 = .ok (.lcmp, 1) := by decide +kernel
theorem dL_law_698 : decode cL_law 698 = .ok (.ifCond .eq 142, 3) := by decide +kernel
theorem dL_law_701 : decode cL_law 701 = .ok (.iconst 0, 1) := by decide +kernel
theorem dL_law_702 : decode cL_law 702 = .ok (.ireturn, 1) := by decide +kernel
theorem dL_law_703 : decode cL_law 703 = .ok (.aload_n 1, 1) := by decide +kernel
theorem dL_law_704 : decode cL_law 704 = .ok (.aload_n 0, 1) := by decide +kernel
theorem dL_law_705 : decode cL_law 705 = .ok (.iload_n 3, 1) := by decide +kernel
theorem dL_law_706 : decode cL_law 706 = .ok (.iconst 1, 1) := by decide +kernel
theorem dL_law_707 : decode cL_law 707 = .ok (.iadd, 1) := by decide +kernel
theorem dL_law_708 : decode cL_law 708 = .ok (.iaload, 1) := by decide +kernel
theorem dL_law_709 : decode cL_law 709 = .ok (.aload_n 0, 1) := by decide +kernel
theorem dL_law_710 : decode cL_law 710 = .ok (.iload_n 3, 1) := by decide +kernel
theorem dL_law_711 : decode cL_law 711 = .ok (.iconst 2, 1) := by decide +kernel
theorem dL_law_712 : decode cL_law 712 = .ok (.iadd, 1) := by decide +kernel
theorem dL_law_713 : decode cL_law 713 = .ok (.iaload, 1) := by decide +kernel
theorem dL_law_714 : decode cL_law 714 = .ok (.aload_n 0, 1) := by decide +kernel
theorem dL_law_715 : decode cL_law 715 = .ok (.iload_n 3, 1) := by decide +kernel
theorem dL_law_716 : decode cL_law 716 = .ok (.iconst 3, 1) := by decide +kernel
theorem dL_law_717 : decode cL_law 717 = .ok (.iadd, 1) := by decide +kernel
theorem dL_law_718 : decode cL_law 718 = .ok (.iaload, 1) := by decide +kernel
theorem dL_law_719 : decode cL_law 719 = .ok (.invokevirtual 90, 3) := by decide +kernel
theorem dL_law_722 : decode cL_law 722 = .ok (.dstore 4, 2) := by decide +kernel
theorem dL_law_724 : decode cL_law 724 = .ok (.aload_n 2, 1) := by decide +kernel
theorem dL_law_725 : decode cL_law 725 = .ok (.aload_n 0, 1) := by decide +kernel
theorem dL_law_726 : decode cL_law 726 = .ok (.iload_n 3, 1) := by decide +kernel
theorem dL_law_727 : decode cL_law 727 = .ok (.iconst 1, 1) := by decide +kernel
theorem dL_law_728 : decode cL_law 728 = .ok (.iadd, 1) := by decide +kernel
theorem dL_law_729 : decode cL_law 729 = .ok (.iaload, 1) := by decide +kernel
theorem dL_law_730 : decode cL_law 730 = .ok (.aload_n 0, 1) := by decide +kernel
theorem dL_law_731 : decode cL_law 731 = .ok (.iload_n 3, 1) := by decide +kernel
theorem dL_law_732 : decode cL_law 732 = .ok (.iconst 2, 1) := by decide +kernel
theorem dL_law_733 : decode cL_law 733 = .ok (.iadd, 1) := by decide +kernel
theorem dL_law_734 : decode cL_law 734 = .ok (.iaload, 1) := by decide +kernel
theorem dL_law_735 : decode cL_law 735 = .ok (.aload_n 0, 1) := by decide +kernel
theorem dL_law_736 : decode cL_law 736 = .ok (.iload_n 3, 1) := by decide +kernel
theorem dL_law_737 : decode cL_law 737 = .ok (.iconst 3, 1) := by decide +kernel
theorem dL_law_738 : decode cL_law 738 = .ok (.iadd, 1) := by decide +kernel
theorem dL_law_739 : decode cL_law 739 = .ok (.iaload, 1) := by decide +kernel
theorem dL_law_740 : decode cL_law 740 = .ok (.invokevirtual 94, 3) := by decide +kernel
theorem dL_law_743 : decode cL_law 743 = .ok (.dstore 6, 2) := by decide +kernel
theorem dL_law_745 : decode cL_law 745 = .ok (.dload 4, 2) := by decide +kernel
theorem dL_law_747 : decode cL_law 747 = .ok (.dload 6, 2) := by decide +kernel
theorem dL_law_749 : decode cL_law 749 = .ok (.dcmp .l, 1) := by decide +kernel
theorem dL_law_750 : decode cL_law 750 = .ok (.ifCond .eq 21, 3) := by decide +kernel
theorem dL_law_753 : decode cL_law 753 = .ok (.dload 4, 2) := by decide +kernel
theorem dL_law_755 : decode cL_law 755 = .ok (.dload 4, 2) := by decide +kernel
theorem dL_law_757 : decode cL_law 757 = .ok (.dcmp .l, 1) := by decide +kernel
theorem dL_law_758 : decode cL_law 758 = .ok (.ifCond .eq 11, 3) := by decide +kernel
theorem dL_law_761 : decode cL_law 761 = .ok (.dload 6, 2) := by decide +kernel
theorem dL_law_763 : decode cL_law 763 = .ok (.dload 6, 2) := by decide +kernel
theorem dL_law_765 : decode cL_law 765 = .ok (.dcmp .l, 1) := by decide +kernel
theorem dL_law_766 : decode cL_law 766 = .ok (.ifCond .ne 5, 3) := by decide +kernel
theorem dL_law_769 : decode cL_law 769 = .ok (.iconst 0, 1) := by decide +kernel
theorem dL_law_770 : decode cL_law 770 = .ok (.ireturn, 1) := by decide +kernel
theorem dL_law_771 : decode cL_law 771 = .ok (.goto 69, 3) := by decide +kernel
theorem dL_law_774 : decode cL_law 774 = .ok (.aload_n 1, 1) := by decide +kernel
theorem dL_law_775 : decode cL_law 775 = .ok (.invokevirtual 95, 3) := by decide +kernel
theorem dL_law_778 : decode cL_law 778 = .ok (.aload_n 2, 1) := by decide +kernel
theorem dL_law_779 : decode cL_law 779 = .ok (.invokevirtual 99, 3) := by decide +kernel
theorem dL_law_782 : decode cL_law 782 = .ok (.if_icmp .eq 58, 3) := by decide +kernel
theorem dL_law_785 : decode cL_law 785 = .ok (.iconst 0, 1) := by decide +kernel
theorem dL_law_786 : decode cL_law 786 = .ok (.ireturn, 1) := by decide +kernel
theorem dL_law_787 : decode cL_law 787 = .ok (.aload_n 1, 1) := by decide +kernel
theorem dL_law_788 : decode cL_law 788 = .ok (.aload_n 0, 1) := by decide +kernel
theorem dL_law_789 : decode cL_law 789 = .ok (.iload_n 3, 1) := by decide +kernel
theorem dL_law_790 : decode cL_law 790 = .ok (.iconst 1, 1) := by decide +kernel
theorem dL_law_791 : decode cL_law 791 = .ok (.iadd, 1) := by decide +kernel
theorem dL_law_792 : decode cL_law 792 = .ok (.iaload, 1) := by decide +kernel
theorem dL_law_793 : decode cL_law 793 = .ok (.i2l, 1) := by decide +kernel
theorem dL_law_794 : decode cL_law 794 = .ok (.bipush 32, 2) := by decide +kernel
theorem dL_law_796 : decode cL_law 796 = .ok (.lshl, 1) := by decide +kernel
theorem dL_law_797 : decode cL_law 797 = .ok (.aload_n 0, 1) := by decide +kernel
theorem dL_law_798 : decode cL_law 798 = .ok (.iload_n 3, 1) := by decide +kernel
theorem dL_law_799 : decode cL_law 799 = .ok (.iconst 2, 1) := by decide +kernel
theorem dL_law_800 : decode cL_law 800 = .ok (.iadd, 1) := by decide +kernel
theorem dL_law_801 : decode cL_law 801 = .ok (.iaload, 1) := by decide +kernel
theorem dL_law_802 : decode cL_law 802 = .ok (.i2l, 1) := by decide +kernel
theorem dL_law_803 : decode cL_law 803 = .ok (.ldc2_w 100, 3) := by decide +kernel
theorem dL_law_806 : decode cL_law 806 = .ok (.land, 1) := by decide +kernel
theorem dL_law_807 : decode cL_law 807 = .ok (.lor, 1) := by decide +kernel
theorem dL_law_808 : decode cL_law 808 = .ok (.invokevirtual 102, 3) := by decide +kernel
theorem dL_law_811 : decode cL_law 811 = .ok (.aload_n 2, 1) := by decide +kernel
theorem dL_law_812 : decode cL_law 812 = .ok (.aload_n 0, 1) := by decide +kernel
theorem dL_law_813 : decode cL_law 813 = .ok (.iload_n 3, 1) := by decide +kernel
theorem dL_law_814 : decode cL_law 814 = .ok (.iconst 1, 1) := by decide +kernel
theorem dL_law_815 : decode cL_law 815 = .ok (.iadd, 1) := by decide +kernel
theorem dL_law_816 : decode cL_law 816 = .ok (.iaload, 1) := by decide +kernel
theorem dL_law_817 : decode cL_law 817 = .ok (.i2l, 1) := by decide +kernel
theorem dL_law_818 : decode cL_law 818 = .ok (.bipush 32, 2) := by decide +kernel
theorem dL_law_820 : decode cL_law 820 = .ok (.lshl, 1) := by decide +kernel
theorem dL_law_821 : decode cL_law 821 = .ok (.aload_n 0, 1) := by decide +kernel
theorem dL_law_822 : decode cL_law 822 = .ok (.iload_n 3, 1) := by decide +kernel
theorem dL_law_823 : decode cL_law 823 = .ok (.iconst 2, 1) := by decide +kernel
theorem dL_law_824 : decode cL_law 824 = .ok (.iadd, 1) := by decide +kernel
theorem dL_law_825 : decode cL_law 825 = .ok (.iaload, 1) := by decide +kernel
theorem dL_law_826 : decode cL_law 826 = .ok (.i2l, 1) := by decide +kernel
theorem dL_law_827 : decode cL_law 827 = .ok (.ldc2_w 100, 3) := by decide +kernel
theorem dL_law_830 : decode cL_law 830 = .ok (.land, 1) := by decide +kernel
theorem dL_law_831 : decode cL_law 831 = .ok (.lor, 1) := by decide +kernel
theorem dL_law_832 : decode cL_law 832 = .ok (.invokevirtual 106, 3) := by decide +kernel
theorem dL_law_835 : decode cL_law 835 = .ok (.if_icmp .eq 5, 3) := by decide +kernel
theorem dL_law_838 : decode cL_law 838 = .ok (.iconst 0, 1) := by decide +kernel
theorem dL_law_839 : decode cL_law 839 = .ok (.ireturn, 1) := by decide +kernel
theorem dL_law_840 : decode cL_law 840 = .ok (.iinc 3 5, 3) := by decide +kernel
theorem dL_law_843 : decode cL_law 843 = .ok (.goto (-813), 3) := by decide +kernel
theorem dL_law_846 : decode cL_law 846 = .ok (.iconst 1, 1) := by decide +kernel
theorem dL_law_847 : decode cL_law 847 = .ok (.ireturn, 1) := by decide +kernel
end
section
def BIG : List Cond := lw_tbl.filter (fun w => k2_isCode w || goodWord w)
theorem big_in {w : Cond} {i : Nat} (h : tables_1[i]? = some w) (hg : (k2_isCode w || goodWord w) = true) : w ∈ BIG := List.mem_filter.mpr ⟨List.mem_append_right _ (List.mem_of_getElem? h), hg⟩
theorem big_pv {w : Cond} {i : Nat} (h : (k2_sels lw_privs)[i]? = some w) (hg : (k2_isCode w || goodWord w) = true) : w ∈ BIG := List.mem_filter.mpr ⟨List.mem_append_left _ (List.mem_of_getElem? h), hg⟩
theorem big_lw {w : Cond} (h : w ∈ BIG) : w ∈ lw_tbl := (List.mem_filter.mp h).1
theorem big_good : GoodIn BIG BIG := fun w h => ⟨h, by
  have h2 := (List.mem_filter.mp h).2
  rcases Bool.or_eq_true _ _ |>.mp h2 with h3 | h3
  · cases w <;> first | (simp [k2_isCode] at h3; done) | exact Or.inl rfl
  · exact good_of_word h3⟩
theorem mw_0 : (Jvm.Cond.initialized "SortLineEventsLaw") ∈ BIG := big_in (i := 0) (by decide +kernel) rfl
theorem mw_1 : (Jvm.Cond.initialized "SortLineEvents") ∈ BIG := big_in (i := 1) (by decide +kernel) rfl
theorem mw_2 : (Jvm.Cond.initialized "SortLineEvents$Log") ∈ BIG := big_in (i := 2) (by decide +kernel) rfl
theorem mw_3 : (Jvm.Cond.initialized "SortLineEvents$Tally") ∈ BIG := big_in (i := 3) (by decide +kernel) rfl
theorem mw_4 : (Jvm.Cond.initialized "SortLineEventsModel") ∈ BIG := big_in (i := 4) (by decide +kernel) rfl
theorem mw_5 : (Jvm.Cond.initialized "SortLineEvents$Belt") ∈ BIG := big_in (i := 5) (by decide +kernel) rfl
theorem mw_6 : (Jvm.Cond.initialized "SortLineEvents$Outs") ∈ BIG := big_in (i := 6) (by decide +kernel) rfl
theorem mw_7 : (Jvm.Cond.initialized "SortLineEvents$Head") ∈ BIG := big_in (i := 7) (by decide +kernel) rfl
theorem mw_8 : (Jvm.Cond.initialized "SortLineEvents$Bunker") ∈ BIG := big_in (i := 8) (by decide +kernel) rfl
theorem mw_9 : (Jvm.Cond.initialized "SortLineEvents$Picker") ∈ BIG := big_in (i := 9) (by decide +kernel) rfl
theorem mw_10 : (Jvm.Cond.initialized "SortLineEvents$Robot") ∈ BIG := big_in (i := 10) (by decide +kernel) rfl
theorem mw_11 : (Jvm.Cond.initialized "SortLineEvents$Piece") ∈ BIG := big_in (i := 11) (by decide +kernel) rfl
theorem mw_12 : (Jvm.Cond.initialized "java/lang/Math") ∈ BIG := big_in (i := 12) (by decide +kernel) rfl
theorem mw_13 : (Jvm.Cond.classLink "SortLineEventsLaw" (7 : Nat) "SortLineEvents") ∈ BIG := big_in (i := 13) (by decide +kernel) rfl
theorem mw_14 : (Jvm.Cond.instantiable "SortLineEvents" (17 : Nat)) ∈ BIG := big_in (i := 14) (by decide +kernel) rfl
theorem mw_15 : (Jvm.Cond.methodLink "SortLineEventsLaw" (15 : Nat) ({ cls := "SortLineEvents", name := "<init>", desc := "(J)V" } : Jvm.MethodName)) ∈ BIG := big_in (i := 15) (by decide +kernel) rfl
theorem mw_16 : (Jvm.Cond.instanceMethod ({ cls := "SortLineEvents", name := "<init>", desc := "(J)V" } : Jvm.MethodName)) ∈ BIG := big_in (i := 16) (by decide +kernel) rfl
set_option maxRecDepth 100000 in
theorem mw_17 : (Jvm.Cond.code ({ cls := "SortLineEvents", name := "<init>", desc := "(J)V" } : Jvm.MethodName) prog_1_method_1_code (3 : Nat) (Option.none : Option Jvm.ClassFile.FieldType)) ∈ BIG := big_in (i := 17) rfl rfl
theorem mw_18 : (Jvm.Cond.methodLink "SortLineEvents" (1 : Nat) ({ cls := "java/lang/Object", name := "<init>", desc := "()V" } : Jvm.MethodName)) ∈ BIG := big_in (i := 18) (by decide +kernel) rfl
theorem mw_19 : (Jvm.Cond.instanceMethod ({ cls := "java/lang/Object", name := "<init>", desc := "()V" } : Jvm.MethodName)) ∈ BIG := big_in (i := 19) (by decide +kernel) rfl
set_option maxRecDepth 100000 in
theorem mw_20 : (Jvm.Cond.code ({ cls := "java/lang/Object", name := "<init>", desc := "()V" } : Jvm.MethodName) object_method_1_code (1 : Nat) (Option.none : Option Jvm.ClassFile.FieldType)) ∈ BIG := big_in (i := 20) rfl rfl
theorem mw_21 : (Jvm.Cond.classLink "SortLineEvents" (9 : Nat) "SortLineEvents$Belt") ∈ BIG := big_in (i := 21) (by decide +kernel) rfl
theorem mw_23 : (Jvm.Cond.classLink "SortLineEvents" (15 : Nat) "SortLineEvents$Head") ∈ BIG := big_in (i := 23) (by decide +kernel) rfl
theorem mw_25 : (Jvm.Cond.classLink "SortLineEvents" (21 : Nat) "SortLineEvents$Bunker") ∈ BIG := big_in (i := 25) (by decide +kernel) rfl
theorem mw_27 : (Jvm.Cond.classLink "SortLineEvents" (27 : Nat) "SortLineEvents$Picker") ∈ BIG := big_in (i := 27) (by decide +kernel) rfl
theorem mw_29 : (Jvm.Cond.classLink "SortLineEvents" (33 : Nat) "SortLineEvents$Robot") ∈ BIG := big_in (i := 29) (by decide +kernel) rfl
theorem mw_31 : (Jvm.Cond.classLink "SortLineEvents" (39 : Nat) "SortLineEvents$Piece") ∈ BIG := big_in (i := 31) (by decide +kernel) rfl
theorem mw_33 : (Jvm.Cond.classLink "SortLineEvents" (45 : Nat) "SortLineEvents$Log") ∈ BIG := big_in (i := 33) (by decide +kernel) rfl
theorem mw_34 : (Jvm.Cond.instantiable "SortLineEvents$Log" (2 : Nat)) ∈ BIG := big_in (i := 34) (by decide +kernel) rfl
theorem mw_35 : (Jvm.Cond.methodLink "SortLineEvents" (47 : Nat) ({ cls := "SortLineEvents$Log", name := "<init>", desc := "(I)V" } : Jvm.MethodName)) ∈ BIG := big_in (i := 35) (by decide +kernel) rfl
theorem mw_36 : (Jvm.Cond.instanceMethod ({ cls := "SortLineEvents$Log", name := "<init>", desc := "(I)V" } : Jvm.MethodName)) ∈ BIG := big_in (i := 36) (by decide +kernel) rfl
set_option maxRecDepth 100000 in
theorem mw_37 : (Jvm.Cond.code ({ cls := "SortLineEvents$Log", name := "<init>", desc := "(I)V" } : Jvm.MethodName) prog_5_method_1_code (2 : Nat) (Option.none : Option Jvm.ClassFile.FieldType)) ∈ BIG := big_in (i := 37) rfl rfl
theorem mw_38 : (Jvm.Cond.methodLink "SortLineEvents$Log" (3 : Nat) ({ cls := "java/lang/Object", name := "<init>", desc := "()V" } : Jvm.MethodName)) ∈ BIG := big_in (i := 38) (by decide +kernel) rfl
theorem mw_39 : (Jvm.Cond.fieldLink "SortLineEvents$Log" (9 : Nat) "SortLineEvents$Log" "rows" "[I") ∈ BIG := big_in (i := 39) (by decide +kernel) rfl
theorem mw_40 : (Jvm.Cond.fieldLink "SortLineEvents$Log" (15 : Nat) "SortLineEvents$Log" "total" "I") ∈ BIG := big_in (i := 40) (by decide +kernel) rfl
theorem mw_41 : (Jvm.Cond.fieldLink "SortLineEvents" (171 : Nat) "SortLineEvents$Log" "total" "I") ∈ BIG := big_in (i := 41) (by decide +kernel) rfl
theorem mw_47 : (Jvm.Cond.arrayClass Jvm.ClassFile.FieldType.int) ∈ BIG := big_in (i := 47) (by decide +kernel) rfl
theorem mw_48 : (Jvm.Cond.classLink "SortLineEvents" (57 : Nat) "SortLineEvents$Tally") ∈ BIG := big_in (i := 48) (by decide +kernel) rfl
theorem mw_49 : (Jvm.Cond.instantiable "SortLineEvents$Tally" (4 : Nat)) ∈ BIG := big_in (i := 49) (by decide +kernel) rfl
theorem mw_51 : (Jvm.Cond.instanceMethod ({ cls := "SortLineEvents$Tally", name := "<init>", desc := "()V" } : Jvm.MethodName)) ∈ BIG := big_in (i := 51) (by decide +kernel) rfl
set_option maxRecDepth 100000 in
theorem mw_52 : (Jvm.Cond.code ({ cls := "SortLineEvents$Tally", name := "<init>", desc := "()V" } : Jvm.MethodName) prog_10_method_1_code (1 : Nat) (Option.none : Option Jvm.ClassFile.FieldType)) ∈ BIG := big_in (i := 52) rfl rfl
theorem mw_53 : (Jvm.Cond.methodLink "SortLineEvents$Tally" (3 : Nat) ({ cls := "java/lang/Object", name := "<init>", desc := "()V" } : Jvm.MethodName)) ∈ BIG := big_in (i := 53) (by decide +kernel) rfl
theorem mw_54 : (Jvm.Cond.fieldLink "SortLineEvents$Tally" (9 : Nat) "SortLineEvents$Tally" "losses" "[J") ∈ BIG := big_in (i := 54) (by decide +kernel) rfl
theorem mw_55 : (Jvm.Cond.fieldLink "SortLineEvents" (196 : Nat) "SortLineEvents$Tally" "losses" "[J") ∈ BIG := big_in (i := 55) (by decide +kernel) rfl
theorem mw_56 : (Jvm.Cond.fieldLink "SortLineEvents$Tally" (15 : Nat) "SortLineEvents$Tally" "inBunkers" "I") ∈ BIG := big_in (i := 56) (by decide +kernel) rfl
theorem mw_57 : (Jvm.Cond.fieldLink "SortLineEvents" (193 : Nat) "SortLineEvents$Tally" "inBunkers" "I") ∈ BIG := big_in (i := 57) (by decide +kernel) rfl
theorem mw_58 : (Jvm.Cond.fieldLink "SortLineEvents$Tally" (19 : Nat) "SortLineEvents$Tally" "wentOut" "I") ∈ BIG := big_in (i := 58) (by decide +kernel) rfl
theorem mw_59 : (Jvm.Cond.fieldLink "SortLineEvents" (296 : Nat) "SortLineEvents$Tally" "wentOut" "I") ∈ BIG := big_in (i := 59) (by decide +kernel) rfl
theorem mw_60 : (Jvm.Cond.fieldLink "SortLineEvents$Tally" (22 : Nat) "SortLineEvents$Tally" "taken" "I") ∈ BIG := big_in (i := 60) (by decide +kernel) rfl
theorem mw_61 : (Jvm.Cond.fieldLink "SortLineEvents" (289 : Nat) "SortLineEvents$Tally" "taken" "I") ∈ BIG := big_in (i := 61) (by decide +kernel) rfl
theorem mw_71 : (Jvm.Cond.arrayClass Jvm.ClassFile.FieldType.long) ∈ BIG := big_in (i := 71) (by decide +kernel) rfl
theorem mw_72 : (Jvm.Cond.fieldLink "SortLineEvents" (64 : Nat) "SortLineEvents" "seed" "J") ∈ BIG := big_in (i := 72) (by decide +kernel) rfl
theorem mw_73 : (Jvm.Cond.fieldLink "SortLineEvents" (11 : Nat) "SortLineEvents" "belts" "[LSortLineEvents$Belt;") ∈ BIG := big_in (i := 73) (by decide +kernel) rfl
theorem mw_74 : (Jvm.Cond.fieldLink "SortLineEvents" (17 : Nat) "SortLineEvents" "heads" "[LSortLineEvents$Head;") ∈ BIG := big_in (i := 74) (by decide +kernel) rfl
theorem mw_75 : (Jvm.Cond.fieldLink "SortLineEvents" (23 : Nat) "SortLineEvents" "bunkers" "[LSortLineEvents$Bunker;") ∈ BIG := big_in (i := 75) (by decide +kernel) rfl
theorem mw_76 : (Jvm.Cond.fieldLink "SortLineEvents" (29 : Nat) "SortLineEvents" "pickers" "[LSortLineEvents$Picker;") ∈ BIG := big_in (i := 76) (by decide +kernel) rfl
theorem mw_77 : (Jvm.Cond.fieldLink "SortLineEvents" (35 : Nat) "SortLineEvents" "robots" "[LSortLineEvents$Robot;") ∈ BIG := big_in (i := 77) (by decide +kernel) rfl
theorem mw_78 : (Jvm.Cond.fieldLink "SortLineEvents" (41 : Nat) "SortLineEvents" "pieces" "[LSortLineEvents$Piece;") ∈ BIG := big_in (i := 78) (by decide +kernel) rfl
theorem mw_79 : (Jvm.Cond.fieldLink "SortLineEvents" (50 : Nat) "SortLineEvents" "events" "LSortLineEvents$Log;") ∈ BIG := big_in (i := 79) (by decide +kernel) rfl
theorem mw_80 : (Jvm.Cond.fieldLink "SortLineEvents" (54 : Nat) "SortLineEvents" "jams" "LSortLineEvents$Log;") ∈ BIG := big_in (i := 80) (by decide +kernel) rfl
theorem mw_81 : (Jvm.Cond.fieldLink "SortLineEvents" (60 : Nat) "SortLineEvents" "tally" "LSortLineEvents$Tally;") ∈ BIG := big_in (i := 81) (by decide +kernel) rfl
theorem mw_82 : (Jvm.Cond.fieldLink "SortLineEvents" (72 : Nat) "SortLineEvents" "beltCount" "I") ∈ BIG := big_in (i := 82) (by decide +kernel) rfl
theorem mw_83 : (Jvm.Cond.fieldLink "SortLineEvents" (91 : Nat) "SortLineEvents" "headCount" "I") ∈ BIG := big_in (i := 83) (by decide +kernel) rfl
theorem mw_84 : (Jvm.Cond.fieldLink "SortLineEvents" (105 : Nat) "SortLineEvents" "bunkerCount" "I") ∈ BIG := big_in (i := 84) (by decide +kernel) rfl
theorem mw_85 : (Jvm.Cond.fieldLink "SortLineEvents" (135 : Nat) "SortLineEvents" "pickerCount" "I") ∈ BIG := big_in (i := 85) (by decide +kernel) rfl
theorem mw_86 : (Jvm.Cond.fieldLink "SortLineEvents" (147 : Nat) "SortLineEvents" "robotCount" "I") ∈ BIG := big_in (i := 86) (by decide +kernel) rfl
theorem mw_87 : (Jvm.Cond.fieldLink "SortLineEvents" (151 : Nat) "SortLineEvents" "pieceCount" "I") ∈ BIG := big_in (i := 87) (by decide +kernel) rfl
theorem mw_88 : (Jvm.Cond.fieldLink "SortLineEvents" (158 : Nat) "SortLineEvents" "now" "I") ∈ BIG := big_in (i := 88) (by decide +kernel) rfl
theorem mw_124 : (Jvm.Cond.methodLink "SortLineEventsLaw" (23 : Nat) ({ cls := "SortLineEvents", name := "belt", desc := "(ID)I" } : Jvm.MethodName)) ∈ BIG := big_in (i := 124) (by decide +kernel) rfl
theorem mw_125 : (Jvm.Cond.instanceMethod ({ cls := "SortLineEvents", name := "belt", desc := "(ID)I" } : Jvm.MethodName)) ∈ BIG := big_in (i := 125) (by decide +kernel) rfl
theorem mw_126 : (Jvm.Cond.selects "SortLineEvents" ({ cls := "SortLineEvents", name := "belt", desc := "(ID)I" } : Jvm.MethodName) ({ cls := "SortLineEvents", name := "belt", desc := "(ID)I" } : Jvm.MethodName)) ∈ BIG := big_in (i := 126) (by decide +kernel) rfl
set_option maxRecDepth 100000 in
theorem mw_127 : (Jvm.Cond.code ({ cls := "SortLineEvents", name := "belt", desc := "(ID)I" } : Jvm.MethodName) prog_1_method_2_code (5 : Nat) (Option.some Jvm.ClassFile.FieldType.int)) ∈ BIG := big_in (i := 127) rfl rfl
theorem mw_128 : (Jvm.Cond.methodLink "SortLineEvents" (68 : Nat) ({ cls := "SortLineEvents", name := "isClosed", desc := "()Z" } : Jvm.MethodName)) ∈ BIG := big_in (i := 128) (by decide +kernel) rfl
theorem mw_130 : (Jvm.Cond.instanceMethod ({ cls := "SortLineEvents", name := "isClosed", desc := "()Z" } : Jvm.MethodName)) ∈ BIG := big_in (i := 130) (by decide +kernel) rfl
set_option maxRecDepth 100000 in
theorem mw_131 : (Jvm.Cond.code ({ cls := "SortLineEvents", name := "isClosed", desc := "()Z" } : Jvm.MethodName) prog_1_method_19_code (1 : Nat) (Option.some Jvm.ClassFile.FieldType.boolean)) ∈ BIG := big_in (i := 131) rfl rfl
theorem mw_132 : (Jvm.Cond.constantDouble "SortLineEvents" (76 : Nat) (4652007308841189376 : UInt64)) ∈ BIG := big_in (i := 132) (by decide +kernel) rfl
theorem mw_133 : (Jvm.Cond.methodLink "SortLineEvents" (78 : Nat) ({ cls := "SortLineEvents", name := "within", desc := "(DDD)Z" } : Jvm.MethodName)) ∈ BIG := big_in (i := 133) (by decide +kernel) rfl
theorem mw_134 : (Jvm.Cond.static ({ cls := "SortLineEvents", name := "within", desc := "(DDD)Z" } : Jvm.MethodName)) ∈ BIG := big_in (i := 134) (by decide +kernel) rfl
set_option maxRecDepth 100000 in
theorem mw_135 : (Jvm.Cond.code ({ cls := "SortLineEvents", name := "within", desc := "(DDD)Z" } : Jvm.MethodName) prog_1_method_20_code (6 : Nat) (Option.some Jvm.ClassFile.FieldType.boolean)) ∈ BIG := big_in (i := 135) rfl rfl
theorem mw_136 : (Jvm.Cond.constantDouble "SortLineEvents" (82 : Nat) (4602678819172646912 : UInt64)) ∈ BIG := big_in (i := 136) (by decide +kernel) rfl
theorem mw_137 : (Jvm.Cond.instantiable "SortLineEvents$Belt" (10 : Nat)) ∈ BIG := big_in (i := 137) (by decide +kernel) rfl
theorem mw_138 : (Jvm.Cond.methodLink "SortLineEvents" (84 : Nat) ({ cls := "SortLineEvents$Belt", name := "<init>", desc := "(IID)V" } : Jvm.MethodName)) ∈ BIG := big_in (i := 138) (by decide +kernel) rfl
theorem mw_139 : (Jvm.Cond.instanceMethod ({ cls := "SortLineEvents$Belt", name := "<init>", desc := "(IID)V" } : Jvm.MethodName)) ∈ BIG := big_in (i := 139) (by decide +kernel) rfl
set_option maxRecDepth 100000 in
theorem mw_140 : (Jvm.Cond.code ({ cls := "SortLineEvents$Belt", name := "<init>", desc := "(IID)V" } : Jvm.MethodName) prog_2_method_1_code (6 : Nat) (Option.none : Option Jvm.ClassFile.FieldType)) ∈ BIG := big_in (i := 140) rfl rfl
theorem mw_141 : (Jvm.Cond.methodLink "SortLineEvents$Belt" (3 : Nat) ({ cls := "java/lang/Object", name := "<init>", desc := "()V" } : Jvm.MethodName)) ∈ BIG := big_in (i := 141) (by decide +kernel) rfl
theorem mw_142 : (Jvm.Cond.classLink "SortLineEvents$Belt" (9 : Nat) "SortLineEvents$Outs") ∈ BIG := big_in (i := 142) (by decide +kernel) rfl
theorem mw_144 : (Jvm.Cond.instantiable "SortLineEvents$Outs" (4 : Nat)) ∈ BIG := big_in (i := 144) (by decide +kernel) rfl
theorem mw_146 : (Jvm.Cond.instanceMethod ({ cls := "SortLineEvents$Outs", name := "<init>", desc := "()V" } : Jvm.MethodName)) ∈ BIG := big_in (i := 146) (by decide +kernel) rfl
set_option maxRecDepth 100000 in
theorem mw_147 : (Jvm.Cond.code ({ cls := "SortLineEvents$Outs", name := "<init>", desc := "()V" } : Jvm.MethodName) prog_6_method_1_code (1 : Nat) (Option.none : Option Jvm.ClassFile.FieldType)) ∈ BIG := big_in (i := 147) rfl rfl
theorem mw_148 : (Jvm.Cond.methodLink "SortLineEvents$Outs" (1 : Nat) ({ cls := "java/lang/Object", name := "<init>", desc := "()V" } : Jvm.MethodName)) ∈ BIG := big_in (i := 148) (by decide +kernel) rfl
theorem mw_149 : (Jvm.Cond.fieldLink "SortLineEvents$Outs" (13 : Nat) "SortLineEvents$Outs" "count" "I") ∈ BIG := big_in (i := 149) (by decide +kernel) rfl
theorem mw_150 : (Jvm.Cond.fieldLink "SortLineEvents" (184 : Nat) "SortLineEvents$Outs" "count" "I") ∈ BIG := big_in (i := 150) (by decide +kernel) rfl
theorem mw_151 : (Jvm.Cond.fieldLink "SortLineEvents$Outs" (7 : Nat) "SortLineEvents$Outs" "lastTime" "I") ∈ BIG := big_in (i := 151) (by decide +kernel) rfl
theorem mw_152 : (Jvm.Cond.fieldLink "SortLineEvents$Outs" (16 : Nat) "SortLineEvents$Outs" "leastGap" "I") ∈ BIG := big_in (i := 152) (by decide +kernel) rfl
theorem mw_153 : (Jvm.Cond.fieldLink "SortLineEvents" (202 : Nat) "SortLineEvents$Outs" "leastGap" "I") ∈ BIG := big_in (i := 153) (by decide +kernel) rfl
theorem mw_154 : (Jvm.Cond.fieldLink "SortLineEvents$Outs" (19 : Nat) "SortLineEvents$Outs" "greatestGap" "I") ∈ BIG := big_in (i := 154) (by decide +kernel) rfl
theorem mw_155 : (Jvm.Cond.fieldLink "SortLineEvents" (205 : Nat) "SortLineEvents$Outs" "greatestGap" "I") ∈ BIG := big_in (i := 155) (by decide +kernel) rfl
theorem mw_165 : (Jvm.Cond.fieldLink "SortLineEvents$Belt" (17 : Nat) "SortLineEvents$Belt" "number" "I") ∈ BIG := big_in (i := 165) (by decide +kernel) rfl
theorem mw_166 : (Jvm.Cond.fieldLink "SortLineEvents" (255 : Nat) "SortLineEvents$Belt" "number" "I") ∈ BIG := big_in (i := 166) (by decide +kernel) rfl
theorem mw_167 : (Jvm.Cond.fieldLink "SortLineEvents$Belt" (21 : Nat) "SortLineEvents$Belt" "tenths" "I") ∈ BIG := big_in (i := 167) (by decide +kernel) rfl
theorem mw_168 : (Jvm.Cond.fieldLink "SortLineEvents" (243 : Nat) "SortLineEvents$Belt" "tenths" "I") ∈ BIG := big_in (i := 168) (by decide +kernel) rfl
theorem mw_169 : (Jvm.Cond.fieldLink "SortLineEvents$Belt" (24 : Nat) "SortLineEvents$Belt" "length" "D") ∈ BIG := big_in (i := 169) (by decide +kernel) rfl
theorem mw_170 : (Jvm.Cond.fieldLink "SortLineEvents" (94 : Nat) "SortLineEvents$Belt" "length" "D") ∈ BIG := big_in (i := 170) (by decide +kernel) rfl
theorem mw_171 : (Jvm.Cond.fieldLink "SortLineEvents$Belt" (11 : Nat) "SortLineEvents$Belt" "outs" "[LSortLineEvents$Outs;") ∈ BIG := big_in (i := 171) (by decide +kernel) rfl
theorem mw_172 : (Jvm.Cond.fieldLink "SortLineEvents" (180 : Nat) "SortLineEvents$Belt" "outs" "[LSortLineEvents$Outs;") ∈ BIG := big_in (i := 172) (by decide +kernel) rfl
theorem mw_173 : (Jvm.Cond.fieldLink "SortLineEvents" (117 : Nat) "SortLineEvents$Belt" "nextBelt" "LSortLineEvents$Belt;") ∈ BIG := big_in (i := 173) (by decide +kernel) rfl
theorem mw_174 : (Jvm.Cond.fieldLink "SortLineEvents" (121 : Nat) "SortLineEvents$Belt" "nextBunker" "LSortLineEvents$Bunker;") ∈ BIG := big_in (i := 174) (by decide +kernel) rfl
theorem mw_175 : (Jvm.Cond.fieldLink "SortLineEvents" (125 : Nat) "SortLineEvents$Belt" "hasRule" "Z") ∈ BIG := big_in (i := 175) (by decide +kernel) rfl
theorem mw_176 : (Jvm.Cond.fieldLink "SortLineEvents" (129 : Nat) "SortLineEvents$Belt" "load" "D") ∈ BIG := big_in (i := 176) (by decide +kernel) rfl
theorem mw_177 : (Jvm.Cond.fieldLink "SortLineEvents" (132 : Nat) "SortLineEvents$Belt" "stands" "I") ∈ BIG := big_in (i := 177) (by decide +kernel) rfl
theorem mw_178 : (Jvm.Cond.fieldLink "SortLineEvents$Belt" (29 : Nat) "SortLineEvents$Belt" "standsUntil" "I") ∈ BIG := big_in (i := 178) (by decide +kernel) rfl
theorem mw_179 : (Jvm.Cond.fieldLink "SortLineEvents" (270 : Nat) "SortLineEvents$Belt" "standsUntil" "I") ∈ BIG := big_in (i := 179) (by decide +kernel) rfl
theorem mw_201 : (Jvm.Cond.methodLink "SortLineEventsLaw" (28 : Nat) ({ cls := "SortLineEvents", name := "head", desc := "(IDD)I" } : Jvm.MethodName)) ∈ BIG := big_in (i := 201) (by decide +kernel) rfl
theorem mw_202 : (Jvm.Cond.instanceMethod ({ cls := "SortLineEvents", name := "head", desc := "(IDD)I" } : Jvm.MethodName)) ∈ BIG := big_in (i := 202) (by decide +kernel) rfl
theorem mw_203 : (Jvm.Cond.selects "SortLineEvents" ({ cls := "SortLineEvents", name := "head", desc := "(IDD)I" } : Jvm.MethodName) ({ cls := "SortLineEvents", name := "head", desc := "(IDD)I" } : Jvm.MethodName)) ∈ BIG := big_in (i := 203) (by decide +kernel) rfl
set_option maxRecDepth 100000 in
theorem mw_204 : (Jvm.Cond.code ({ cls := "SortLineEvents", name := "head", desc := "(IDD)I" } : Jvm.MethodName) prog_1_method_3_code (8 : Nat) (Option.some Jvm.ClassFile.FieldType.int)) ∈ BIG := big_in (i := 204) rfl rfl
theorem mw_205 : (Jvm.Cond.methodLink "SortLineEvents" (87 : Nat) ({ cls := "SortLineEvents", name := "beltNumbered", desc := "(I)LSortLineEvents$Belt;" } : Jvm.MethodName)) ∈ BIG := big_in (i := 205) (by decide +kernel) rfl
theorem mw_207 : (Jvm.Cond.instanceMethod ({ cls := "SortLineEvents", name := "beltNumbered", desc := "(I)LSortLineEvents$Belt;" } : Jvm.MethodName)) ∈ BIG := big_in (i := 207) (by decide +kernel) rfl
set_option maxRecDepth 100000 in
theorem mw_208 : (Jvm.Cond.code ({ cls := "SortLineEvents", name := "beltNumbered", desc := "(I)LSortLineEvents$Belt;" } : Jvm.MethodName) prog_1_method_22_code (2 : Nat) (Option.some (Jvm.ClassFile.FieldType.object "SortLineEvents$Belt"))) ∈ BIG := big_in (i := 208) rfl rfl
theorem mw_209 : (Jvm.Cond.instantiable "SortLineEvents$Head" (3 : Nat)) ∈ BIG := big_in (i := 209) (by decide +kernel) rfl
theorem mw_210 : (Jvm.Cond.methodLink "SortLineEvents" (98 : Nat) ({ cls := "SortLineEvents$Belt", name := "placeOf", desc := "(D)I" } : Jvm.MethodName)) ∈ BIG := big_in (i := 210) (by decide +kernel) rfl
theorem mw_211 : (Jvm.Cond.instanceMethod ({ cls := "SortLineEvents$Belt", name := "placeOf", desc := "(D)I" } : Jvm.MethodName)) ∈ BIG := big_in (i := 211) (by decide +kernel) rfl
theorem mw_212 : (Jvm.Cond.selects "SortLineEvents$Belt" ({ cls := "SortLineEvents$Belt", name := "placeOf", desc := "(D)I" } : Jvm.MethodName) ({ cls := "SortLineEvents$Belt", name := "placeOf", desc := "(D)I" } : Jvm.MethodName)) ∈ BIG := big_in (i := 212) (by decide +kernel) rfl
set_option maxRecDepth 100000 in
theorem mw_213 : (Jvm.Cond.code ({ cls := "SortLineEvents$Belt", name := "placeOf", desc := "(D)I" } : Jvm.MethodName) prog_2_method_2_code (3 : Nat) (Option.some Jvm.ClassFile.FieldType.int)) ∈ BIG := big_in (i := 213) rfl rfl
theorem mw_214 : (Jvm.Cond.methodLink "SortLineEvents" (102 : Nat) ({ cls := "SortLineEvents$Head", name := "<init>", desc := "(LSortLineEvents$Belt;ID)V" } : Jvm.MethodName)) ∈ BIG := big_in (i := 214) (by decide +kernel) rfl
theorem mw_215 : (Jvm.Cond.instanceMethod ({ cls := "SortLineEvents$Head", name := "<init>", desc := "(LSortLineEvents$Belt;ID)V" } : Jvm.MethodName)) ∈ BIG := big_in (i := 215) (by decide +kernel) rfl
set_option maxRecDepth 100000 in
theorem mw_216 : (Jvm.Cond.code ({ cls := "SortLineEvents$Head", name := "<init>", desc := "(LSortLineEvents$Belt;ID)V" } : Jvm.MethodName) prog_4_method_1_code (5 : Nat) (Option.none : Option Jvm.ClassFile.FieldType)) ∈ BIG := big_in (i := 216) rfl rfl
theorem mw_217 : (Jvm.Cond.methodLink "SortLineEvents$Head" (1 : Nat) ({ cls := "java/lang/Object", name := "<init>", desc := "()V" } : Jvm.MethodName)) ∈ BIG := big_in (i := 217) (by decide +kernel) rfl
theorem mw_218 : (Jvm.Cond.fieldLink "SortLineEvents$Head" (7 : Nat) "SortLineEvents$Head" "belt" "LSortLineEvents$Belt;") ∈ BIG := big_in (i := 218) (by decide +kernel) rfl
theorem mw_219 : (Jvm.Cond.fieldLink "SortLineEvents" (273 : Nat) "SortLineEvents$Head" "belt" "LSortLineEvents$Belt;") ∈ BIG := big_in (i := 219) (by decide +kernel) rfl
theorem mw_220 : (Jvm.Cond.fieldLink "SortLineEvents$Head" (13 : Nat) "SortLineEvents$Head" "place" "I") ∈ BIG := big_in (i := 220) (by decide +kernel) rfl
theorem mw_221 : (Jvm.Cond.fieldLink "SortLineEvents" (274 : Nat) "SortLineEvents$Head" "place" "I") ∈ BIG := big_in (i := 221) (by decide +kernel) rfl
theorem mw_222 : (Jvm.Cond.fieldLink "SortLineEvents$Head" (17 : Nat) "SortLineEvents$Head" "miss" "D") ∈ BIG := big_in (i := 222) (by decide +kernel) rfl
theorem mw_223 : (Jvm.Cond.fieldLink "SortLineEvents" (279 : Nat) "SortLineEvents$Head" "miss" "D") ∈ BIG := big_in (i := 223) (by decide +kernel) rfl
theorem mw_231 : (Jvm.Cond.methodLink "SortLineEventsLaw" (33 : Nat) ({ cls := "SortLineEvents", name := "bunker", desc := "(D)I" } : Jvm.MethodName)) ∈ BIG := big_in (i := 231) (by decide +kernel) rfl
theorem mw_232 : (Jvm.Cond.instanceMethod ({ cls := "SortLineEvents", name := "bunker", desc := "(D)I" } : Jvm.MethodName)) ∈ BIG := big_in (i := 232) (by decide +kernel) rfl
theorem mw_233 : (Jvm.Cond.selects "SortLineEvents" ({ cls := "SortLineEvents", name := "bunker", desc := "(D)I" } : Jvm.MethodName) ({ cls := "SortLineEvents", name := "bunker", desc := "(D)I" } : Jvm.MethodName)) ∈ BIG := big_in (i := 233) (by decide +kernel) rfl
set_option maxRecDepth 100000 in
theorem mw_234 : (Jvm.Cond.code ({ cls := "SortLineEvents", name := "bunker", desc := "(D)I" } : Jvm.MethodName) prog_1_method_4_code (4 : Nat) (Option.some Jvm.ClassFile.FieldType.int)) ∈ BIG := big_in (i := 234) rfl rfl
theorem mw_235 : (Jvm.Cond.constantDouble "SortLineEvents" (108 : Nat) (4666723172467343360 : UInt64)) ∈ BIG := big_in (i := 235) (by decide +kernel) rfl
theorem mw_236 : (Jvm.Cond.instantiable "SortLineEvents$Bunker" (3 : Nat)) ∈ BIG := big_in (i := 236) (by decide +kernel) rfl
theorem mw_237 : (Jvm.Cond.methodLink "SortLineEvents" (110 : Nat) ({ cls := "SortLineEvents$Bunker", name := "<init>", desc := "(ID)V" } : Jvm.MethodName)) ∈ BIG := big_in (i := 237) (by decide +kernel) rfl
theorem mw_238 : (Jvm.Cond.instanceMethod ({ cls := "SortLineEvents$Bunker", name := "<init>", desc := "(ID)V" } : Jvm.MethodName)) ∈ BIG := big_in (i := 238) (by decide +kernel) rfl
set_option maxRecDepth 100000 in
theorem mw_239 : (Jvm.Cond.code ({ cls := "SortLineEvents$Bunker", name := "<init>", desc := "(ID)V" } : Jvm.MethodName) prog_3_method_1_code (4 : Nat) (Option.none : Option Jvm.ClassFile.FieldType)) ∈ BIG := big_in (i := 239) rfl rfl
theorem mw_240 : (Jvm.Cond.methodLink "SortLineEvents$Bunker" (1 : Nat) ({ cls := "java/lang/Object", name := "<init>", desc := "()V" } : Jvm.MethodName)) ∈ BIG := big_in (i := 240) (by decide +kernel) rfl
theorem mw_241 : (Jvm.Cond.fieldLink "SortLineEvents$Bunker" (7 : Nat) "SortLineEvents$Bunker" "number" "I") ∈ BIG := big_in (i := 241) (by decide +kernel) rfl
theorem mw_242 : (Jvm.Cond.fieldLink "SortLineEvents" (319 : Nat) "SortLineEvents$Bunker" "number" "I") ∈ BIG := big_in (i := 242) (by decide +kernel) rfl
theorem mw_243 : (Jvm.Cond.fieldLink "SortLineEvents$Bunker" (13 : Nat) "SortLineEvents$Bunker" "room" "D") ∈ BIG := big_in (i := 243) (by decide +kernel) rfl
theorem mw_244 : (Jvm.Cond.fieldLink "SortLineEvents" (316 : Nat) "SortLineEvents$Bunker" "room" "D") ∈ BIG := big_in (i := 244) (by decide +kernel) rfl
theorem mw_245 : (Jvm.Cond.fieldLink "SortLineEvents" (313 : Nat) "SortLineEvents$Bunker" "filled" "D") ∈ BIG := big_in (i := 245) (by decide +kernel) rfl
theorem mw_253 : (Jvm.Cond.methodLink "SortLineEventsLaw" (38 : Nat) ({ cls := "SortLineEvents", name := "joinTo", desc := "(II)Z" } : Jvm.MethodName)) ∈ BIG := big_in (i := 253) (by decide +kernel) rfl
theorem mw_254 : (Jvm.Cond.instanceMethod ({ cls := "SortLineEvents", name := "joinTo", desc := "(II)Z" } : Jvm.MethodName)) ∈ BIG := big_in (i := 254) (by decide +kernel) rfl
theorem mw_255 : (Jvm.Cond.selects "SortLineEvents" ({ cls := "SortLineEvents", name := "joinTo", desc := "(II)Z" } : Jvm.MethodName) ({ cls := "SortLineEvents", name := "joinTo", desc := "(II)Z" } : Jvm.MethodName)) ∈ BIG := big_in (i := 255) (by decide +kernel) rfl
set_option maxRecDepth 100000 in
theorem mw_256 : (Jvm.Cond.code ({ cls := "SortLineEvents", name := "joinTo", desc := "(II)Z" } : Jvm.MethodName) prog_1_method_5_code (6 : Nat) (Option.some Jvm.ClassFile.FieldType.boolean)) ∈ BIG := big_in (i := 256) rfl rfl
theorem mw_257 : (Jvm.Cond.methodLink "SortLineEvents" (113 : Nat) ({ cls := "SortLineEvents", name := "bunkerJoinedBy", desc := "(I)LSortLineEvents$Bunker;" } : Jvm.MethodName)) ∈ BIG := big_in (i := 257) (by decide +kernel) rfl
theorem mw_259 : (Jvm.Cond.instanceMethod ({ cls := "SortLineEvents", name := "bunkerJoinedBy", desc := "(I)LSortLineEvents$Bunker;" } : Jvm.MethodName)) ∈ BIG := big_in (i := 259) (by decide +kernel) rfl
set_option maxRecDepth 100000 in
theorem mw_260 : (Jvm.Cond.code ({ cls := "SortLineEvents", name := "bunkerJoinedBy", desc := "(I)LSortLineEvents$Bunker;" } : Jvm.MethodName) prog_1_method_23_code (3 : Nat) (Option.some (Jvm.ClassFile.FieldType.object "SortLineEvents$Bunker"))) ∈ BIG := big_in (i := 260) rfl rfl
theorem mw_261 : (Jvm.Cond.methodLink "SortLineEventsLaw" (43 : Nat) ({ cls := "SortLineEvents", name := "rule", desc := "(IDI)Z" } : Jvm.MethodName)) ∈ BIG := big_in (i := 261) (by decide +kernel) rfl
theorem mw_262 : (Jvm.Cond.instanceMethod ({ cls := "SortLineEvents", name := "rule", desc := "(IDI)Z" } : Jvm.MethodName)) ∈ BIG := big_in (i := 262) (by decide +kernel) rfl
theorem mw_263 : (Jvm.Cond.selects "SortLineEvents" ({ cls := "SortLineEvents", name := "rule", desc := "(IDI)Z" } : Jvm.MethodName) ({ cls := "SortLineEvents", name := "rule", desc := "(IDI)Z" } : Jvm.MethodName)) ∈ BIG := big_in (i := 263) (by decide +kernel) rfl
set_option maxRecDepth 100000 in
theorem mw_264 : (Jvm.Cond.code ({ cls := "SortLineEvents", name := "rule", desc := "(IDI)Z" } : Jvm.MethodName) prog_1_method_6_code (6 : Nat) (Option.some Jvm.ClassFile.FieldType.boolean)) ∈ BIG := big_in (i := 264) rfl rfl
theorem mw_265 : (Jvm.Cond.methodLink "SortLineEventsLaw" (48 : Nat) ({ cls := "SortLineEvents", name := "picker", desc := "(IDD)I" } : Jvm.MethodName)) ∈ BIG := big_in (i := 265) (by decide +kernel) rfl
theorem mw_266 : (Jvm.Cond.instanceMethod ({ cls := "SortLineEvents", name := "picker", desc := "(IDD)I" } : Jvm.MethodName)) ∈ BIG := big_in (i := 266) (by decide +kernel) rfl
theorem mw_267 : (Jvm.Cond.selects "SortLineEvents" ({ cls := "SortLineEvents", name := "picker", desc := "(IDD)I" } : Jvm.MethodName) ({ cls := "SortLineEvents", name := "picker", desc := "(IDD)I" } : Jvm.MethodName)) ∈ BIG := big_in (i := 267) (by decide +kernel) rfl
set_option maxRecDepth 100000 in
theorem mw_268 : (Jvm.Cond.code ({ cls := "SortLineEvents", name := "picker", desc := "(IDD)I" } : Jvm.MethodName) prog_1_method_7_code (8 : Nat) (Option.some Jvm.ClassFile.FieldType.int)) ∈ BIG := big_in (i := 268) rfl rfl
theorem mw_269 : (Jvm.Cond.constantDouble "SortLineEvents" (138 : Nat) (4593671619917905920 : UInt64)) ∈ BIG := big_in (i := 269) (by decide +kernel) rfl
theorem mw_270 : (Jvm.Cond.constantDouble "SortLineEvents" (140 : Nat) (4636737291354636288 : UInt64)) ∈ BIG := big_in (i := 270) (by decide +kernel) rfl
theorem mw_271 : (Jvm.Cond.constantDouble "SortLineEvents" (142 : Nat) (4621819117588971520 : UInt64)) ∈ BIG := big_in (i := 271) (by decide +kernel) rfl
theorem mw_272 : (Jvm.Cond.instantiable "SortLineEvents$Picker" (5 : Nat)) ∈ BIG := big_in (i := 272) (by decide +kernel) rfl
theorem mw_273 : (Jvm.Cond.methodLink "SortLineEvents" (144 : Nat) ({ cls := "SortLineEvents$Picker", name := "<init>", desc := "(LSortLineEvents$Belt;DD)V" } : Jvm.MethodName)) ∈ BIG := big_in (i := 273) (by decide +kernel) rfl
theorem mw_274 : (Jvm.Cond.instanceMethod ({ cls := "SortLineEvents$Picker", name := "<init>", desc := "(LSortLineEvents$Belt;DD)V" } : Jvm.MethodName)) ∈ BIG := big_in (i := 274) (by decide +kernel) rfl
set_option maxRecDepth 100000 in
theorem mw_275 : (Jvm.Cond.code ({ cls := "SortLineEvents$Picker", name := "<init>", desc := "(LSortLineEvents$Belt;DD)V" } : Jvm.MethodName) prog_7_method_1_code (6 : Nat) (Option.none : Option Jvm.ClassFile.FieldType)) ∈ BIG := big_in (i := 275) rfl rfl
theorem mw_276 : (Jvm.Cond.methodLink "SortLineEvents$Picker" (1 : Nat) ({ cls := "java/lang/Object", name := "<init>", desc := "()V" } : Jvm.MethodName)) ∈ BIG := big_in (i := 276) (by decide +kernel) rfl
theorem mw_277 : (Jvm.Cond.fieldLink "SortLineEvents$Picker" (7 : Nat) "SortLineEvents$Picker" "belt" "LSortLineEvents$Belt;") ∈ BIG := big_in (i := 277) (by decide +kernel) rfl
theorem mw_278 : (Jvm.Cond.fieldLink "SortLineEvents" (306 : Nat) "SortLineEvents$Picker" "belt" "LSortLineEvents$Belt;") ∈ BIG := big_in (i := 278) (by decide +kernel) rfl
theorem mw_279 : (Jvm.Cond.fieldLink "SortLineEvents$Picker" (13 : Nat) "SortLineEvents$Picker" "rate" "D") ∈ BIG := big_in (i := 279) (by decide +kernel) rfl
theorem mw_280 : (Jvm.Cond.fieldLink "SortLineEvents$Picker" (17 : Nat) "SortLineEvents$Picker" "tires" "D") ∈ BIG := big_in (i := 280) (by decide +kernel) rfl
theorem mw_281 : (Jvm.Cond.fieldLink "SortLineEvents$Picker" (22 : Nat) "SortLineEvents$Picker" "took" "I") ∈ BIG := big_in (i := 281) (by decide +kernel) rfl
theorem mw_282 : (Jvm.Cond.fieldLink "SortLineEvents$Picker" (26 : Nat) "SortLineEvents$Picker" "freeFrom" "I") ∈ BIG := big_in (i := 282) (by decide +kernel) rfl
theorem mw_283 : (Jvm.Cond.fieldLink "SortLineEvents" (307 : Nat) "SortLineEvents$Picker" "freeFrom" "I") ∈ BIG := big_in (i := 283) (by decide +kernel) rfl
theorem mw_295 : (Jvm.Cond.methodLink "SortLineEventsLaw" (52 : Nat) ({ cls := "SortLineEvents", name := "robot", desc := "(IDD)I" } : Jvm.MethodName)) ∈ BIG := big_in (i := 295) (by decide +kernel) rfl
theorem mw_296 : (Jvm.Cond.instanceMethod ({ cls := "SortLineEvents", name := "robot", desc := "(IDD)I" } : Jvm.MethodName)) ∈ BIG := big_in (i := 296) (by decide +kernel) rfl
theorem mw_297 : (Jvm.Cond.selects "SortLineEvents" ({ cls := "SortLineEvents", name := "robot", desc := "(IDD)I" } : Jvm.MethodName) ({ cls := "SortLineEvents", name := "robot", desc := "(IDD)I" } : Jvm.MethodName)) ∈ BIG := big_in (i := 297) (by decide +kernel) rfl
set_option maxRecDepth 100000 in
theorem mw_298 : (Jvm.Cond.code ({ cls := "SortLineEvents", name := "robot", desc := "(IDD)I" } : Jvm.MethodName) prog_1_method_8_code (8 : Nat) (Option.some Jvm.ClassFile.FieldType.int)) ∈ BIG := big_in (i := 298) rfl rfl
theorem mw_299 : (Jvm.Cond.instantiable "SortLineEvents$Robot" (3 : Nat)) ∈ BIG := big_in (i := 299) (by decide +kernel) rfl
theorem mw_300 : (Jvm.Cond.methodLink "SortLineEvents" (150 : Nat) ({ cls := "SortLineEvents$Robot", name := "<init>", desc := "(LSortLineEvents$Belt;DD)V" } : Jvm.MethodName)) ∈ BIG := big_in (i := 300) (by decide +kernel) rfl
theorem mw_301 : (Jvm.Cond.instanceMethod ({ cls := "SortLineEvents$Robot", name := "<init>", desc := "(LSortLineEvents$Belt;DD)V" } : Jvm.MethodName)) ∈ BIG := big_in (i := 301) (by decide +kernel) rfl
set_option maxRecDepth 100000 in
theorem mw_302 : (Jvm.Cond.code ({ cls := "SortLineEvents$Robot", name := "<init>", desc := "(LSortLineEvents$Belt;DD)V" } : Jvm.MethodName) prog_9_method_1_code (6 : Nat) (Option.none : Option Jvm.ClassFile.FieldType)) ∈ BIG := big_in (i := 302) rfl rfl
theorem mw_303 : (Jvm.Cond.methodLink "SortLineEvents$Robot" (1 : Nat) ({ cls := "java/lang/Object", name := "<init>", desc := "()V" } : Jvm.MethodName)) ∈ BIG := big_in (i := 303) (by decide +kernel) rfl
theorem mw_304 : (Jvm.Cond.fieldLink "SortLineEvents$Robot" (7 : Nat) "SortLineEvents$Robot" "belt" "LSortLineEvents$Belt;") ∈ BIG := big_in (i := 304) (by decide +kernel) rfl
theorem mw_305 : (Jvm.Cond.fieldLink "SortLineEvents" (301 : Nat) "SortLineEvents$Robot" "belt" "LSortLineEvents$Belt;") ∈ BIG := big_in (i := 305) (by decide +kernel) rfl
theorem mw_306 : (Jvm.Cond.fieldLink "SortLineEvents$Robot" (13 : Nat) "SortLineEvents$Robot" "reach" "D") ∈ BIG := big_in (i := 306) (by decide +kernel) rfl
theorem mw_307 : (Jvm.Cond.fieldLink "SortLineEvents" (302 : Nat) "SortLineEvents$Robot" "reach" "D") ∈ BIG := big_in (i := 307) (by decide +kernel) rfl
theorem mw_308 : (Jvm.Cond.fieldLink "SortLineEvents$Robot" (17 : Nat) "SortLineEvents$Robot" "miss" "D") ∈ BIG := big_in (i := 308) (by decide +kernel) rfl
theorem mw_309 : (Jvm.Cond.fieldLink "SortLineEvents" (305 : Nat) "SortLineEvents$Robot" "miss" "D") ∈ BIG := big_in (i := 309) (by decide +kernel) rfl
theorem mw_317 : (Jvm.Cond.methodLink "SortLineEventsLaw" (56 : Nat) ({ cls := "SortLineEvents", name := "feed", desc := "(IIID)Z" } : Jvm.MethodName)) ∈ BIG := big_in (i := 317) (by decide +kernel) rfl
theorem mw_318 : (Jvm.Cond.instanceMethod ({ cls := "SortLineEvents", name := "feed", desc := "(IIID)Z" } : Jvm.MethodName)) ∈ BIG := big_in (i := 318) (by decide +kernel) rfl
theorem mw_319 : (Jvm.Cond.selects "SortLineEvents" ({ cls := "SortLineEvents", name := "feed", desc := "(IIID)Z" } : Jvm.MethodName) ({ cls := "SortLineEvents", name := "feed", desc := "(IIID)Z" } : Jvm.MethodName)) ∈ BIG := big_in (i := 319) (by decide +kernel) rfl
set_option maxRecDepth 100000 in
theorem mw_320 : (Jvm.Cond.code ({ cls := "SortLineEvents", name := "feed", desc := "(IIID)Z" } : Jvm.MethodName) prog_1_method_9_code (7 : Nat) (Option.some Jvm.ClassFile.FieldType.boolean)) ∈ BIG := big_in (i := 320) rfl rfl
theorem mw_321 : (Jvm.Cond.methodLink "SortLineEvents" (154 : Nat) ({ cls := "SortLineEvents", name := "isKind", desc := "(I)Z" } : Jvm.MethodName)) ∈ BIG := big_in (i := 321) (by decide +kernel) rfl
theorem mw_322 : (Jvm.Cond.static ({ cls := "SortLineEvents", name := "isKind", desc := "(I)Z" } : Jvm.MethodName)) ∈ BIG := big_in (i := 322) (by decide +kernel) rfl
set_option maxRecDepth 100000 in
theorem mw_323 : (Jvm.Cond.code ({ cls := "SortLineEvents", name := "isKind", desc := "(I)Z" } : Jvm.MethodName) prog_1_method_21_code (1 : Nat) (Option.some Jvm.ClassFile.FieldType.boolean)) ∈ BIG := big_in (i := 323) rfl rfl
theorem mw_324 : (Jvm.Cond.instantiable "SortLineEvents$Piece" (8 : Nat)) ∈ BIG := big_in (i := 324) (by decide +kernel) rfl
theorem mw_325 : (Jvm.Cond.methodLink "SortLineEvents" (161 : Nat) ({ cls := "SortLineEvents$Piece", name := "<init>", desc := "(ILSortLineEvents$Belt;IID)V" } : Jvm.MethodName)) ∈ BIG := big_in (i := 325) (by decide +kernel) rfl
theorem mw_326 : (Jvm.Cond.instanceMethod ({ cls := "SortLineEvents$Piece", name := "<init>", desc := "(ILSortLineEvents$Belt;IID)V" } : Jvm.MethodName)) ∈ BIG := big_in (i := 326) (by decide +kernel) rfl
set_option maxRecDepth 100000 in
theorem mw_327 : (Jvm.Cond.code ({ cls := "SortLineEvents$Piece", name := "<init>", desc := "(ILSortLineEvents$Belt;IID)V" } : Jvm.MethodName) prog_8_method_1_code (7 : Nat) (Option.none : Option Jvm.ClassFile.FieldType)) ∈ BIG := big_in (i := 327) rfl rfl
theorem mw_328 : (Jvm.Cond.methodLink "SortLineEvents$Piece" (1 : Nat) ({ cls := "java/lang/Object", name := "<init>", desc := "()V" } : Jvm.MethodName)) ∈ BIG := big_in (i := 328) (by decide +kernel) rfl
theorem mw_329 : (Jvm.Cond.fieldLink "SortLineEvents$Piece" (7 : Nat) "SortLineEvents$Piece" "number" "I") ∈ BIG := big_in (i := 329) (by decide +kernel) rfl
theorem mw_330 : (Jvm.Cond.fieldLink "SortLineEvents" (252 : Nat) "SortLineEvents$Piece" "number" "I") ∈ BIG := big_in (i := 330) (by decide +kernel) rfl
theorem mw_331 : (Jvm.Cond.fieldLink "SortLineEvents$Piece" (13 : Nat) "SortLineEvents$Piece" "firstBelt" "LSortLineEvents$Belt;") ∈ BIG := big_in (i := 331) (by decide +kernel) rfl
theorem mw_332 : (Jvm.Cond.fieldLink "SortLineEvents" (233 : Nat) "SortLineEvents$Piece" "firstBelt" "LSortLineEvents$Belt;") ∈ BIG := big_in (i := 332) (by decide +kernel) rfl
theorem mw_333 : (Jvm.Cond.fieldLink "SortLineEvents$Piece" (17 : Nat) "SortLineEvents$Piece" "time" "I") ∈ BIG := big_in (i := 333) (by decide +kernel) rfl
theorem mw_334 : (Jvm.Cond.fieldLink "SortLineEvents" (208 : Nat) "SortLineEvents$Piece" "time" "I") ∈ BIG := big_in (i := 334) (by decide +kernel) rfl
theorem mw_335 : (Jvm.Cond.fieldLink "SortLineEvents$Piece" (20 : Nat) "SortLineEvents$Piece" "kind" "I") ∈ BIG := big_in (i := 335) (by decide +kernel) rfl
theorem mw_336 : (Jvm.Cond.fieldLink "SortLineEvents" (211 : Nat) "SortLineEvents$Piece" "kind" "I") ∈ BIG := big_in (i := 336) (by decide +kernel) rfl
theorem mw_337 : (Jvm.Cond.fieldLink "SortLineEvents$Piece" (23 : Nat) "SortLineEvents$Piece" "size" "D") ∈ BIG := big_in (i := 337) (by decide +kernel) rfl
theorem mw_338 : (Jvm.Cond.fieldLink "SortLineEvents" (267 : Nat) "SortLineEvents$Piece" "size" "D") ∈ BIG := big_in (i := 338) (by decide +kernel) rfl
theorem mw_339 : (Jvm.Cond.fieldLink "SortLineEvents" (214 : Nat) "SortLineEvents$Piece" "belt" "LSortLineEvents$Belt;") ∈ BIG := big_in (i := 339) (by decide +kernel) rfl
theorem mw_340 : (Jvm.Cond.fieldLink "SortLineEvents" (230 : Nat) "SortLineEvents$Piece" "place" "I") ∈ BIG := big_in (i := 340) (by decide +kernel) rfl
theorem mw_341 : (Jvm.Cond.fieldLink "SortLineEvents" (227 : Nat) "SortLineEvents$Piece" "cameOn" "Z") ∈ BIG := big_in (i := 341) (by decide +kernel) rfl
theorem mw_359 : (Jvm.Cond.methodLink "SortLineEventsLaw" (61 : Nat) ({ cls := "SortLineEvents", name := "run", desc := "(I)I" } : Jvm.MethodName)) ∈ BIG := big_in (i := 359) (by decide +kernel) rfl
theorem mw_360 : (Jvm.Cond.instanceMethod ({ cls := "SortLineEvents", name := "run", desc := "(I)I" } : Jvm.MethodName)) ∈ BIG := big_in (i := 360) (by decide +kernel) rfl
theorem mw_361 : (Jvm.Cond.selects "SortLineEvents" ({ cls := "SortLineEvents", name := "run", desc := "(I)I" } : Jvm.MethodName) ({ cls := "SortLineEvents", name := "run", desc := "(I)I" } : Jvm.MethodName)) ∈ BIG := big_in (i := 361) (by decide +kernel) rfl
set_option maxRecDepth 100000 in
theorem mw_362 : (Jvm.Cond.code ({ cls := "SortLineEvents", name := "run", desc := "(I)I" } : Jvm.MethodName) prog_1_method_10_code (3 : Nat) (Option.some Jvm.ClassFile.FieldType.int)) ∈ BIG := big_in (i := 362) rfl rfl
theorem mw_363 : (Jvm.Cond.methodLink "SortLineEvents" (164 : Nat) ({ cls := "SortLineEvents$Tally", name := "atRest", desc := "()J" } : Jvm.MethodName)) ∈ BIG := big_in (i := 363) (by decide +kernel) rfl
theorem mw_364 : (Jvm.Cond.instanceMethod ({ cls := "SortLineEvents$Tally", name := "atRest", desc := "()J" } : Jvm.MethodName)) ∈ BIG := big_in (i := 364) (by decide +kernel) rfl
theorem mw_365 : (Jvm.Cond.selects "SortLineEvents$Tally" ({ cls := "SortLineEvents$Tally", name := "atRest", desc := "()J" } : Jvm.MethodName) ({ cls := "SortLineEvents$Tally", name := "atRest", desc := "()J" } : Jvm.MethodName)) ∈ BIG := big_in (i := 365) (by decide +kernel) rfl
set_option maxRecDepth 100000 in
theorem mw_366 : (Jvm.Cond.code ({ cls := "SortLineEvents$Tally", name := "atRest", desc := "()J" } : Jvm.MethodName) prog_10_method_2_code (1 : Nat) (Option.some Jvm.ClassFile.FieldType.long)) ∈ BIG := big_in (i := 366) rfl rfl
theorem mw_367 : (Jvm.Cond.methodLink "SortLineEvents" (168 : Nat) ({ cls := "SortLineEvents", name := "passOneTenth", desc := "()V" } : Jvm.MethodName)) ∈ BIG := big_in (i := 367) (by decide +kernel) rfl
theorem mw_369 : (Jvm.Cond.instanceMethod ({ cls := "SortLineEvents", name := "passOneTenth", desc := "()V" } : Jvm.MethodName)) ∈ BIG := big_in (i := 369) (by decide +kernel) rfl
set_option maxRecDepth 100000 in
theorem mw_370 : (Jvm.Cond.code ({ cls := "SortLineEvents", name := "passOneTenth", desc := "()V" } : Jvm.MethodName) prog_1_method_25_code (2 : Nat) (Option.none : Option Jvm.ClassFile.FieldType)) ∈ BIG := big_in (i := 370) rfl rfl
theorem mw_371 : (Jvm.Cond.methodLink "SortLineEvents" (217 : Nat) ({ cls := "SortLineEvents", name := "comeOn", desc := "(LSortLineEvents$Piece;)V" } : Jvm.MethodName)) ∈ BIG := big_in (i := 371) (by decide +kernel) rfl
theorem mw_373 : (Jvm.Cond.instanceMethod ({ cls := "SortLineEvents", name := "comeOn", desc := "(LSortLineEvents$Piece;)V" } : Jvm.MethodName)) ∈ BIG := big_in (i := 373) (by decide +kernel) rfl
set_option maxRecDepth 100000 in
theorem mw_374 : (Jvm.Cond.code ({ cls := "SortLineEvents", name := "comeOn", desc := "(LSortLineEvents$Piece;)V" } : Jvm.MethodName) prog_1_method_26_code (3 : Nat) (Option.none : Option Jvm.ClassFile.FieldType)) ∈ BIG := big_in (i := 374) rfl rfl
theorem mw_375 : (Jvm.Cond.methodLink "SortLineEvents" (224 : Nat) ({ cls := "SortLineEvents$Belt", name := "movesAt", desc := "(I)Z" } : Jvm.MethodName)) ∈ BIG := big_in (i := 375) (by decide +kernel) rfl
theorem mw_376 : (Jvm.Cond.instanceMethod ({ cls := "SortLineEvents$Belt", name := "movesAt", desc := "(I)Z" } : Jvm.MethodName)) ∈ BIG := big_in (i := 376) (by decide +kernel) rfl
theorem mw_377 : (Jvm.Cond.selects "SortLineEvents$Belt" ({ cls := "SortLineEvents$Belt", name := "movesAt", desc := "(I)Z" } : Jvm.MethodName) ({ cls := "SortLineEvents$Belt", name := "movesAt", desc := "(I)Z" } : Jvm.MethodName)) ∈ BIG := big_in (i := 377) (by decide +kernel) rfl
set_option maxRecDepth 100000 in
theorem mw_378 : (Jvm.Cond.code ({ cls := "SortLineEvents$Belt", name := "movesAt", desc := "(I)Z" } : Jvm.MethodName) prog_2_method_3_code (2 : Nat) (Option.some Jvm.ClassFile.FieldType.boolean)) ∈ BIG := big_in (i := 378) rfl rfl
theorem mw_379 : (Jvm.Cond.methodLink "SortLineEvents" (221 : Nat) ({ cls := "SortLineEvents", name := "act", desc := "(LSortLineEvents$Piece;)V" } : Jvm.MethodName)) ∈ BIG := big_in (i := 379) (by decide +kernel) rfl
theorem mw_381 : (Jvm.Cond.instanceMethod ({ cls := "SortLineEvents", name := "act", desc := "(LSortLineEvents$Piece;)V" } : Jvm.MethodName)) ∈ BIG := big_in (i := 381) (by decide +kernel) rfl
set_option maxRecDepth 100000 in
theorem mw_382 : (Jvm.Cond.code ({ cls := "SortLineEvents", name := "act", desc := "(LSortLineEvents$Piece;)V" } : Jvm.MethodName) prog_1_method_27_code (3 : Nat) (Option.none : Option Jvm.ClassFile.FieldType)) ∈ BIG := big_in (i := 382) rfl rfl
theorem mw_383 : (Jvm.Cond.methodLink "SortLineEvents" (236 : Nat) ({ cls := "SortLineEvents", name := "enter", desc := "(LSortLineEvents$Piece;LSortLineEvents$Belt;)V" } : Jvm.MethodName)) ∈ BIG := big_in (i := 383) (by decide +kernel) rfl
theorem mw_385 : (Jvm.Cond.instanceMethod ({ cls := "SortLineEvents", name := "enter", desc := "(LSortLineEvents$Piece;LSortLineEvents$Belt;)V" } : Jvm.MethodName)) ∈ BIG := big_in (i := 385) (by decide +kernel) rfl
set_option maxRecDepth 100000 in
theorem mw_386 : (Jvm.Cond.code ({ cls := "SortLineEvents", name := "enter", desc := "(LSortLineEvents$Piece;LSortLineEvents$Belt;)V" } : Jvm.MethodName) prog_1_method_28_code (3 : Nat) (Option.none : Option Jvm.ClassFile.FieldType)) ∈ BIG := big_in (i := 386) rfl rfl
theorem mw_387 : (Jvm.Cond.methodLink "SortLineEvents" (249 : Nat) ({ cls := "SortLineEvents$Belt", name := "refusesAt", desc := "(I)Z" } : Jvm.MethodName)) ∈ BIG := big_in (i := 387) (by decide +kernel) rfl
theorem mw_388 : (Jvm.Cond.instanceMethod ({ cls := "SortLineEvents$Belt", name := "refusesAt", desc := "(I)Z" } : Jvm.MethodName)) ∈ BIG := big_in (i := 388) (by decide +kernel) rfl
theorem mw_389 : (Jvm.Cond.selects "SortLineEvents$Belt" ({ cls := "SortLineEvents$Belt", name := "refusesAt", desc := "(I)Z" } : Jvm.MethodName) ({ cls := "SortLineEvents$Belt", name := "refusesAt", desc := "(I)Z" } : Jvm.MethodName)) ∈ BIG := big_in (i := 389) (by decide +kernel) rfl
set_option maxRecDepth 100000 in
theorem mw_390 : (Jvm.Cond.code ({ cls := "SortLineEvents$Belt", name := "refusesAt", desc := "(I)Z" } : Jvm.MethodName) prog_2_method_4_code (2 : Nat) (Option.some Jvm.ClassFile.FieldType.boolean)) ∈ BIG := big_in (i := 390) rfl rfl
theorem mw_391 : (Jvm.Cond.methodLink "SortLineEvents" (256 : Nat) ({ cls := "SortLineEvents$Log", name := "add", desc := "(IIII)V" } : Jvm.MethodName)) ∈ BIG := big_in (i := 391) (by decide +kernel) rfl
theorem mw_392 : (Jvm.Cond.instanceMethod ({ cls := "SortLineEvents$Log", name := "add", desc := "(IIII)V" } : Jvm.MethodName)) ∈ BIG := big_in (i := 392) (by decide +kernel) rfl
theorem mw_393 : (Jvm.Cond.selects "SortLineEvents$Log" ({ cls := "SortLineEvents$Log", name := "add", desc := "(IIII)V" } : Jvm.MethodName) ({ cls := "SortLineEvents$Log", name := "add", desc := "(IIII)V" } : Jvm.MethodName)) ∈ BIG := big_in (i := 393) (by decide +kernel) rfl
set_option maxRecDepth 100000 in
theorem mw_394 : (Jvm.Cond.code ({ cls := "SortLineEvents$Log", name := "add", desc := "(IIII)V" } : Jvm.MethodName) prog_5_method_2_code (5 : Nat) (Option.none : Option Jvm.ClassFile.FieldType)) ∈ BIG := big_in (i := 394) rfl rfl
theorem mw_395 : (Jvm.Cond.methodLink "SortLineEvents" (260 : Nat) ({ cls := "SortLineEvents", name := "loadWith", desc := "(LSortLineEvents$Piece;LSortLineEvents$Belt;)D" } : Jvm.MethodName)) ∈ BIG := big_in (i := 395) (by decide +kernel) rfl
theorem mw_397 : (Jvm.Cond.instanceMethod ({ cls := "SortLineEvents", name := "loadWith", desc := "(LSortLineEvents$Piece;LSortLineEvents$Belt;)D" } : Jvm.MethodName)) ∈ BIG := big_in (i := 397) (by decide +kernel) rfl
set_option maxRecDepth 100000 in
theorem mw_398 : (Jvm.Cond.code ({ cls := "SortLineEvents", name := "loadWith", desc := "(LSortLineEvents$Piece;LSortLineEvents$Belt;)D" } : Jvm.MethodName) prog_1_method_29_code (7 : Nat) (Option.some Jvm.ClassFile.FieldType.double)) ∈ BIG := big_in (i := 398) rfl rfl
theorem mw_399 : (Jvm.Cond.methodLink "SortLineEvents" (264 : Nat) ({ cls := "SortLineEvents", name := "jamBy", desc := "(LSortLineEvents$Piece;LSortLineEvents$Belt;)V" } : Jvm.MethodName)) ∈ BIG := big_in (i := 399) (by decide +kernel) rfl
theorem mw_401 : (Jvm.Cond.instanceMethod ({ cls := "SortLineEvents", name := "jamBy", desc := "(LSortLineEvents$Piece;LSortLineEvents$Belt;)V" } : Jvm.MethodName)) ∈ BIG := big_in (i := 401) (by decide +kernel) rfl
set_option maxRecDepth 100000 in
theorem mw_402 : (Jvm.Cond.code ({ cls := "SortLineEvents", name := "jamBy", desc := "(LSortLineEvents$Piece;LSortLineEvents$Belt;)V" } : Jvm.MethodName) prog_1_method_30_code (5 : Nat) (Option.none : Option Jvm.ClassFile.FieldType)) ∈ BIG := big_in (i := 402) rfl rfl
theorem mw_403 : (Jvm.Cond.methodLink "SortLineEvents" (240 : Nat) ({ cls := "SortLineEvents", name := "passHeads", desc := "(LSortLineEvents$Piece;LSortLineEvents$Belt;)V" } : Jvm.MethodName)) ∈ BIG := big_in (i := 403) (by decide +kernel) rfl
theorem mw_405 : (Jvm.Cond.instanceMethod ({ cls := "SortLineEvents", name := "passHeads", desc := "(LSortLineEvents$Piece;LSortLineEvents$Belt;)V" } : Jvm.MethodName)) ∈ BIG := big_in (i := 405) (by decide +kernel) rfl
set_option maxRecDepth 100000 in
theorem mw_406 : (Jvm.Cond.code ({ cls := "SortLineEvents", name := "passHeads", desc := "(LSortLineEvents$Piece;LSortLineEvents$Belt;)V" } : Jvm.MethodName) prog_1_method_31_code (6 : Nat) (Option.none : Option Jvm.ClassFile.FieldType)) ∈ BIG := big_in (i := 406) rfl rfl
theorem mw_407 : (Jvm.Cond.methodLink "SortLineEvents" (275 : Nat) ({ cls := "SortLineEvents", name := "chance", desc := "(II)D" } : Jvm.MethodName)) ∈ BIG := big_in (i := 407) (by decide +kernel) rfl
theorem mw_409 : (Jvm.Cond.instanceMethod ({ cls := "SortLineEvents", name := "chance", desc := "(II)D" } : Jvm.MethodName)) ∈ BIG := big_in (i := 409) (by decide +kernel) rfl
set_option maxRecDepth 100000 in
theorem mw_410 : (Jvm.Cond.code ({ cls := "SortLineEvents", name := "chance", desc := "(II)D" } : Jvm.MethodName) prog_1_method_36_code (5 : Nat) (Option.some Jvm.ClassFile.FieldType.double)) ∈ BIG := big_in (i := 410) rfl rfl
theorem mw_411 : (Jvm.Cond.constantLong "SortLineEvents" (320 : Nat) (6364136223846793005 : Int64)) ∈ BIG := big_in (i := 411) (by decide +kernel) rfl
theorem mw_412 : (Jvm.Cond.constantLong "SortLineEvents" (322 : Nat) (1442695040888963407 : Int64)) ∈ BIG := big_in (i := 412) (by decide +kernel) rfl
theorem mw_413 : (Jvm.Cond.constantLong "SortLineEvents" (324 : Nat) (2862933555777941757 : Int64)) ∈ BIG := big_in (i := 413) (by decide +kernel) rfl
theorem mw_414 : (Jvm.Cond.constantLong "SortLineEvents" (326 : Nat) (-4658895280553007687 : Int64)) ∈ BIG := big_in (i := 414) (by decide +kernel) rfl
theorem mw_415 : (Jvm.Cond.constantDouble "SortLineEvents" (328 : Nat) (4845873199050653696 : UInt64)) ∈ BIG := big_in (i := 415) (by decide +kernel) rfl
theorem mw_416 : (Jvm.Cond.methodLink "SortLineEvents" (246 : Nat) ({ cls := "SortLineEvents", name := "leave", desc := "(LSortLineEvents$Piece;LSortLineEvents$Belt;)V" } : Jvm.MethodName)) ∈ BIG := big_in (i := 416) (by decide +kernel) rfl
theorem mw_418 : (Jvm.Cond.instanceMethod ({ cls := "SortLineEvents", name := "leave", desc := "(LSortLineEvents$Piece;LSortLineEvents$Belt;)V" } : Jvm.MethodName)) ∈ BIG := big_in (i := 418) (by decide +kernel) rfl
set_option maxRecDepth 100000 in
theorem mw_419 : (Jvm.Cond.code ({ cls := "SortLineEvents", name := "leave", desc := "(LSortLineEvents$Piece;LSortLineEvents$Belt;)V" } : Jvm.MethodName) prog_1_method_32_code (3 : Nat) (Option.none : Option Jvm.ClassFile.FieldType)) ∈ BIG := big_in (i := 419) rfl rfl
theorem mw_420 : (Jvm.Cond.methodLink "SortLineEvents" (282 : Nat) ({ cls := "SortLineEvents", name := "takenByRobot", desc := "(LSortLineEvents$Piece;LSortLineEvents$Belt;)Z" } : Jvm.MethodName)) ∈ BIG := big_in (i := 420) (by decide +kernel) rfl
theorem mw_422 : (Jvm.Cond.instanceMethod ({ cls := "SortLineEvents", name := "takenByRobot", desc := "(LSortLineEvents$Piece;LSortLineEvents$Belt;)Z" } : Jvm.MethodName)) ∈ BIG := big_in (i := 422) (by decide +kernel) rfl
set_option maxRecDepth 100000 in
theorem mw_423 : (Jvm.Cond.code ({ cls := "SortLineEvents", name := "takenByRobot", desc := "(LSortLineEvents$Piece;LSortLineEvents$Belt;)Z" } : Jvm.MethodName) prog_1_method_33_code (5 : Nat) (Option.some Jvm.ClassFile.FieldType.boolean)) ∈ BIG := big_in (i := 423) rfl rfl
theorem mw_424 : (Jvm.Cond.methodLink "SortLineEvents" (286 : Nat) ({ cls := "SortLineEvents", name := "takenByPicker", desc := "(LSortLineEvents$Piece;LSortLineEvents$Belt;)Z" } : Jvm.MethodName)) ∈ BIG := big_in (i := 424) (by decide +kernel) rfl
theorem mw_426 : (Jvm.Cond.instanceMethod ({ cls := "SortLineEvents", name := "takenByPicker", desc := "(LSortLineEvents$Piece;LSortLineEvents$Belt;)Z" } : Jvm.MethodName)) ∈ BIG := big_in (i := 426) (by decide +kernel) rfl
set_option maxRecDepth 100000 in
theorem mw_427 : (Jvm.Cond.code ({ cls := "SortLineEvents", name := "takenByPicker", desc := "(LSortLineEvents$Piece;LSortLineEvents$Belt;)Z" } : Jvm.MethodName) prog_1_method_34_code (5 : Nat) (Option.some Jvm.ClassFile.FieldType.boolean)) ∈ BIG := big_in (i := 427) rfl rfl
theorem mw_428 : (Jvm.Cond.methodLink "SortLineEvents" (310 : Nat) ({ cls := "SortLineEvents$Picker", name := "take", desc := "(I)V" } : Jvm.MethodName)) ∈ BIG := big_in (i := 428) (by decide +kernel) rfl
theorem mw_429 : (Jvm.Cond.instanceMethod ({ cls := "SortLineEvents$Picker", name := "take", desc := "(I)V" } : Jvm.MethodName)) ∈ BIG := big_in (i := 429) (by decide +kernel) rfl
theorem mw_430 : (Jvm.Cond.selects "SortLineEvents$Picker" ({ cls := "SortLineEvents$Picker", name := "take", desc := "(I)V" } : Jvm.MethodName) ({ cls := "SortLineEvents$Picker", name := "take", desc := "(I)V" } : Jvm.MethodName)) ∈ BIG := big_in (i := 430) (by decide +kernel) rfl
set_option maxRecDepth 100000 in
theorem mw_431 : (Jvm.Cond.code ({ cls := "SortLineEvents$Picker", name := "take", desc := "(I)V" } : Jvm.MethodName) prog_7_method_2_code (2 : Nat) (Option.none : Option Jvm.ClassFile.FieldType)) ∈ BIG := big_in (i := 431) rfl rfl
theorem mw_432 : (Jvm.Cond.constantDouble "SortLineEvents$Picker" (20 : Nat) (4621819117588971520 : UInt64)) ∈ BIG := big_in (i := 432) (by decide +kernel) rfl
theorem mw_433 : (Jvm.Cond.methodLink "SortLineEvents" (292 : Nat) ({ cls := "SortLineEvents", name := "fill", desc := "(LSortLineEvents$Piece;LSortLineEvents$Bunker;)V" } : Jvm.MethodName)) ∈ BIG := big_in (i := 433) (by decide +kernel) rfl
theorem mw_435 : (Jvm.Cond.instanceMethod ({ cls := "SortLineEvents", name := "fill", desc := "(LSortLineEvents$Piece;LSortLineEvents$Bunker;)V" } : Jvm.MethodName)) ∈ BIG := big_in (i := 435) (by decide +kernel) rfl
set_option maxRecDepth 100000 in
theorem mw_436 : (Jvm.Cond.code ({ cls := "SortLineEvents", name := "fill", desc := "(LSortLineEvents$Piece;LSortLineEvents$Bunker;)V" } : Jvm.MethodName) prog_1_method_35_code (5 : Nat) (Option.none : Option Jvm.ClassFile.FieldType)) ∈ BIG := big_in (i := 436) rfl rfl
theorem mw_437 : (Jvm.Cond.methodLink "SortLineEvents" (299 : Nat) ({ cls := "SortLineEvents$Outs", name := "add", desc := "(I)V" } : Jvm.MethodName)) ∈ BIG := big_in (i := 437) (by decide +kernel) rfl
theorem mw_438 : (Jvm.Cond.instanceMethod ({ cls := "SortLineEvents$Outs", name := "add", desc := "(I)V" } : Jvm.MethodName)) ∈ BIG := big_in (i := 438) (by decide +kernel) rfl
theorem mw_439 : (Jvm.Cond.selects "SortLineEvents$Outs" ({ cls := "SortLineEvents$Outs", name := "add", desc := "(I)V" } : Jvm.MethodName) ({ cls := "SortLineEvents$Outs", name := "add", desc := "(I)V" } : Jvm.MethodName)) ∈ BIG := big_in (i := 439) (by decide +kernel) rfl
set_option maxRecDepth 100000 in
theorem mw_440 : (Jvm.Cond.code ({ cls := "SortLineEvents$Outs", name := "add", desc := "(I)V" } : Jvm.MethodName) prog_6_method_2_code (3 : Nat) (Option.none : Option Jvm.ClassFile.FieldType)) ∈ BIG := big_in (i := 440) rfl rfl
theorem mw_441 : (Jvm.Cond.methodLink "SortLineEvents$Outs" (22 : Nat) ({ cls := "java/lang/Math", name := "min", desc := "(II)I" } : Jvm.MethodName)) ∈ BIG := big_in (i := 441) (by decide +kernel) rfl
theorem mw_442 : (Jvm.Cond.static ({ cls := "java/lang/Math", name := "min", desc := "(II)I" } : Jvm.MethodName)) ∈ BIG := big_in (i := 442) (by decide +kernel) rfl
set_option maxRecDepth 100000 in
theorem mw_443 : (Jvm.Cond.code ({ cls := "java/lang/Math", name := "min", desc := "(II)I" } : Jvm.MethodName) prog_13_method_69_code (2 : Nat) (Option.some Jvm.ClassFile.FieldType.int)) ∈ BIG := big_in (i := 443) rfl rfl
theorem mw_444 : (Jvm.Cond.methodLink "SortLineEvents$Outs" (28 : Nat) ({ cls := "java/lang/Math", name := "max", desc := "(II)I" } : Jvm.MethodName)) ∈ BIG := big_in (i := 444) (by decide +kernel) rfl
theorem mw_445 : (Jvm.Cond.static ({ cls := "java/lang/Math", name := "max", desc := "(II)I" } : Jvm.MethodName)) ∈ BIG := big_in (i := 445) (by decide +kernel) rfl
set_option maxRecDepth 100000 in
theorem mw_446 : (Jvm.Cond.code ({ cls := "java/lang/Math", name := "max", desc := "(II)I" } : Jvm.MethodName) prog_13_method_65_code (2 : Nat) (Option.some Jvm.ClassFile.FieldType.int)) ∈ BIG := big_in (i := 446) rfl rfl
theorem mw_447 : (Jvm.Cond.methodLink "SortLineEventsLaw" (66 : Nat) ({ cls := "SortLineEvents", name := "event", desc := "(II)I" } : Jvm.MethodName)) ∈ BIG := big_in (i := 447) (by decide +kernel) rfl
theorem mw_448 : (Jvm.Cond.instanceMethod ({ cls := "SortLineEvents", name := "event", desc := "(II)I" } : Jvm.MethodName)) ∈ BIG := big_in (i := 448) (by decide +kernel) rfl
theorem mw_449 : (Jvm.Cond.selects "SortLineEvents" ({ cls := "SortLineEvents", name := "event", desc := "(II)I" } : Jvm.MethodName) ({ cls := "SortLineEvents", name := "event", desc := "(II)I" } : Jvm.MethodName)) ∈ BIG := big_in (i := 449) (by decide +kernel) rfl
set_option maxRecDepth 100000 in
theorem mw_450 : (Jvm.Cond.code ({ cls := "SortLineEvents", name := "event", desc := "(II)I" } : Jvm.MethodName) prog_1_method_11_code (3 : Nat) (Option.some Jvm.ClassFile.FieldType.int)) ∈ BIG := big_in (i := 450) rfl rfl
theorem mw_451 : (Jvm.Cond.methodLink "SortLineEvents" (174 : Nat) ({ cls := "SortLineEvents$Log", name := "part", desc := "(II)I" } : Jvm.MethodName)) ∈ BIG := big_in (i := 451) (by decide +kernel) rfl
theorem mw_452 : (Jvm.Cond.instanceMethod ({ cls := "SortLineEvents$Log", name := "part", desc := "(II)I" } : Jvm.MethodName)) ∈ BIG := big_in (i := 452) (by decide +kernel) rfl
theorem mw_453 : (Jvm.Cond.selects "SortLineEvents$Log" ({ cls := "SortLineEvents$Log", name := "part", desc := "(II)I" } : Jvm.MethodName) ({ cls := "SortLineEvents$Log", name := "part", desc := "(II)I" } : Jvm.MethodName)) ∈ BIG := big_in (i := 453) (by decide +kernel) rfl
set_option maxRecDepth 100000 in
theorem mw_454 : (Jvm.Cond.code ({ cls := "SortLineEvents$Log", name := "part", desc := "(II)I" } : Jvm.MethodName) prog_5_method_3_code (4 : Nat) (Option.some Jvm.ClassFile.FieldType.int)) ∈ BIG := big_in (i := 454) rfl rfl
theorem mw_455 : (Jvm.Cond.methodLink "SortLineEventsLaw" (71 : Nat) ({ cls := "SortLineEvents", name := "out", desc := "(II)J" } : Jvm.MethodName)) ∈ BIG := big_in (i := 455) (by decide +kernel) rfl
theorem mw_456 : (Jvm.Cond.instanceMethod ({ cls := "SortLineEvents", name := "out", desc := "(II)J" } : Jvm.MethodName)) ∈ BIG := big_in (i := 456) (by decide +kernel) rfl
theorem mw_457 : (Jvm.Cond.selects "SortLineEvents" ({ cls := "SortLineEvents", name := "out", desc := "(II)J" } : Jvm.MethodName) ({ cls := "SortLineEvents", name := "out", desc := "(II)J" } : Jvm.MethodName)) ∈ BIG := big_in (i := 457) (by decide +kernel) rfl
set_option maxRecDepth 100000 in
theorem mw_458 : (Jvm.Cond.code ({ cls := "SortLineEvents", name := "out", desc := "(II)J" } : Jvm.MethodName) prog_1_method_12_code (4 : Nat) (Option.some Jvm.ClassFile.FieldType.long)) ∈ BIG := big_in (i := 458) rfl rfl
theorem mw_459 : (Jvm.Cond.constantLong "SortLineEvents" (178 : Nat) (-1 : Int64)) ∈ BIG := big_in (i := 459) (by decide +kernel) rfl
theorem mw_460 : (Jvm.Cond.methodLink "SortLineEventsLaw" (76 : Nat) ({ cls := "SortLineEvents", name := "inside", desc := "()J" } : Jvm.MethodName)) ∈ BIG := big_in (i := 460) (by decide +kernel) rfl
theorem mw_461 : (Jvm.Cond.instanceMethod ({ cls := "SortLineEvents", name := "inside", desc := "()J" } : Jvm.MethodName)) ∈ BIG := big_in (i := 461) (by decide +kernel) rfl
theorem mw_462 : (Jvm.Cond.selects "SortLineEvents" ({ cls := "SortLineEvents", name := "inside", desc := "()J" } : Jvm.MethodName) ({ cls := "SortLineEvents", name := "inside", desc := "()J" } : Jvm.MethodName)) ∈ BIG := big_in (i := 462) (by decide +kernel) rfl
set_option maxRecDepth 100000 in
theorem mw_463 : (Jvm.Cond.code ({ cls := "SortLineEvents", name := "inside", desc := "()J" } : Jvm.MethodName) prog_1_method_13_code (1 : Nat) (Option.some Jvm.ClassFile.FieldType.long)) ∈ BIG := big_in (i := 463) rfl rfl
theorem mw_464 : (Jvm.Cond.methodLink "SortLineEvents" (189 : Nat) ({ cls := "SortLineEvents", name := "onBelts", desc := "()I" } : Jvm.MethodName)) ∈ BIG := big_in (i := 464) (by decide +kernel) rfl
theorem mw_466 : (Jvm.Cond.instanceMethod ({ cls := "SortLineEvents", name := "onBelts", desc := "()I" } : Jvm.MethodName)) ∈ BIG := big_in (i := 466) (by decide +kernel) rfl
set_option maxRecDepth 100000 in
theorem mw_467 : (Jvm.Cond.code ({ cls := "SortLineEvents", name := "onBelts", desc := "()I" } : Jvm.MethodName) prog_1_method_24_code (3 : Nat) (Option.some Jvm.ClassFile.FieldType.int)) ∈ BIG := big_in (i := 467) rfl rfl
theorem mw_468 : (Jvm.Cond.methodLink "SortLineEventsLaw" (81 : Nat) ({ cls := "SortLineEvents", name := "jam", desc := "(II)I" } : Jvm.MethodName)) ∈ BIG := big_in (i := 468) (by decide +kernel) rfl
theorem mw_469 : (Jvm.Cond.instanceMethod ({ cls := "SortLineEvents", name := "jam", desc := "(II)I" } : Jvm.MethodName)) ∈ BIG := big_in (i := 469) (by decide +kernel) rfl
theorem mw_470 : (Jvm.Cond.selects "SortLineEvents" ({ cls := "SortLineEvents", name := "jam", desc := "(II)I" } : Jvm.MethodName) ({ cls := "SortLineEvents", name := "jam", desc := "(II)I" } : Jvm.MethodName)) ∈ BIG := big_in (i := 470) (by decide +kernel) rfl
set_option maxRecDepth 100000 in
theorem mw_471 : (Jvm.Cond.code ({ cls := "SortLineEvents", name := "jam", desc := "(II)I" } : Jvm.MethodName) prog_1_method_14_code (3 : Nat) (Option.some Jvm.ClassFile.FieldType.int)) ∈ BIG := big_in (i := 471) rfl rfl
theorem mw_472 : (Jvm.Cond.methodLink "SortLineEventsLaw" (85 : Nat) ({ cls := "SortLineEvents", name := "lost", desc := "(I)J" } : Jvm.MethodName)) ∈ BIG := big_in (i := 472) (by decide +kernel) rfl
theorem mw_473 : (Jvm.Cond.instanceMethod ({ cls := "SortLineEvents", name := "lost", desc := "(I)J" } : Jvm.MethodName)) ∈ BIG := big_in (i := 473) (by decide +kernel) rfl
theorem mw_474 : (Jvm.Cond.selects "SortLineEvents" ({ cls := "SortLineEvents", name := "lost", desc := "(I)J" } : Jvm.MethodName) ({ cls := "SortLineEvents", name := "lost", desc := "(I)J" } : Jvm.MethodName)) ∈ BIG := big_in (i := 474) (by decide +kernel) rfl
set_option maxRecDepth 100000 in
theorem mw_475 : (Jvm.Cond.code ({ cls := "SortLineEvents", name := "lost", desc := "(I)J" } : Jvm.MethodName) prog_1_method_15_code (2 : Nat) (Option.some Jvm.ClassFile.FieldType.long)) ∈ BIG := big_in (i := 475) rfl rfl
theorem mw_476 : (Jvm.Cond.methodLink "SortLineEventsLaw" (90 : Nat) ({ cls := "SortLineEvents", name := "interval", desc := "(III)D" } : Jvm.MethodName)) ∈ BIG := big_in (i := 476) (by decide +kernel) rfl
theorem mw_477 : (Jvm.Cond.instanceMethod ({ cls := "SortLineEvents", name := "interval", desc := "(III)D" } : Jvm.MethodName)) ∈ BIG := big_in (i := 477) (by decide +kernel) rfl
theorem mw_478 : (Jvm.Cond.selects "SortLineEvents" ({ cls := "SortLineEvents", name := "interval", desc := "(III)D" } : Jvm.MethodName) ({ cls := "SortLineEvents", name := "interval", desc := "(III)D" } : Jvm.MethodName)) ∈ BIG := big_in (i := 478) (by decide +kernel) rfl
set_option maxRecDepth 100000 in
theorem mw_479 : (Jvm.Cond.code ({ cls := "SortLineEvents", name := "interval", desc := "(III)D" } : Jvm.MethodName) prog_1_method_16_code (6 : Nat) (Option.some Jvm.ClassFile.FieldType.double)) ∈ BIG := big_in (i := 479) rfl rfl
theorem mw_480 : (Jvm.Cond.constantDouble "SortLineEvents" (200 : Nat) (13830554455654793216 : UInt64)) ∈ BIG := big_in (i := 480) (by decide +kernel) rfl
theorem mw_481 : (Jvm.Cond.methodLink "SortLineEventsLaw" (95 : Nat) ({ cls := "SortLineEvents", name := "same", desc := "()Z" } : Jvm.MethodName)) ∈ BIG := big_in (i := 481) (by decide +kernel) rfl
theorem mw_482 : (Jvm.Cond.instanceMethod ({ cls := "SortLineEvents", name := "same", desc := "()Z" } : Jvm.MethodName)) ∈ BIG := big_in (i := 482) (by decide +kernel) rfl
theorem mw_483 : (Jvm.Cond.selects "SortLineEvents" ({ cls := "SortLineEvents", name := "same", desc := "()Z" } : Jvm.MethodName) ({ cls := "SortLineEvents", name := "same", desc := "()Z" } : Jvm.MethodName)) ∈ BIG := big_in (i := 483) (by decide +kernel) rfl
set_option maxRecDepth 100000 in
theorem mw_484 : (Jvm.Cond.code ({ cls := "SortLineEvents", name := "same", desc := "()Z" } : Jvm.MethodName) prog_1_method_17_code (3 : Nat) (Option.some Jvm.ClassFile.FieldType.boolean)) ∈ BIG := big_in (i := 484) rfl rfl
theorem mw_485 : (Jvm.Cond.methodLink "SortLineEventsLaw" (102 : Nat) ({ cls := "SortLineEvents", name := "pieceKind", desc := "(J)I" } : Jvm.MethodName)) ∈ BIG := big_in (i := 485) (by decide +kernel) rfl
theorem mw_486 : (Jvm.Cond.instanceMethod ({ cls := "SortLineEvents", name := "pieceKind", desc := "(J)I" } : Jvm.MethodName)) ∈ BIG := big_in (i := 486) (by decide +kernel) rfl
theorem mw_487 : (Jvm.Cond.selects "SortLineEvents" ({ cls := "SortLineEvents", name := "pieceKind", desc := "(J)I" } : Jvm.MethodName) ({ cls := "SortLineEvents", name := "pieceKind", desc := "(J)I" } : Jvm.MethodName)) ∈ BIG := big_in (i := 487) (by decide +kernel) rfl
set_option maxRecDepth 100000 in
theorem mw_488 : (Jvm.Cond.code ({ cls := "SortLineEvents", name := "pieceKind", desc := "(J)I" } : Jvm.MethodName) prog_1_method_18_code (3 : Nat) (Option.some Jvm.ClassFile.FieldType.int)) ∈ BIG := big_in (i := 488) rfl rfl
theorem mw_489 : (Jvm.Cond.methodLink "SortLineEventsLaw" (9 : Nat) ({ cls := "SortLineEventsLaw", name := "cell", desc := "([II)I" } : Jvm.MethodName)) ∈ BIG := big_in (i := 489) (by decide +kernel) rfl
theorem mw_490 : (Jvm.Cond.static ({ cls := "SortLineEventsLaw", name := "cell", desc := "([II)I" } : Jvm.MethodName)) ∈ BIG := big_in (i := 490) (by decide +kernel) rfl
set_option maxRecDepth 100000 in
theorem mw_491 : (Jvm.Cond.code ({ cls := "SortLineEventsLaw", name := "cell", desc := "([II)I" } : Jvm.MethodName) method_2_code (2 : Nat) (Option.some Jvm.ClassFile.FieldType.int)) ∈ BIG := big_in (i := 491) rfl rfl
theorem mw_492 : (Jvm.Cond.classLink "SortLineEventsLaw" (18 : Nat) "SortLineEventsModel") ∈ BIG := big_in (i := 492) (by decide +kernel) rfl
theorem mw_493 : (Jvm.Cond.instantiable "SortLineEventsModel" (45 : Nat)) ∈ BIG := big_in (i := 493) (by decide +kernel) rfl
theorem mw_494 : (Jvm.Cond.methodLink "SortLineEventsLaw" (20 : Nat) ({ cls := "SortLineEventsModel", name := "<init>", desc := "(J)V" } : Jvm.MethodName)) ∈ BIG := big_in (i := 494) (by decide +kernel) rfl
theorem mw_495 : (Jvm.Cond.instanceMethod ({ cls := "SortLineEventsModel", name := "<init>", desc := "(J)V" } : Jvm.MethodName)) ∈ BIG := big_in (i := 495) (by decide +kernel) rfl
set_option maxRecDepth 100000 in
theorem mw_496 : (Jvm.Cond.code ({ cls := "SortLineEventsModel", name := "<init>", desc := "(J)V" } : Jvm.MethodName) prog_12_method_1_code (3 : Nat) (Option.none : Option Jvm.ClassFile.FieldType)) ∈ BIG := big_in (i := 496) rfl rfl
theorem mw_497 : (Jvm.Cond.methodLink "SortLineEventsModel" (1 : Nat) ({ cls := "java/lang/Object", name := "<init>", desc := "()V" } : Jvm.MethodName)) ∈ BIG := big_in (i := 497) (by decide +kernel) rfl
theorem mw_498 : (Jvm.Cond.fieldLink "SortLineEventsModel" (118 : Nat) "SortLineEventsModel" "seed" "J") ∈ BIG := big_in (i := 498) (by decide +kernel) rfl
theorem mw_499 : (Jvm.Cond.fieldLink "SortLineEventsModel" (122 : Nat) "SortLineEventsModel" "belts" "I") ∈ BIG := big_in (i := 499) (by decide +kernel) rfl
theorem mw_500 : (Jvm.Cond.fieldLink "SortLineEventsModel" (7 : Nat) "SortLineEventsModel" "tenths" "[I") ∈ BIG := big_in (i := 500) (by decide +kernel) rfl
theorem mw_501 : (Jvm.Cond.fieldLink "SortLineEventsModel" (13 : Nat) "SortLineEventsModel" "lengths" "[D") ∈ BIG := big_in (i := 501) (by decide +kernel) rfl
theorem mw_502 : (Jvm.Cond.fieldLink "SortLineEventsModel" (17 : Nat) "SortLineEventsModel" "joins" "[I") ∈ BIG := big_in (i := 502) (by decide +kernel) rfl
theorem mw_503 : (Jvm.Cond.fieldLink "SortLineEventsModel" (20 : Nat) "SortLineEventsModel" "ruled" "[Z") ∈ BIG := big_in (i := 503) (by decide +kernel) rfl
theorem mw_504 : (Jvm.Cond.fieldLink "SortLineEventsModel" (24 : Nat) "SortLineEventsModel" "loads" "[D") ∈ BIG := big_in (i := 504) (by decide +kernel) rfl
theorem mw_505 : (Jvm.Cond.fieldLink "SortLineEventsModel" (27 : Nat) "SortLineEventsModel" "stands" "[I") ∈ BIG := big_in (i := 505) (by decide +kernel) rfl
theorem mw_506 : (Jvm.Cond.fieldLink "SortLineEventsModel" (30 : Nat) "SortLineEventsModel" "standing" "[I") ∈ BIG := big_in (i := 506) (by decide +kernel) rfl
theorem mw_507 : (Jvm.Cond.fieldLink "SortLineEventsModel" (141 : Nat) "SortLineEventsModel" "heads" "I") ∈ BIG := big_in (i := 507) (by decide +kernel) rfl
theorem mw_508 : (Jvm.Cond.fieldLink "SortLineEventsModel" (33 : Nat) "SortLineEventsModel" "headBelt" "[I") ∈ BIG := big_in (i := 508) (by decide +kernel) rfl
theorem mw_509 : (Jvm.Cond.fieldLink "SortLineEventsModel" (36 : Nat) "SortLineEventsModel" "headPlace" "[I") ∈ BIG := big_in (i := 509) (by decide +kernel) rfl
theorem mw_510 : (Jvm.Cond.fieldLink "SortLineEventsModel" (39 : Nat) "SortLineEventsModel" "headMiss" "[D") ∈ BIG := big_in (i := 510) (by decide +kernel) rfl
theorem mw_511 : (Jvm.Cond.fieldLink "SortLineEventsModel" (148 : Nat) "SortLineEventsModel" "bunkers" "I") ∈ BIG := big_in (i := 511) (by decide +kernel) rfl
theorem mw_512 : (Jvm.Cond.fieldLink "SortLineEventsModel" (42 : Nat) "SortLineEventsModel" "rooms" "[D") ∈ BIG := big_in (i := 512) (by decide +kernel) rfl
theorem mw_513 : (Jvm.Cond.fieldLink "SortLineEventsModel" (45 : Nat) "SortLineEventsModel" "filled" "[D") ∈ BIG := big_in (i := 513) (by decide +kernel) rfl
theorem mw_514 : (Jvm.Cond.fieldLink "SortLineEventsModel" (162 : Nat) "SortLineEventsModel" "robots" "I") ∈ BIG := big_in (i := 514) (by decide +kernel) rfl
theorem mw_515 : (Jvm.Cond.fieldLink "SortLineEventsModel" (48 : Nat) "SortLineEventsModel" "robotBelt" "[I") ∈ BIG := big_in (i := 515) (by decide +kernel) rfl
theorem mw_516 : (Jvm.Cond.fieldLink "SortLineEventsModel" (51 : Nat) "SortLineEventsModel" "reaches" "[D") ∈ BIG := big_in (i := 516) (by decide +kernel) rfl
theorem mw_517 : (Jvm.Cond.fieldLink "SortLineEventsModel" (54 : Nat) "SortLineEventsModel" "robotMiss" "[D") ∈ BIG := big_in (i := 517) (by decide +kernel) rfl
theorem mw_518 : (Jvm.Cond.fieldLink "SortLineEventsModel" (153 : Nat) "SortLineEventsModel" "pickers" "I") ∈ BIG := big_in (i := 518) (by decide +kernel) rfl
theorem mw_519 : (Jvm.Cond.fieldLink "SortLineEventsModel" (57 : Nat) "SortLineEventsModel" "pickerBelt" "[I") ∈ BIG := big_in (i := 519) (by decide +kernel) rfl
theorem mw_520 : (Jvm.Cond.fieldLink "SortLineEventsModel" (60 : Nat) "SortLineEventsModel" "rates" "[D") ∈ BIG := big_in (i := 520) (by decide +kernel) rfl
theorem mw_521 : (Jvm.Cond.fieldLink "SortLineEventsModel" (63 : Nat) "SortLineEventsModel" "tires" "[D") ∈ BIG := big_in (i := 521) (by decide +kernel) rfl
theorem mw_522 : (Jvm.Cond.fieldLink "SortLineEventsModel" (66 : Nat) "SortLineEventsModel" "busy" "[I") ∈ BIG := big_in (i := 522) (by decide +kernel) rfl
theorem mw_523 : (Jvm.Cond.fieldLink "SortLineEventsModel" (69 : Nat) "SortLineEventsModel" "took" "[I") ∈ BIG := big_in (i := 523) (by decide +kernel) rfl
theorem mw_524 : (Jvm.Cond.fieldLink "SortLineEventsModel" (126 : Nat) "SortLineEventsModel" "pieces" "I") ∈ BIG := big_in (i := 524) (by decide +kernel) rfl
theorem mw_525 : (Jvm.Cond.fieldLink "SortLineEventsModel" (72 : Nat) "SortLineEventsModel" "kinds" "[I") ∈ BIG := big_in (i := 525) (by decide +kernel) rfl
theorem mw_526 : (Jvm.Cond.fieldLink "SortLineEventsModel" (75 : Nat) "SortLineEventsModel" "sizes" "[D") ∈ BIG := big_in (i := 526) (by decide +kernel) rfl
theorem mw_527 : (Jvm.Cond.fieldLink "SortLineEventsModel" (78 : Nat) "SortLineEventsModel" "enters" "[I") ∈ BIG := big_in (i := 527) (by decide +kernel) rfl
theorem mw_528 : (Jvm.Cond.fieldLink "SortLineEventsModel" (81 : Nat) "SortLineEventsModel" "firstBelt" "[I") ∈ BIG := big_in (i := 528) (by decide +kernel) rfl
theorem mw_529 : (Jvm.Cond.fieldLink "SortLineEventsModel" (84 : Nat) "SortLineEventsModel" "states" "[I") ∈ BIG := big_in (i := 529) (by decide +kernel) rfl
theorem mw_530 : (Jvm.Cond.fieldLink "SortLineEventsModel" (87 : Nat) "SortLineEventsModel" "belt" "[I") ∈ BIG := big_in (i := 530) (by decide +kernel) rfl
theorem mw_531 : (Jvm.Cond.fieldLink "SortLineEventsModel" (90 : Nat) "SortLineEventsModel" "place" "[I") ∈ BIG := big_in (i := 531) (by decide +kernel) rfl
theorem mw_532 : (Jvm.Cond.fieldLink "SortLineEventsModel" (93 : Nat) "SortLineEventsModel" "moved" "[Z") ∈ BIG := big_in (i := 532) (by decide +kernel) rfl
theorem mw_533 : (Jvm.Cond.fieldLink "SortLineEventsModel" (165 : Nat) "SortLineEventsModel" "now" "I") ∈ BIG := big_in (i := 533) (by decide +kernel) rfl
theorem mw_534 : (Jvm.Cond.fieldLink "SortLineEventsModel" (178 : Nat) "SortLineEventsModel" "total" "I") ∈ BIG := big_in (i := 534) (by decide +kernel) rfl
theorem mw_535 : (Jvm.Cond.fieldLink "SortLineEventsModel" (96 : Nat) "SortLineEventsModel" "events" "[I") ∈ BIG := big_in (i := 535) (by decide +kernel) rfl
theorem mw_536 : (Jvm.Cond.fieldLink "SortLineEventsModel" (193 : Nat) "SortLineEventsModel" "jams" "I") ∈ BIG := big_in (i := 536) (by decide +kernel) rfl
theorem mw_537 : (Jvm.Cond.fieldLink "SortLineEventsModel" (99 : Nat) "SortLineEventsModel" "jamRows" "[I") ∈ BIG := big_in (i := 537) (by decide +kernel) rfl
theorem mw_538 : (Jvm.Cond.fieldLink "SortLineEventsModel" (102 : Nat) "SortLineEventsModel" "lost" "[J") ∈ BIG := big_in (i := 538) (by decide +kernel) rfl
theorem mw_539 : (Jvm.Cond.fieldLink "SortLineEventsModel" (106 : Nat) "SortLineEventsModel" "outs" "[I") ∈ BIG := big_in (i := 539) (by decide +kernel) rfl
theorem mw_540 : (Jvm.Cond.fieldLink "SortLineEventsModel" (109 : Nat) "SortLineEventsModel" "lastOut" "[I") ∈ BIG := big_in (i := 540) (by decide +kernel) rfl
theorem mw_541 : (Jvm.Cond.fieldLink "SortLineEventsModel" (112 : Nat) "SortLineEventsModel" "leastGap" "[I") ∈ BIG := big_in (i := 541) (by decide +kernel) rfl
theorem mw_542 : (Jvm.Cond.fieldLink "SortLineEventsModel" (115 : Nat) "SortLineEventsModel" "greatestGap" "[I") ∈ BIG := big_in (i := 542) (by decide +kernel) rfl
theorem mw_634 : (Jvm.Cond.arrayClass Jvm.ClassFile.FieldType.double) ∈ BIG := big_in (i := 634) (by decide +kernel) rfl
theorem mw_635 : (Jvm.Cond.arrayClass Jvm.ClassFile.FieldType.boolean) ∈ BIG := big_in (i := 635) (by decide +kernel) rfl
theorem mw_636 : (Jvm.Cond.methodLink "SortLineEventsLaw" (27 : Nat) ({ cls := "SortLineEventsModel", name := "belt", desc := "(ID)I" } : Jvm.MethodName)) ∈ BIG := big_in (i := 636) (by decide +kernel) rfl
theorem mw_637 : (Jvm.Cond.instanceMethod ({ cls := "SortLineEventsModel", name := "belt", desc := "(ID)I" } : Jvm.MethodName)) ∈ BIG := big_in (i := 637) (by decide +kernel) rfl
theorem mw_638 : (Jvm.Cond.selects "SortLineEventsModel" ({ cls := "SortLineEventsModel", name := "belt", desc := "(ID)I" } : Jvm.MethodName) ({ cls := "SortLineEventsModel", name := "belt", desc := "(ID)I" } : Jvm.MethodName)) ∈ BIG := big_in (i := 638) (by decide +kernel) rfl
set_option maxRecDepth 100000 in
theorem mw_639 : (Jvm.Cond.code ({ cls := "SortLineEventsModel", name := "belt", desc := "(ID)I" } : Jvm.MethodName) prog_12_method_6_code (4 : Nat) (Option.some Jvm.ClassFile.FieldType.int)) ∈ BIG := big_in (i := 639) rfl rfl
theorem mw_640 : (Jvm.Cond.constantDouble "SortLineEventsModel" (129 : Nat) (4602678819172646912 : UInt64)) ∈ BIG := big_in (i := 640) (by decide +kernel) rfl
theorem mw_641 : (Jvm.Cond.constantDouble "SortLineEventsModel" (131 : Nat) (4652007308841189376 : UInt64)) ∈ BIG := big_in (i := 641) (by decide +kernel) rfl
theorem mw_642 : (Jvm.Cond.methodLink "SortLineEventsModel" (133 : Nat) ({ cls := "SortLineEventsModel", name := "isIn", desc := "(DDD)Z" } : Jvm.MethodName)) ∈ BIG := big_in (i := 642) (by decide +kernel) rfl
theorem mw_643 : (Jvm.Cond.static ({ cls := "SortLineEventsModel", name := "isIn", desc := "(DDD)Z" } : Jvm.MethodName)) ∈ BIG := big_in (i := 643) (by decide +kernel) rfl
set_option maxRecDepth 100000 in
theorem mw_644 : (Jvm.Cond.code ({ cls := "SortLineEventsModel", name := "isIn", desc := "(DDD)Z" } : Jvm.MethodName) prog_12_method_3_code (6 : Nat) (Option.some Jvm.ClassFile.FieldType.boolean)) ∈ BIG := big_in (i := 644) rfl rfl
theorem mw_645 : (Jvm.Cond.methodLink "SortLineEventsModel" (137 : Nat) ({ cls := "SortLineEventsModel", name := "isOpen", desc := "()Z" } : Jvm.MethodName)) ∈ BIG := big_in (i := 645) (by decide +kernel) rfl
theorem mw_647 : (Jvm.Cond.instanceMethod ({ cls := "SortLineEventsModel", name := "isOpen", desc := "()Z" } : Jvm.MethodName)) ∈ BIG := big_in (i := 647) (by decide +kernel) rfl
set_option maxRecDepth 100000 in
theorem mw_648 : (Jvm.Cond.code ({ cls := "SortLineEventsModel", name := "isOpen", desc := "()Z" } : Jvm.MethodName) prog_12_method_5_code (1 : Nat) (Option.some Jvm.ClassFile.FieldType.boolean)) ∈ BIG := big_in (i := 648) rfl rfl
theorem mw_649 : (Jvm.Cond.methodLink "SortLineEventsLaw" (32 : Nat) ({ cls := "SortLineEventsModel", name := "head", desc := "(IDD)I" } : Jvm.MethodName)) ∈ BIG := big_in (i := 649) (by decide +kernel) rfl
theorem mw_650 : (Jvm.Cond.instanceMethod ({ cls := "SortLineEventsModel", name := "head", desc := "(IDD)I" } : Jvm.MethodName)) ∈ BIG := big_in (i := 650) (by decide +kernel) rfl
theorem mw_651 : (Jvm.Cond.selects "SortLineEventsModel" ({ cls := "SortLineEventsModel", name := "head", desc := "(IDD)I" } : Jvm.MethodName) ({ cls := "SortLineEventsModel", name := "head", desc := "(IDD)I" } : Jvm.MethodName)) ∈ BIG := big_in (i := 651) (by decide +kernel) rfl
set_option maxRecDepth 100000 in
theorem mw_652 : (Jvm.Cond.code ({ cls := "SortLineEventsModel", name := "head", desc := "(IDD)I" } : Jvm.MethodName) prog_12_method_7_code (6 : Nat) (Option.some Jvm.ClassFile.FieldType.int)) ∈ BIG := big_in (i := 652) rfl rfl
theorem mw_653 : (Jvm.Cond.methodLink "SortLineEventsModel" (144 : Nat) ({ cls := "SortLineEventsModel", name := "isBelt", desc := "(I)Z" } : Jvm.MethodName)) ∈ BIG := big_in (i := 653) (by decide +kernel) rfl
theorem mw_655 : (Jvm.Cond.instanceMethod ({ cls := "SortLineEventsModel", name := "isBelt", desc := "(I)Z" } : Jvm.MethodName)) ∈ BIG := big_in (i := 655) (by decide +kernel) rfl
set_option maxRecDepth 100000 in
theorem mw_656 : (Jvm.Cond.code ({ cls := "SortLineEventsModel", name := "isBelt", desc := "(I)Z" } : Jvm.MethodName) prog_12_method_4_code (2 : Nat) (Option.some Jvm.ClassFile.FieldType.boolean)) ∈ BIG := big_in (i := 656) rfl rfl
theorem mw_657 : (Jvm.Cond.methodLink "SortLineEventsLaw" (37 : Nat) ({ cls := "SortLineEventsModel", name := "bunker", desc := "(D)I" } : Jvm.MethodName)) ∈ BIG := big_in (i := 657) (by decide +kernel) rfl
theorem mw_658 : (Jvm.Cond.instanceMethod ({ cls := "SortLineEventsModel", name := "bunker", desc := "(D)I" } : Jvm.MethodName)) ∈ BIG := big_in (i := 658) (by decide +kernel) rfl
theorem mw_659 : (Jvm.Cond.selects "SortLineEventsModel" ({ cls := "SortLineEventsModel", name := "bunker", desc := "(D)I" } : Jvm.MethodName) ({ cls := "SortLineEventsModel", name := "bunker", desc := "(D)I" } : Jvm.MethodName)) ∈ BIG := big_in (i := 659) (by decide +kernel) rfl
set_option maxRecDepth 100000 in
theorem mw_660 : (Jvm.Cond.code ({ cls := "SortLineEventsModel", name := "bunker", desc := "(D)I" } : Jvm.MethodName) prog_12_method_8_code (3 : Nat) (Option.some Jvm.ClassFile.FieldType.int)) ∈ BIG := big_in (i := 660) rfl rfl
theorem mw_661 : (Jvm.Cond.constantDouble "SortLineEventsModel" (151 : Nat) (4666723172467343360 : UInt64)) ∈ BIG := big_in (i := 661) (by decide +kernel) rfl
theorem mw_662 : (Jvm.Cond.methodLink "SortLineEventsLaw" (42 : Nat) ({ cls := "SortLineEventsModel", name := "joinTo", desc := "(II)Z" } : Jvm.MethodName)) ∈ BIG := big_in (i := 662) (by decide +kernel) rfl
theorem mw_663 : (Jvm.Cond.instanceMethod ({ cls := "SortLineEventsModel", name := "joinTo", desc := "(II)Z" } : Jvm.MethodName)) ∈ BIG := big_in (i := 663) (by decide +kernel) rfl
theorem mw_664 : (Jvm.Cond.selects "SortLineEventsModel" ({ cls := "SortLineEventsModel", name := "joinTo", desc := "(II)Z" } : Jvm.MethodName) ({ cls := "SortLineEventsModel", name := "joinTo", desc := "(II)Z" } : Jvm.MethodName)) ∈ BIG := big_in (i := 664) (by decide +kernel) rfl
set_option maxRecDepth 100000 in
theorem mw_665 : (Jvm.Cond.code ({ cls := "SortLineEventsModel", name := "joinTo", desc := "(II)Z" } : Jvm.MethodName) prog_12_method_9_code (4 : Nat) (Option.some Jvm.ClassFile.FieldType.boolean)) ∈ BIG := big_in (i := 665) rfl rfl
theorem mw_666 : (Jvm.Cond.methodLink "SortLineEventsLaw" (47 : Nat) ({ cls := "SortLineEventsModel", name := "rule", desc := "(IDI)Z" } : Jvm.MethodName)) ∈ BIG := big_in (i := 666) (by decide +kernel) rfl
theorem mw_667 : (Jvm.Cond.instanceMethod ({ cls := "SortLineEventsModel", name := "rule", desc := "(IDI)Z" } : Jvm.MethodName)) ∈ BIG := big_in (i := 667) (by decide +kernel) rfl
theorem mw_668 : (Jvm.Cond.selects "SortLineEventsModel" ({ cls := "SortLineEventsModel", name := "rule", desc := "(IDI)Z" } : Jvm.MethodName) ({ cls := "SortLineEventsModel", name := "rule", desc := "(IDI)Z" } : Jvm.MethodName)) ∈ BIG := big_in (i := 668) (by decide +kernel) rfl
set_option maxRecDepth 100000 in
theorem mw_669 : (Jvm.Cond.code ({ cls := "SortLineEventsModel", name := "rule", desc := "(IDI)Z" } : Jvm.MethodName) prog_12_method_10_code (5 : Nat) (Option.some Jvm.ClassFile.FieldType.boolean)) ∈ BIG := big_in (i := 669) rfl rfl
theorem mw_670 : (Jvm.Cond.methodLink "SortLineEventsLaw" (51 : Nat) ({ cls := "SortLineEventsModel", name := "picker", desc := "(IDD)I" } : Jvm.MethodName)) ∈ BIG := big_in (i := 670) (by decide +kernel) rfl
theorem mw_671 : (Jvm.Cond.instanceMethod ({ cls := "SortLineEventsModel", name := "picker", desc := "(IDD)I" } : Jvm.MethodName)) ∈ BIG := big_in (i := 671) (by decide +kernel) rfl
theorem mw_672 : (Jvm.Cond.selects "SortLineEventsModel" ({ cls := "SortLineEventsModel", name := "picker", desc := "(IDD)I" } : Jvm.MethodName) ({ cls := "SortLineEventsModel", name := "picker", desc := "(IDD)I" } : Jvm.MethodName)) ∈ BIG := big_in (i := 672) (by decide +kernel) rfl
set_option maxRecDepth 100000 in
theorem mw_673 : (Jvm.Cond.code ({ cls := "SortLineEventsModel", name := "picker", desc := "(IDD)I" } : Jvm.MethodName) prog_12_method_11_code (6 : Nat) (Option.some Jvm.ClassFile.FieldType.int)) ∈ BIG := big_in (i := 673) rfl rfl
theorem mw_674 : (Jvm.Cond.constantDouble "SortLineEventsModel" (156 : Nat) (4593671619917905920 : UInt64)) ∈ BIG := big_in (i := 674) (by decide +kernel) rfl
theorem mw_675 : (Jvm.Cond.constantDouble "SortLineEventsModel" (158 : Nat) (4636737291354636288 : UInt64)) ∈ BIG := big_in (i := 675) (by decide +kernel) rfl
theorem mw_676 : (Jvm.Cond.constantDouble "SortLineEventsModel" (160 : Nat) (4621819117588971520 : UInt64)) ∈ BIG := big_in (i := 676) (by decide +kernel) rfl
theorem mw_677 : (Jvm.Cond.methodLink "SortLineEventsLaw" (55 : Nat) ({ cls := "SortLineEventsModel", name := "robot", desc := "(IDD)I" } : Jvm.MethodName)) ∈ BIG := big_in (i := 677) (by decide +kernel) rfl
theorem mw_678 : (Jvm.Cond.instanceMethod ({ cls := "SortLineEventsModel", name := "robot", desc := "(IDD)I" } : Jvm.MethodName)) ∈ BIG := big_in (i := 678) (by decide +kernel) rfl
theorem mw_679 : (Jvm.Cond.selects "SortLineEventsModel" ({ cls := "SortLineEventsModel", name := "robot", desc := "(IDD)I" } : Jvm.MethodName) ({ cls := "SortLineEventsModel", name := "robot", desc := "(IDD)I" } : Jvm.MethodName)) ∈ BIG := big_in (i := 679) (by decide +kernel) rfl
set_option maxRecDepth 100000 in
theorem mw_680 : (Jvm.Cond.code ({ cls := "SortLineEventsModel", name := "robot", desc := "(IDD)I" } : Jvm.MethodName) prog_12_method_12_code (6 : Nat) (Option.some Jvm.ClassFile.FieldType.int)) ∈ BIG := big_in (i := 680) rfl rfl
theorem mw_681 : (Jvm.Cond.methodLink "SortLineEventsLaw" (60 : Nat) ({ cls := "SortLineEventsModel", name := "feed", desc := "(IIID)Z" } : Jvm.MethodName)) ∈ BIG := big_in (i := 681) (by decide +kernel) rfl
theorem mw_682 : (Jvm.Cond.instanceMethod ({ cls := "SortLineEventsModel", name := "feed", desc := "(IIID)Z" } : Jvm.MethodName)) ∈ BIG := big_in (i := 682) (by decide +kernel) rfl
theorem mw_683 : (Jvm.Cond.selects "SortLineEventsModel" ({ cls := "SortLineEventsModel", name := "feed", desc := "(IIID)Z" } : Jvm.MethodName) ({ cls := "SortLineEventsModel", name := "feed", desc := "(IIID)Z" } : Jvm.MethodName)) ∈ BIG := big_in (i := 683) (by decide +kernel) rfl
set_option maxRecDepth 100000 in
theorem mw_684 : (Jvm.Cond.code ({ cls := "SortLineEventsModel", name := "feed", desc := "(IIID)Z" } : Jvm.MethodName) prog_12_method_13_code (6 : Nat) (Option.some Jvm.ClassFile.FieldType.boolean)) ∈ BIG := big_in (i := 684) rfl rfl
theorem mw_685 : (Jvm.Cond.methodLink "SortLineEventsLaw" (65 : Nat) ({ cls := "SortLineEventsModel", name := "run", desc := "(I)I" } : Jvm.MethodName)) ∈ BIG := big_in (i := 685) (by decide +kernel) rfl
theorem mw_686 : (Jvm.Cond.instanceMethod ({ cls := "SortLineEventsModel", name := "run", desc := "(I)I" } : Jvm.MethodName)) ∈ BIG := big_in (i := 686) (by decide +kernel) rfl
theorem mw_687 : (Jvm.Cond.selects "SortLineEventsModel" ({ cls := "SortLineEventsModel", name := "run", desc := "(I)I" } : Jvm.MethodName) ({ cls := "SortLineEventsModel", name := "run", desc := "(I)I" } : Jvm.MethodName)) ∈ BIG := big_in (i := 687) (by decide +kernel) rfl
set_option maxRecDepth 100000 in
theorem mw_688 : (Jvm.Cond.code ({ cls := "SortLineEventsModel", name := "run", desc := "(I)I" } : Jvm.MethodName) prog_12_method_25_code (2 : Nat) (Option.some Jvm.ClassFile.FieldType.int)) ∈ BIG := big_in (i := 688) rfl rfl
theorem mw_689 : (Jvm.Cond.methodLink "SortLineEventsModel" (220 : Nat) ({ cls := "SortLineEventsModel", name := "tenth", desc := "()V" } : Jvm.MethodName)) ∈ BIG := big_in (i := 689) (by decide +kernel) rfl
theorem mw_691 : (Jvm.Cond.instanceMethod ({ cls := "SortLineEventsModel", name := "tenth", desc := "()V" } : Jvm.MethodName)) ∈ BIG := big_in (i := 691) (by decide +kernel) rfl
set_option maxRecDepth 100000 in
theorem mw_692 : (Jvm.Cond.code ({ cls := "SortLineEventsModel", name := "tenth", desc := "()V" } : Jvm.MethodName) prog_12_method_24_code (2 : Nat) (Option.none : Option Jvm.ClassFile.FieldType)) ∈ BIG := big_in (i := 692) rfl rfl
theorem mw_693 : (Jvm.Cond.methodLink "SortLineEventsModel" (207 : Nat) ({ cls := "SortLineEventsModel", name := "enter", desc := "(II)V" } : Jvm.MethodName)) ∈ BIG := big_in (i := 693) (by decide +kernel) rfl
theorem mw_695 : (Jvm.Cond.instanceMethod ({ cls := "SortLineEventsModel", name := "enter", desc := "(II)V" } : Jvm.MethodName)) ∈ BIG := big_in (i := 695) (by decide +kernel) rfl
set_option maxRecDepth 100000 in
theorem mw_696 : (Jvm.Cond.code ({ cls := "SortLineEventsModel", name := "enter", desc := "(II)V" } : Jvm.MethodName) prog_12_method_19_code (3 : Nat) (Option.none : Option Jvm.ClassFile.FieldType)) ∈ BIG := big_in (i := 696) rfl rfl
theorem mw_697 : (Jvm.Cond.methodLink "SortLineEventsModel" (185 : Nat) ({ cls := "SortLineEventsModel", name := "lose", desc := "(IIII)V" } : Jvm.MethodName)) ∈ BIG := big_in (i := 697) (by decide +kernel) rfl
theorem mw_699 : (Jvm.Cond.instanceMethod ({ cls := "SortLineEventsModel", name := "lose", desc := "(IIII)V" } : Jvm.MethodName)) ∈ BIG := big_in (i := 699) (by decide +kernel) rfl
set_option maxRecDepth 100000 in
theorem mw_700 : (Jvm.Cond.code ({ cls := "SortLineEventsModel", name := "lose", desc := "(IIII)V" } : Jvm.MethodName) prog_12_method_16_code (5 : Nat) (Option.none : Option Jvm.ClassFile.FieldType)) ∈ BIG := big_in (i := 700) rfl rfl
theorem mw_701 : (Jvm.Cond.methodLink "SortLineEventsModel" (181 : Nat) ({ cls := "SortLineEventsModel", name := "note", desc := "(III)V" } : Jvm.MethodName)) ∈ BIG := big_in (i := 701) (by decide +kernel) rfl
theorem mw_703 : (Jvm.Cond.instanceMethod ({ cls := "SortLineEventsModel", name := "note", desc := "(III)V" } : Jvm.MethodName)) ∈ BIG := big_in (i := 703) (by decide +kernel) rfl
set_option maxRecDepth 100000 in
theorem mw_704 : (Jvm.Cond.code ({ cls := "SortLineEventsModel", name := "note", desc := "(III)V" } : Jvm.MethodName) prog_12_method_15_code (4 : Nat) (Option.none : Option Jvm.ClassFile.FieldType)) ∈ BIG := big_in (i := 704) rfl rfl
theorem mw_705 : (Jvm.Cond.methodLink "SortLineEventsModel" (189 : Nat) ({ cls := "SortLineEventsModel", name := "sizesOn", desc := "(II)D" } : Jvm.MethodName)) ∈ BIG := big_in (i := 705) (by decide +kernel) rfl
theorem mw_707 : (Jvm.Cond.instanceMethod ({ cls := "SortLineEventsModel", name := "sizesOn", desc := "(II)D" } : Jvm.MethodName)) ∈ BIG := big_in (i := 707) (by decide +kernel) rfl
set_option maxRecDepth 100000 in
theorem mw_708 : (Jvm.Cond.code ({ cls := "SortLineEventsModel", name := "sizesOn", desc := "(II)D" } : Jvm.MethodName) prog_12_method_17_code (6 : Nat) (Option.some Jvm.ClassFile.FieldType.double)) ∈ BIG := big_in (i := 708) rfl rfl
theorem mw_709 : (Jvm.Cond.methodLink "SortLineEventsModel" (196 : Nat) ({ cls := "SortLineEventsModel", name := "piecesOn", desc := "(I)I" } : Jvm.MethodName)) ∈ BIG := big_in (i := 709) (by decide +kernel) rfl
theorem mw_711 : (Jvm.Cond.instanceMethod ({ cls := "SortLineEventsModel", name := "piecesOn", desc := "(I)I" } : Jvm.MethodName)) ∈ BIG := big_in (i := 711) (by decide +kernel) rfl
set_option maxRecDepth 100000 in
theorem mw_712 : (Jvm.Cond.code ({ cls := "SortLineEventsModel", name := "piecesOn", desc := "(I)I" } : Jvm.MethodName) prog_12_method_18_code (4 : Nat) (Option.some Jvm.ClassFile.FieldType.int)) ∈ BIG := big_in (i := 712) rfl rfl
theorem mw_713 : (Jvm.Cond.methodLink "SortLineEventsModel" (200 : Nat) ({ cls := "SortLineEventsModel", name := "pass", desc := "(I)V" } : Jvm.MethodName)) ∈ BIG := big_in (i := 713) (by decide +kernel) rfl
theorem mw_715 : (Jvm.Cond.instanceMethod ({ cls := "SortLineEventsModel", name := "pass", desc := "(I)V" } : Jvm.MethodName)) ∈ BIG := big_in (i := 715) (by decide +kernel) rfl
set_option maxRecDepth 100000 in
theorem mw_716 : (Jvm.Cond.code ({ cls := "SortLineEventsModel", name := "pass", desc := "(I)V" } : Jvm.MethodName) prog_12_method_20_code (3 : Nat) (Option.none : Option Jvm.ClassFile.FieldType)) ∈ BIG := big_in (i := 716) rfl rfl
theorem mw_717 : (Jvm.Cond.methodLink "SortLineEventsModel" (204 : Nat) ({ cls := "SortLineEventsModel", name := "chance", desc := "(II)D" } : Jvm.MethodName)) ∈ BIG := big_in (i := 717) (by decide +kernel) rfl
theorem mw_719 : (Jvm.Cond.instanceMethod ({ cls := "SortLineEventsModel", name := "chance", desc := "(II)D" } : Jvm.MethodName)) ∈ BIG := big_in (i := 719) (by decide +kernel) rfl
set_option maxRecDepth 100000 in
theorem mw_720 : (Jvm.Cond.code ({ cls := "SortLineEventsModel", name := "chance", desc := "(II)D" } : Jvm.MethodName) prog_12_method_14_code (5 : Nat) (Option.some Jvm.ClassFile.FieldType.double)) ∈ BIG := big_in (i := 720) rfl rfl
theorem mw_721 : (Jvm.Cond.constantLong "SortLineEventsModel" (168 : Nat) (6364136223846793005 : Int64)) ∈ BIG := big_in (i := 721) (by decide +kernel) rfl
theorem mw_722 : (Jvm.Cond.constantLong "SortLineEventsModel" (170 : Nat) (1442695040888963407 : Int64)) ∈ BIG := big_in (i := 722) (by decide +kernel) rfl
theorem mw_723 : (Jvm.Cond.constantLong "SortLineEventsModel" (172 : Nat) (2862933555777941757 : Int64)) ∈ BIG := big_in (i := 723) (by decide +kernel) rfl
theorem mw_724 : (Jvm.Cond.constantLong "SortLineEventsModel" (174 : Nat) (-4658895280553007687 : Int64)) ∈ BIG := big_in (i := 724) (by decide +kernel) rfl
theorem mw_725 : (Jvm.Cond.constantDouble "SortLineEventsModel" (176 : Nat) (4845873199050653696 : UInt64)) ∈ BIG := big_in (i := 725) (by decide +kernel) rfl
theorem mw_726 : (Jvm.Cond.methodLink "SortLineEventsModel" (214 : Nat) ({ cls := "SortLineEventsModel", name := "isTaken", desc := "(I)Z" } : Jvm.MethodName)) ∈ BIG := big_in (i := 726) (by decide +kernel) rfl
theorem mw_728 : (Jvm.Cond.instanceMethod ({ cls := "SortLineEventsModel", name := "isTaken", desc := "(I)Z" } : Jvm.MethodName)) ∈ BIG := big_in (i := 728) (by decide +kernel) rfl
set_option maxRecDepth 100000 in
theorem mw_729 : (Jvm.Cond.code ({ cls := "SortLineEventsModel", name := "isTaken", desc := "(I)Z" } : Jvm.MethodName) prog_12_method_21_code (4 : Nat) (Option.some Jvm.ClassFile.FieldType.boolean)) ∈ BIG := big_in (i := 729) rfl rfl
theorem mw_730 : (Jvm.Cond.methodLink "SortLineEventsModel" (217 : Nat) ({ cls := "SortLineEventsModel", name := "goOn", desc := "(I)V" } : Jvm.MethodName)) ∈ BIG := big_in (i := 730) (by decide +kernel) rfl
theorem mw_732 : (Jvm.Cond.instanceMethod ({ cls := "SortLineEventsModel", name := "goOn", desc := "(I)V" } : Jvm.MethodName)) ∈ BIG := big_in (i := 732) (by decide +kernel) rfl
set_option maxRecDepth 100000 in
theorem mw_733 : (Jvm.Cond.code ({ cls := "SortLineEventsModel", name := "goOn", desc := "(I)V" } : Jvm.MethodName) prog_12_method_22_code (4 : Nat) (Option.none : Option Jvm.ClassFile.FieldType)) ∈ BIG := big_in (i := 733) rfl rfl
theorem mw_734 : (Jvm.Cond.methodLink "SortLineEventsModel" (211 : Nat) ({ cls := "SortLineEventsModel", name := "goOut", desc := "(I)V" } : Jvm.MethodName)) ∈ BIG := big_in (i := 734) (by decide +kernel) rfl
theorem mw_736 : (Jvm.Cond.instanceMethod ({ cls := "SortLineEventsModel", name := "goOut", desc := "(I)V" } : Jvm.MethodName)) ∈ BIG := big_in (i := 736) (by decide +kernel) rfl
set_option maxRecDepth 100000 in
theorem mw_737 : (Jvm.Cond.code ({ cls := "SortLineEventsModel", name := "goOut", desc := "(I)V" } : Jvm.MethodName) prog_12_method_23_code (4 : Nat) (Option.none : Option Jvm.ClassFile.FieldType)) ∈ BIG := big_in (i := 737) rfl rfl
theorem mw_738 : (Jvm.Cond.methodLink "SortLineEventsLaw" (70 : Nat) ({ cls := "SortLineEventsModel", name := "event", desc := "(II)I" } : Jvm.MethodName)) ∈ BIG := big_in (i := 738) (by decide +kernel) rfl
theorem mw_739 : (Jvm.Cond.instanceMethod ({ cls := "SortLineEventsModel", name := "event", desc := "(II)I" } : Jvm.MethodName)) ∈ BIG := big_in (i := 739) (by decide +kernel) rfl
theorem mw_740 : (Jvm.Cond.selects "SortLineEventsModel" ({ cls := "SortLineEventsModel", name := "event", desc := "(II)I" } : Jvm.MethodName) ({ cls := "SortLineEventsModel", name := "event", desc := "(II)I" } : Jvm.MethodName)) ∈ BIG := big_in (i := 740) (by decide +kernel) rfl
set_option maxRecDepth 100000 in
theorem mw_741 : (Jvm.Cond.code ({ cls := "SortLineEventsModel", name := "event", desc := "(II)I" } : Jvm.MethodName) prog_12_method_26_code (3 : Nat) (Option.some Jvm.ClassFile.FieldType.int)) ∈ BIG := big_in (i := 741) rfl rfl
theorem mw_742 : (Jvm.Cond.methodLink "SortLineEventsLaw" (75 : Nat) ({ cls := "SortLineEventsModel", name := "out", desc := "(II)J" } : Jvm.MethodName)) ∈ BIG := big_in (i := 742) (by decide +kernel) rfl
theorem mw_743 : (Jvm.Cond.instanceMethod ({ cls := "SortLineEventsModel", name := "out", desc := "(II)J" } : Jvm.MethodName)) ∈ BIG := big_in (i := 743) (by decide +kernel) rfl
theorem mw_744 : (Jvm.Cond.selects "SortLineEventsModel" ({ cls := "SortLineEventsModel", name := "out", desc := "(II)J" } : Jvm.MethodName) ({ cls := "SortLineEventsModel", name := "out", desc := "(II)J" } : Jvm.MethodName)) ∈ BIG := big_in (i := 744) (by decide +kernel) rfl
set_option maxRecDepth 100000 in
theorem mw_745 : (Jvm.Cond.code ({ cls := "SortLineEventsModel", name := "out", desc := "(II)J" } : Jvm.MethodName) prog_12_method_28_code (3 : Nat) (Option.some Jvm.ClassFile.FieldType.long)) ∈ BIG := big_in (i := 745) rfl rfl
theorem mw_746 : (Jvm.Cond.methodLink "SortLineEventsModel" (223 : Nat) ({ cls := "SortLineEventsModel", name := "isKind", desc := "(II)Z" } : Jvm.MethodName)) ∈ BIG := big_in (i := 746) (by decide +kernel) rfl
theorem mw_748 : (Jvm.Cond.instanceMethod ({ cls := "SortLineEventsModel", name := "isKind", desc := "(II)Z" } : Jvm.MethodName)) ∈ BIG := big_in (i := 748) (by decide +kernel) rfl
set_option maxRecDepth 100000 in
theorem mw_749 : (Jvm.Cond.code ({ cls := "SortLineEventsModel", name := "isKind", desc := "(II)Z" } : Jvm.MethodName) prog_12_method_27_code (3 : Nat) (Option.some Jvm.ClassFile.FieldType.boolean)) ∈ BIG := big_in (i := 749) rfl rfl
theorem mw_750 : (Jvm.Cond.constantLong "SortLineEventsModel" (227 : Nat) (-1 : Int64)) ∈ BIG := big_in (i := 750) (by decide +kernel) rfl
theorem mw_751 : (Jvm.Cond.methodLink "SortLineEventsLaw" (80 : Nat) ({ cls := "SortLineEventsModel", name := "inside", desc := "()J" } : Jvm.MethodName)) ∈ BIG := big_in (i := 751) (by decide +kernel) rfl
theorem mw_752 : (Jvm.Cond.instanceMethod ({ cls := "SortLineEventsModel", name := "inside", desc := "()J" } : Jvm.MethodName)) ∈ BIG := big_in (i := 752) (by decide +kernel) rfl
theorem mw_753 : (Jvm.Cond.selects "SortLineEventsModel" ({ cls := "SortLineEventsModel", name := "inside", desc := "()J" } : Jvm.MethodName) ({ cls := "SortLineEventsModel", name := "inside", desc := "()J" } : Jvm.MethodName)) ∈ BIG := big_in (i := 753) (by decide +kernel) rfl
set_option maxRecDepth 100000 in
theorem mw_754 : (Jvm.Cond.code ({ cls := "SortLineEventsModel", name := "inside", desc := "()J" } : Jvm.MethodName) prog_12_method_30_code (1 : Nat) (Option.some Jvm.ClassFile.FieldType.long)) ∈ BIG := big_in (i := 754) rfl rfl
theorem mw_755 : (Jvm.Cond.methodLink "SortLineEventsModel" (229 : Nat) ({ cls := "SortLineEventsModel", name := "count", desc := "(I)I" } : Jvm.MethodName)) ∈ BIG := big_in (i := 755) (by decide +kernel) rfl
theorem mw_757 : (Jvm.Cond.instanceMethod ({ cls := "SortLineEventsModel", name := "count", desc := "(I)I" } : Jvm.MethodName)) ∈ BIG := big_in (i := 757) (by decide +kernel) rfl
set_option maxRecDepth 100000 in
theorem mw_758 : (Jvm.Cond.code ({ cls := "SortLineEventsModel", name := "count", desc := "(I)I" } : Jvm.MethodName) prog_12_method_29_code (4 : Nat) (Option.some Jvm.ClassFile.FieldType.int)) ∈ BIG := big_in (i := 758) rfl rfl
theorem mw_759 : (Jvm.Cond.methodLink "SortLineEventsLaw" (84 : Nat) ({ cls := "SortLineEventsModel", name := "jam", desc := "(II)I" } : Jvm.MethodName)) ∈ BIG := big_in (i := 759) (by decide +kernel) rfl
theorem mw_760 : (Jvm.Cond.instanceMethod ({ cls := "SortLineEventsModel", name := "jam", desc := "(II)I" } : Jvm.MethodName)) ∈ BIG := big_in (i := 760) (by decide +kernel) rfl
theorem mw_761 : (Jvm.Cond.selects "SortLineEventsModel" ({ cls := "SortLineEventsModel", name := "jam", desc := "(II)I" } : Jvm.MethodName) ({ cls := "SortLineEventsModel", name := "jam", desc := "(II)I" } : Jvm.MethodName)) ∈ BIG := big_in (i := 761) (by decide +kernel) rfl
set_option maxRecDepth 100000 in
theorem mw_762 : (Jvm.Cond.code ({ cls := "SortLineEventsModel", name := "jam", desc := "(II)I" } : Jvm.MethodName) prog_12_method_31_code (3 : Nat) (Option.some Jvm.ClassFile.FieldType.int)) ∈ BIG := big_in (i := 762) rfl rfl
theorem mw_763 : (Jvm.Cond.methodLink "SortLineEventsLaw" (89 : Nat) ({ cls := "SortLineEventsModel", name := "lost", desc := "(I)J" } : Jvm.MethodName)) ∈ BIG := big_in (i := 763) (by decide +kernel) rfl
theorem mw_764 : (Jvm.Cond.instanceMethod ({ cls := "SortLineEventsModel", name := "lost", desc := "(I)J" } : Jvm.MethodName)) ∈ BIG := big_in (i := 764) (by decide +kernel) rfl
theorem mw_765 : (Jvm.Cond.selects "SortLineEventsModel" ({ cls := "SortLineEventsModel", name := "lost", desc := "(I)J" } : Jvm.MethodName) ({ cls := "SortLineEventsModel", name := "lost", desc := "(I)J" } : Jvm.MethodName)) ∈ BIG := big_in (i := 765) (by decide +kernel) rfl
set_option maxRecDepth 100000 in
theorem mw_766 : (Jvm.Cond.code ({ cls := "SortLineEventsModel", name := "lost", desc := "(I)J" } : Jvm.MethodName) prog_12_method_32_code (2 : Nat) (Option.some Jvm.ClassFile.FieldType.long)) ∈ BIG := big_in (i := 766) rfl rfl
theorem mw_767 : (Jvm.Cond.methodLink "SortLineEventsLaw" (94 : Nat) ({ cls := "SortLineEventsModel", name := "interval", desc := "(III)D" } : Jvm.MethodName)) ∈ BIG := big_in (i := 767) (by decide +kernel) rfl
theorem mw_768 : (Jvm.Cond.instanceMethod ({ cls := "SortLineEventsModel", name := "interval", desc := "(III)D" } : Jvm.MethodName)) ∈ BIG := big_in (i := 768) (by decide +kernel) rfl
theorem mw_769 : (Jvm.Cond.selects "SortLineEventsModel" ({ cls := "SortLineEventsModel", name := "interval", desc := "(III)D" } : Jvm.MethodName) ({ cls := "SortLineEventsModel", name := "interval", desc := "(III)D" } : Jvm.MethodName)) ∈ BIG := big_in (i := 769) (by decide +kernel) rfl
set_option maxRecDepth 100000 in
theorem mw_770 : (Jvm.Cond.code ({ cls := "SortLineEventsModel", name := "interval", desc := "(III)D" } : Jvm.MethodName) prog_12_method_33_code (4 : Nat) (Option.some Jvm.ClassFile.FieldType.double)) ∈ BIG := big_in (i := 770) rfl rfl
theorem mw_771 : (Jvm.Cond.constantDouble "SortLineEventsModel" (232 : Nat) (13830554455654793216 : UInt64)) ∈ BIG := big_in (i := 771) (by decide +kernel) rfl
theorem mw_772 : (Jvm.Cond.methodLink "SortLineEventsLaw" (99 : Nat) ({ cls := "SortLineEventsModel", name := "same", desc := "()Z" } : Jvm.MethodName)) ∈ BIG := big_in (i := 772) (by decide +kernel) rfl
theorem mw_773 : (Jvm.Cond.instanceMethod ({ cls := "SortLineEventsModel", name := "same", desc := "()Z" } : Jvm.MethodName)) ∈ BIG := big_in (i := 773) (by decide +kernel) rfl
theorem mw_774 : (Jvm.Cond.selects "SortLineEventsModel" ({ cls := "SortLineEventsModel", name := "same", desc := "()Z" } : Jvm.MethodName) ({ cls := "SortLineEventsModel", name := "same", desc := "()Z" } : Jvm.MethodName)) ∈ BIG := big_in (i := 774) (by decide +kernel) rfl
set_option maxRecDepth 100000 in
theorem mw_775 : (Jvm.Cond.code ({ cls := "SortLineEventsModel", name := "same", desc := "()Z" } : Jvm.MethodName) prog_12_method_34_code (3 : Nat) (Option.some Jvm.ClassFile.FieldType.boolean)) ∈ BIG := big_in (i := 775) rfl rfl
theorem mw_776 : (Jvm.Cond.methodLink "SortLineEventsModel" (234 : Nat) ({ cls := "SortLineEventsModel", name := "inside", desc := "()J" } : Jvm.MethodName)) ∈ BIG := big_in (i := 776) (by decide +kernel) rfl
theorem mw_777 : (Jvm.Cond.methodLink "SortLineEventsLaw" (106 : Nat) ({ cls := "SortLineEventsModel", name := "pieceKind", desc := "(J)I" } : Jvm.MethodName)) ∈ BIG := big_in (i := 777) (by decide +kernel) rfl
theorem mw_778 : (Jvm.Cond.instanceMethod ({ cls := "SortLineEventsModel", name := "pieceKind", desc := "(J)I" } : Jvm.MethodName)) ∈ BIG := big_in (i := 778) (by decide +kernel) rfl
theorem mw_779 : (Jvm.Cond.selects "SortLineEventsModel" ({ cls := "SortLineEventsModel", name := "pieceKind", desc := "(J)I" } : Jvm.MethodName) ({ cls := "SortLineEventsModel", name := "pieceKind", desc := "(J)I" } : Jvm.MethodName)) ∈ BIG := big_in (i := 779) (by decide +kernel) rfl
set_option maxRecDepth 100000 in
theorem mw_780 : (Jvm.Cond.code ({ cls := "SortLineEventsModel", name := "pieceKind", desc := "(J)I" } : Jvm.MethodName) prog_12_method_35_code (3 : Nat) (Option.some Jvm.ClassFile.FieldType.int)) ∈ BIG := big_in (i := 780) rfl rfl
theorem mw_781 : (Jvm.Cond.constantDouble "SortLineEventsLaw" (21 : Nat) (4593671619917905920 : UInt64)) ∈ BIG := big_in (i := 781) (by decide +kernel) rfl
theorem mw_782 : (Jvm.Cond.constantLong "SortLineEventsLaw" (100 : Nat) (4294967295 : Int64)) ∈ BIG := big_in (i := 782) (by decide +kernel) rfl
theorem mp_0 : Cond.selects "SortLineEvents" ⟨"SortLineEvents", "isClosed", "()Z"⟩ ⟨"SortLineEvents", "isClosed", "()Z"⟩ ∈ BIG := big_pv (i := 0) (by decide +kernel) rfl
theorem mp_1 : Cond.selects "SortLineEvents" ⟨"SortLineEvents", "beltNumbered", "(I)LSortLineEvents$Belt;"⟩ ⟨"SortLineEvents", "beltNumbered", "(I)LSortLineEvents$Belt;"⟩ ∈ BIG := big_pv (i := 1) (by decide +kernel) rfl
theorem mp_2 : Cond.selects "SortLineEvents" ⟨"SortLineEvents", "bunkerJoinedBy", "(I)LSortLineEvents$Bunker;"⟩ ⟨"SortLineEvents", "bunkerJoinedBy", "(I)LSortLineEvents$Bunker;"⟩ ∈ BIG := big_pv (i := 2) (by decide +kernel) rfl
theorem mp_3 : Cond.selects "SortLineEvents" ⟨"SortLineEvents", "passOneTenth", "()V"⟩ ⟨"SortLineEvents", "passOneTenth", "()V"⟩ ∈ BIG := big_pv (i := 3) (by decide +kernel) rfl
theorem mp_4 : Cond.selects "SortLineEvents" ⟨"SortLineEvents", "comeOn", "(LSortLineEvents$Piece;)V"⟩ ⟨"SortLineEvents", "comeOn", "(LSortLineEvents$Piece;)V"⟩ ∈ BIG := big_pv (i := 4) (by decide +kernel) rfl
theorem mp_5 : Cond.selects "SortLineEvents" ⟨"SortLineEvents", "act", "(LSortLineEvents$Piece;)V"⟩ ⟨"SortLineEvents", "act", "(LSortLineEvents$Piece;)V"⟩ ∈ BIG := big_pv (i := 5) (by decide +kernel) rfl
theorem mp_6 : Cond.selects "SortLineEvents" ⟨"SortLineEvents", "enter", "(LSortLineEvents$Piece;LSortLineEvents$Belt;)V"⟩ ⟨"SortLineEvents", "enter", "(LSortLineEvents$Piece;LSortLineEvents$Belt;)V"⟩ ∈ BIG := big_pv (i := 6) (by decide +kernel) rfl
theorem mp_7 : Cond.selects "SortLineEvents" ⟨"SortLineEvents", "loadWith", "(LSortLineEvents$Piece;LSortLineEvents$Belt;)D"⟩ ⟨"SortLineEvents", "loadWith", "(LSortLineEvents$Piece;LSortLineEvents$Belt;)D"⟩ ∈ BIG := big_pv (i := 7) (by decide +kernel) rfl
theorem mp_8 : Cond.selects "SortLineEvents" ⟨"SortLineEvents", "jamBy", "(LSortLineEvents$Piece;LSortLineEvents$Belt;)V"⟩ ⟨"SortLineEvents", "jamBy", "(LSortLineEvents$Piece;LSortLineEvents$Belt;)V"⟩ ∈ BIG := big_pv (i := 8) (by decide +kernel) rfl
theorem mp_9 : Cond.selects "SortLineEvents" ⟨"SortLineEvents", "passHeads", "(LSortLineEvents$Piece;LSortLineEvents$Belt;)V"⟩ ⟨"SortLineEvents", "passHeads", "(LSortLineEvents$Piece;LSortLineEvents$Belt;)V"⟩ ∈ BIG := big_pv (i := 9) (by decide +kernel) rfl
theorem mp_10 : Cond.selects "SortLineEvents" ⟨"SortLineEvents", "chance", "(II)D"⟩ ⟨"SortLineEvents", "chance", "(II)D"⟩ ∈ BIG := big_pv (i := 10) (by decide +kernel) rfl
theorem mp_11 : Cond.selects "SortLineEvents" ⟨"SortLineEvents", "leave", "(LSortLineEvents$Piece;LSortLineEvents$Belt;)V"⟩ ⟨"SortLineEvents", "leave", "(LSortLineEvents$Piece;LSortLineEvents$Belt;)V"⟩ ∈ BIG := big_pv (i := 11) (by decide +kernel) rfl
theorem mp_12 : Cond.selects "SortLineEvents" ⟨"SortLineEvents", "takenByRobot", "(LSortLineEvents$Piece;LSortLineEvents$Belt;)Z"⟩ ⟨"SortLineEvents", "takenByRobot", "(LSortLineEvents$Piece;LSortLineEvents$Belt;)Z"⟩ ∈ BIG := big_pv (i := 12) (by decide +kernel) rfl
theorem mp_13 : Cond.selects "SortLineEvents" ⟨"SortLineEvents", "takenByPicker", "(LSortLineEvents$Piece;LSortLineEvents$Belt;)Z"⟩ ⟨"SortLineEvents", "takenByPicker", "(LSortLineEvents$Piece;LSortLineEvents$Belt;)Z"⟩ ∈ BIG := big_pv (i := 13) (by decide +kernel) rfl
theorem mp_14 : Cond.selects "SortLineEvents" ⟨"SortLineEvents", "fill", "(LSortLineEvents$Piece;LSortLineEvents$Bunker;)V"⟩ ⟨"SortLineEvents", "fill", "(LSortLineEvents$Piece;LSortLineEvents$Bunker;)V"⟩ ∈ BIG := big_pv (i := 14) (by decide +kernel) rfl
theorem mp_15 : Cond.selects "SortLineEvents" ⟨"SortLineEvents", "onBelts", "()I"⟩ ⟨"SortLineEvents", "onBelts", "()I"⟩ ∈ BIG := big_pv (i := 15) (by decide +kernel) rfl
theorem mp_16 : Cond.selects "SortLineEventsModel" ⟨"SortLineEventsModel", "isOpen", "()Z"⟩ ⟨"SortLineEventsModel", "isOpen", "()Z"⟩ ∈ BIG := big_pv (i := 16) (by decide +kernel) rfl
theorem mp_17 : Cond.selects "SortLineEventsModel" ⟨"SortLineEventsModel", "isBelt", "(I)Z"⟩ ⟨"SortLineEventsModel", "isBelt", "(I)Z"⟩ ∈ BIG := big_pv (i := 17) (by decide +kernel) rfl
theorem mp_18 : Cond.selects "SortLineEventsModel" ⟨"SortLineEventsModel", "tenth", "()V"⟩ ⟨"SortLineEventsModel", "tenth", "()V"⟩ ∈ BIG := big_pv (i := 18) (by decide +kernel) rfl
theorem mp_19 : Cond.selects "SortLineEventsModel" ⟨"SortLineEventsModel", "enter", "(II)V"⟩ ⟨"SortLineEventsModel", "enter", "(II)V"⟩ ∈ BIG := big_pv (i := 19) (by decide +kernel) rfl
theorem mp_20 : Cond.selects "SortLineEventsModel" ⟨"SortLineEventsModel", "lose", "(IIII)V"⟩ ⟨"SortLineEventsModel", "lose", "(IIII)V"⟩ ∈ BIG := big_pv (i := 20) (by decide +kernel) rfl
theorem mp_21 : Cond.selects "SortLineEventsModel" ⟨"SortLineEventsModel", "note", "(III)V"⟩ ⟨"SortLineEventsModel", "note", "(III)V"⟩ ∈ BIG := big_pv (i := 21) (by decide +kernel) rfl
theorem mp_22 : Cond.selects "SortLineEventsModel" ⟨"SortLineEventsModel", "sizesOn", "(II)D"⟩ ⟨"SortLineEventsModel", "sizesOn", "(II)D"⟩ ∈ BIG := big_pv (i := 22) (by decide +kernel) rfl
theorem mp_23 : Cond.selects "SortLineEventsModel" ⟨"SortLineEventsModel", "piecesOn", "(I)I"⟩ ⟨"SortLineEventsModel", "piecesOn", "(I)I"⟩ ∈ BIG := big_pv (i := 23) (by decide +kernel) rfl
theorem mp_24 : Cond.selects "SortLineEventsModel" ⟨"SortLineEventsModel", "pass", "(I)V"⟩ ⟨"SortLineEventsModel", "pass", "(I)V"⟩ ∈ BIG := big_pv (i := 24) (by decide +kernel) rfl
theorem mp_25 : Cond.selects "SortLineEventsModel" ⟨"SortLineEventsModel", "chance", "(II)D"⟩ ⟨"SortLineEventsModel", "chance", "(II)D"⟩ ∈ BIG := big_pv (i := 25) (by decide +kernel) rfl
theorem mp_26 : Cond.selects "SortLineEventsModel" ⟨"SortLineEventsModel", "isTaken", "(I)Z"⟩ ⟨"SortLineEventsModel", "isTaken", "(I)Z"⟩ ∈ BIG := big_pv (i := 26) (by decide +kernel) rfl
theorem mp_27 : Cond.selects "SortLineEventsModel" ⟨"SortLineEventsModel", "goOn", "(I)V"⟩ ⟨"SortLineEventsModel", "goOn", "(I)V"⟩ ∈ BIG := big_pv (i := 27) (by decide +kernel) rfl
theorem mp_28 : Cond.selects "SortLineEventsModel" ⟨"SortLineEventsModel", "goOut", "(I)V"⟩ ⟨"SortLineEventsModel", "goOut", "(I)V"⟩ ∈ BIG := big_pv (i := 28) (by decide +kernel) rfl
theorem mp_29 : Cond.selects "SortLineEventsModel" ⟨"SortLineEventsModel", "isKind", "(II)Z"⟩ ⟨"SortLineEventsModel", "isKind", "(II)Z"⟩ ∈ BIG := big_pv (i := 29) (by decide +kernel) rfl
theorem mp_30 : Cond.selects "SortLineEventsModel" ⟨"SortLineEventsModel", "count", "(I)I"⟩ ⟨"SortLineEventsModel", "count", "(I)I"⟩ ∈ BIG := big_pv (i := 30) (by decide +kernel) rfl
end
section
/-! kinds: 0 Belt, 1 Bunker, 2 Head, 3 Log, 4 Outs, 5 Picker, 6 Piece, 7 Robot, 8 Tally, 9 Main, 10 Model, 11 aBelts, 12 aHeads, 13 aBunkers, 14 aPickers, 15 aRobots, 16 aPieces, 17 aOuts, 18 aRows, 19 aLosses, 20 m_tenths, 21 m_lengths, 22 m_joins, 23 m_ruled, 24 m_loads, 25 m_stands, 26 m_standing, 27 m_headBelt, 28 m_headPlace, 29 m_headMiss, 30 m_rooms, 31 m_filled, 32 m_robotBelt, 33 m_reaches, 34 m_robotMiss, 35 m_pickerBelt, 36 m_rates, 37 m_tires, 38 m_busy, 39 m_took, 40 m_kinds, 41 m_sizes, 42 m_enters, 43 m_firstBelt, 44 m_states, 45 m_belt, 46 m_place, 47 m_moved, 48 m_events, 49 m_jamRows, 50 m_lost, 51 m_outs, 52 m_lastOut, 53 m_leastGap, 54 m_greatestGap -/
def kn_a (k : Nat) : Bool := Nat.ble 11 k
def kn_n (k : Nat) : Nat := match k with
  | 0 => 10
  | 1 => 3
  | 2 => 3
  | 3 => 2
  | 4 => 4
  | 5 => 5
  | 6 => 8
  | 7 => 3
  | 8 => 4
  | 9 => 17
  | 10 => 45
  | _ => 0
def kn_c (k : Nat) : Nat := match k with
  | 1 => 1
  | 2 => 2
  | 3 => 3
  | 4 => 4
  | 5 => 5
  | 6 => 6
  | 7 => 7
  | 8 => 8
  | 9 => 9
  | 10 => 10
  | 11 => 4
  | 12 => 5
  | 13 => 6
  | 14 => 7
  | 15 => 8
  | 16 => 9
  | 17 => 10
  | 19 => 1
  | 21 => 2
  | 23 => 3
  | 24 => 2
  | 29 => 2
  | 30 => 2
  | 31 => 2
  | 33 => 2
  | 34 => 2
  | 36 => 2
  | 37 => 2
  | 41 => 2
  | 47 => 3
  | 50 => 1
  | _ => 0
def kn_t (k j : Nat) : Nat := match k with
  | 0 => match j with
    | 2 => 2
    | 3 => 3
    | 4 => 3
    | 5 => 3
    | 6 => 4
    | 7 => 2
    | _ => 0
  | 1 => match j with
    | 1 => 2
    | 2 => 2
    | _ => 0
  | 2 => match j with
    | 0 => 3
    | 2 => 2
    | _ => 0
  | 3 => match j with
    | 0 => 3
    | _ => 0
  | 5 => match j with
    | 0 => 3
    | 1 => 2
    | 2 => 2
    | _ => 0
  | 6 => match j with
    | 1 => 3
    | 4 => 2
    | 5 => 3
    | 7 => 4
    | _ => 0
  | 7 => match j with
    | 0 => 3
    | 1 => 2
    | 2 => 2
    | _ => 0
  | 8 => match j with
    | 0 => 3
    | _ => 0
  | 9 => match j with
    | 0 => 1
    | 1 => 3
    | 2 => 3
    | 3 => 3
    | 4 => 3
    | 5 => 3
    | 6 => 3
    | 7 => 3
    | 8 => 3
    | 9 => 3
    | _ => 0
  | 10 => match j with
    | 0 => 1
    | 2 => 3
    | 3 => 3
    | 4 => 3
    | 5 => 3
    | 6 => 3
    | 7 => 3
    | 8 => 3
    | 10 => 3
    | 11 => 3
    | 12 => 3
    | 14 => 3
    | 15 => 3
    | 17 => 3
    | 18 => 3
    | 19 => 3
    | 21 => 3
    | 22 => 3
    | 23 => 3
    | 24 => 3
    | 25 => 3
    | 27 => 3
    | 28 => 3
    | 29 => 3
    | 30 => 3
    | 31 => 3
    | 32 => 3
    | 33 => 3
    | 34 => 3
    | 37 => 3
    | 39 => 3
    | 40 => 3
    | 41 => 3
    | 42 => 3
    | 43 => 3
    | 44 => 3
    | _ => 0
  | 11 => 3
  | 12 => 3
  | 13 => 3
  | 14 => 3
  | 15 => 3
  | 16 => 3
  | 17 => 3
  | 19 => 1
  | 21 => 2
  | 23 => 4
  | 24 => 2
  | 29 => 2
  | 30 => 2
  | 31 => 2
  | 33 => 2
  | 34 => 2
  | 36 => 2
  | 37 => 2
  | 41 => 2
  | 47 => 4
  | 50 => 1
  | _ => 0
def kn_r (k j : Nat) : Nat := match k with
  | 0 => match j with
    | 3 => 17
    | 5 => 1
    | _ => 0
  | 3 => match j with
    | 0 => 18
    | _ => 0
  | 8 => match j with
    | 0 => 19
    | _ => 0
  | 9 => match j with
    | 1 => 11
    | 2 => 12
    | 3 => 13
    | 4 => 14
    | 5 => 15
    | 6 => 16
    | 7 => 3
    | 8 => 3
    | 9 => 8
    | _ => 0
  | 10 => match j with
    | 2 => 20
    | 3 => 21
    | 4 => 22
    | 5 => 23
    | 6 => 24
    | 7 => 25
    | 8 => 26
    | 10 => 27
    | 11 => 28
    | 12 => 29
    | 14 => 30
    | 15 => 31
    | 17 => 32
    | 18 => 33
    | 19 => 34
    | 21 => 35
    | 22 => 36
    | 23 => 37
    | 24 => 38
    | 25 => 39
    | 27 => 40
    | 28 => 41
    | 29 => 42
    | 30 => 43
    | 31 => 44
    | 32 => 45
    | 33 => 46
    | 34 => 47
    | 37 => 48
    | 39 => 49
    | 40 => 50
    | 41 => 51
    | 42 => 52
    | 43 => 53
    | 44 => 54
    | _ => 0
  | 12 => 2
  | 13 => 1
  | 14 => 5
  | 15 => 7
  | 16 => 6
  | 17 => 4
  | _ => 0
def tyE (E : Nat → ClassId) : List (ClassId × FieldType) := [(E 0, .int), (E 1, .long), (E 2, .double), (E 3, .boolean), (E 4, .object RX0), (E 5, .object RX2), (E 6, .object RX1), (E 7, .object RX5), (E 8, .object RX7), (E 9, .object RX6), (E 10, .object RX4)]
end
section
/-! THE STORE: the cells of the system in its own words: kinds of cells (numbers), their instances, their fields or places. kn_a: an array; kn_c: its class in vwCl, or its array class in tyE; kn_n: how many fields; kn_t: a field's type (0 int, 1 long, 2 double, 3 a reference, 4 boolean); kn_r: the kind that a reference's target is of -/
abbrev St : Type := (Nat → Nat) × (Nat → Nat → Nat) × (Nat → Nat → Nat) × (Nat → Nat → Nat → Int32) × (Nat → Nat → Nat → Int64) × (Nat → Nat → Nat → UInt64) × (Nat → Nat → Nat → Option Nat)
def sC (S : St) : Nat → Nat := S.1
def sA (S : St) : Nat → Nat → Nat := S.2.1
def sN (S : St) : Nat → Nat → Nat := S.2.2.1
def sI (S : St) : Nat → Nat → Nat → Int32 := S.2.2.2.1
def sJ (S : St) : Nat → Nat → Nat → Int64 := S.2.2.2.2.1
def sD (S : St) : Nat → Nat → Nat → UInt64 := S.2.2.2.2.2.1
def sR (S : St) : Nat → Nat → Nat → Option Nat := S.2.2.2.2.2.2
def u2 {α : Type} (F : Nat → Nat → α) (k i : Nat) (v : α) : Nat → Nat → α := fun a b => if a = k ∧ b = i then v else F a b
def u3 {α : Type} (F : Nat → Nat → Nat → α) (k i j : Nat) (v : α) : Nat → Nat → Nat → α := fun a b c => if a = k ∧ b = i ∧ c = j then v else F a b c
def pI (S : St) (k i j : Nat) (v : Int32) : St := (sC S, sA S, sN S, u3 (sI S) k i j v, sJ S, sD S, sR S)
def pJ (S : St) (k i j : Nat) (v : Int64) : St := (sC S, sA S, sN S, sI S, u3 (sJ S) k i j v, sD S, sR S)
def pD (S : St) (k i j : Nat) (v : UInt64) : St := (sC S, sA S, sN S, sI S, sJ S, u3 (sD S) k i j v, sR S)
def pR (S : St) (k i j : Nat) (v : Option Nat) : St := (sC S, sA S, sN S, sI S, sJ S, sD S, u3 (sR S) k i j v)
/-- a new cell of kind k at the address a, with z places (an array) -/
def nO (S : St) (k a z : Nat) : St := (va_up (sC S) k (sC S k + 1), u2 (sA S) k (sC S k) a, u2 (sN S) k (sC S k) z, u2 (sI S) k (sC S k) (fun _ => 0), u2 (sJ S) k (sC S k) (fun _ => 0), u2 (sD S) k (sC S k) (fun _ => 0), u2 (sR S) k (sC S k) (fun _ => none))
def sV (S : St) (k i j : Nat) : Value := match kn_t k j with
  | 0 => .int (sI S k i j)
  | 1 => .long (sJ S k i j)
  | 2 => .double (sD S k i j)
  | 3 => va_rf ((sR S k i j).map (sA S (kn_r k j)))
  | _ => .int (sI S k i j)
abbrev sXt : Type := (Nat → Int32) ⊕ (Nat → Int64) ⊕ (Nat → UInt32) ⊕ (Nat → UInt64) ⊕ (Nat → Option Nat)
def sX (S : St) (k i : Nat) : sXt := match kn_t k 0 with
  | 0 => .inl (sI S k i)
  | 1 => .inr (.inl (sJ S k i))
  | 2 => .inr (.inr (.inr (.inl (sD S k i))))
  | 3 => .inr (.inr (.inr (.inr (fun j => (sR S k i j).map (sA S (kn_r k j))))))
  | _ => .inl (sI S k i)
def sE (E : Nat → ClassId) (S : St) (k i : Nat) : va_E := if kn_a k = true then .inl (E (kn_c k), sN S k i, sX S k i) else .inr (kn_c k, (List.range (kn_n k)).map (sV S k i))
/-- the heap's cells at the addresses L are the store's, each at an address of its own; references lead to cells -/
def Rp (E : Nat → ClassId) (S : St) (L : List Nat) (f : Nat → va_E) : Prop := (∀ k i, i < sC S k → sA S k i ∈ L ∧ f (sA S k i) = sE E S k i) ∧ (∀ k i k' i', i < sC S k → i' < sC S k' → sA S k i = sA S k' i' → k = k' ∧ i = i') ∧ ∀ k i j r, i < sC S k → sR S k i j = some r → r < sC S (kn_r k j)
def Wd (D : va_G) (E : Nat → ClassId) (sz : Nat) (S : St) (H : Heap) : Prop := ∃ (L : List Nat) (f : Nat → va_E), Rp E S L f ∧ va_P D vwCl ([] ++ va_pl L f) H ∧ va_D (fun q => sz ≤ q) ([] ++ va_pl L f)
theorem u3_other {α : Type} {F : Nat → Nat → Nat → α} {k i j : Nat} {v : α} {a b : Nat} (h : ¬ (a = k ∧ b = i)) : u3 F k i j v a b = F a b := by
  funext z
  unfold u3
  rw [if_neg (fun q => h ⟨q.1, q.2.1⟩)]
theorem u3_self {α : Type} {F : Nat → Nat → Nat → α} {k i j : Nat} {v : α} : u3 F k i j v k i j = v := by simp [u3]
theorem u3_ne {α : Type} {F : Nat → Nat → Nat → α} {k i j : Nat} {v : α} {a b c : Nat} (h : ¬ (a = k ∧ b = i ∧ c = j)) : u3 F k i j v a b c = F a b c := by simp [u3, h]
theorem u2_self {α : Type} {F : Nat → Nat → α} {k i : Nat} {v : α} : u2 F k i v k i = v := by simp [u2]
theorem u2_ne {α : Type} {F : Nat → Nat → α} {k i : Nat} {v : α} {a b : Nat} (h : ¬ (a = k ∧ b = i)) : u2 F k i v a b = F a b := by simp [u2, h]
theorem sE_congr {E : Nat → ClassId} {S S' : St} {k i : Nat} (hN : sN S' k i = sN S k i) (hI : sI S' k i = sI S k i) (hJ : sJ S' k i = sJ S k i) (hD : sD S' k i = sD S k i) (hR : ∀ j, (sR S' k i j).map (sA S' (kn_r k j)) = (sR S k i j).map (sA S (kn_r k j))) : sE E S' k i = sE E S k i := by
  have hV : sV S' k i = sV S k i := by
    funext j
    unfold sV
    rw [hI, hJ, hD, hR j]
  have hX : sX S' k i = sX S k i := by
    unfold sX
    rw [hI, hJ, hD, show (fun j => (sR S' k i j).map (sA S' (kn_r k j))) = (fun j => (sR S k i j).map (sA S (kn_r k j))) from funext hR]
  unfold sE
  rw [hN, hV, hX]
theorem Rp.upd {E : Nat → ClassId} {S S' : St} {L : List Nat} {f : Nat → va_E} {k i : Nat} {e : va_E} (h : Rp E S L f) (hi : i < sC S k) (hC : sC S' = sC S) (hA : sA S' = sA S) (ho : ∀ a b, ¬ (a = k ∧ b = i) → sE E S' a b = sE E S a b) (he : e = sE E S' k i) (hR : ∀ k i j r, i < sC S k → sR S' k i j = some r → r < sC S (kn_r k j)) : Rp E S' L (va_up f (sA S k i) e) := by
  subst he
  refine ⟨fun a b hb => ?_, fun a b a' b' => by rw [hC, hA]; exact h.2.1 a b a' b', fun a b j r hb hr => by rw [hC] at hb ⊢; exact hR a b j r hb hr⟩
  rw [hC] at hb
  rw [hA]
  refine ⟨(h.1 a b hb).1, ?_⟩
  by_cases hab : a = k ∧ b = i
  · obtain ⟨rfl, rfl⟩ := hab
    rw [va_up_self]
  · rw [va_up_ne _ _ (fun q => hab (h.2.1 a b k i hb hi q)), (h.1 a b hb).2, ho a b hab]
theorem rng_set {N j : Nat} {g g' : Nat → Value} {v : Value} (h1 : g' j = v) (h2 : ∀ z, z ≠ j → g' z = g z) : ((List.range N).map g).set j v = (List.range N).map g' := by
  apply List.ext_getElem?
  intro z
  by_cases hz : z < N
  · by_cases hj : z = j
    · subst hj
      rw [List.getElem?_set_self (by simpa using hz)]
      simp [hz, h1]
    · rw [List.getElem?_set_ne (fun q => hj q.symm)]
      simp [hz, h2 z hj]
  · rw [List.getElem?_eq_none (by simpa using Nat.not_lt.mp hz), List.getElem?_eq_none (by simpa using Nat.not_lt.mp hz)]
theorem rng_get {N j : Nat} {g : Nat → Value} (h : j < N) : ((List.range N).map g)[j]? = some (g j) := by simp [h]
/-- what the tables say of classes, arrays and nest mates: kept by every call -/
def Kw (D : va_G) (E : Nat → ClassId) (U : State) : Prop := va_K D vwCl (tyE E) U ∧ (va_AO RX0 U ∧ va_AO RX1 U ∧ va_AO RX2 U ∧ va_AO RX4 U ∧ va_AO RX5 U ∧ va_AO RX6 U ∧ va_AO RX7 U) ∧ va_Nw (.methodLinkNest RX0 28 yX4_init RX9) U ∧ va_Nw (.methodLinkNest RX9 59 yX8_init RX9) U
theorem Kw.warm {D : va_G} {E : Nat → ClassId} {s U : State} (hW : s.WarmedH U.vm) (h : Kw D E s) : Kw D E U := by
  obtain ⟨h1, ⟨a0, a1, a2, a4, a5, a6, a7⟩, n1, n2⟩ := h
  exact ⟨h1.moved hW.alike, ⟨a0.moved hW.alike, a1.moved hW.alike, a2.moved hW.alike, a4.moved hW.alike, a5.moved hW.alike, a6.moved hW.alike, a7.moved hW.alike⟩, va_Nw.warmM hW n1, va_Nw.warmM hW n2⟩
theorem Kw.same {D : va_G} {E : Nat → ClassId} {s U : State} (hv : s.vm = U.vm) (h : Kw D E s) : Kw D E U := by
  have hA : s.vm.Alike U.vm := by rw [hv]; exact Vm.Alike.refl _
  obtain ⟨h1, ⟨a0, a1, a2, a4, a5, a6, a7⟩, n1, n2⟩ := h
  exact ⟨h1.moved hA, ⟨a0.moved hA, a1.moved hA, a2.moved hA, a4.moved hA, a5.moved hA, a6.moved hA, a7.moved hA⟩, va_Nw.same rfl hv n1, va_Nw.same rfl hv n2⟩
/-! a method's fixed surroundings, in one word: program, launch, environment, room, start, method, arguments, frames below, its table, its code, the goal, classes' numbers, array classes' numbers, the first address of our own, its locals -/
abbrev Cx : Type := Program × Launch × Env × Room × State × MethodId × Array Value × List Frame × Method × Code × (State → Prop) × va_G × (Nat → ClassId) × Nat × Nat
def inX (X : Cx) : Prop := X.2.2.2.2.2.2.2.2.1.name = "<init>"
def rx (X : Cx) : Room := X.2.2.2.1
def lx (X : Cx) : Launch := X.2.1
def nLx (X : Cx) : Nat := X.2.2.2.2.2.2.2.2.2.2.2.2.2.2
def Ok (X : Cx) (cc : ByteArray) (own : String) : Prop := match X with
  | (p, _, _, _, s, m, args, _, meth, c, _, D, E, sz, nL) => p.tables.exec = Jvm.exec ∧ c.code = cc ∧ c.maxLocals = nL ∧ s.vm.findClass own = some m.cls ∧ (∀ w ∈ BIG, w.before args s = true) ∧ Kw D E s ∧ sz ≤ s.heap.size ∧ meth.locks = false
def Jg (X : Cx) (k n : Nat) (S : St) (pc : Nat) (lv : List (Nat × Value)) (st : List Value) : Prop := match X with
  | (p, l, e, R, s, m, args, below, meth, c, Q, D, E, sz, nL) => ∀ (ls : Array Slot) (H : Heap) (locs : List Loc), lv_has ls nL lv → Wd D E sz S H → va_S (fun q => sz ≤ q) s.heap H locs → W p l e R s m args below meth c H locs k n Q (F0 m pc ls st)
def lk : List (Nat × Value) → Nat → Option Value
  | [], _ => none
  | q :: t, i => match Nat.beq q.1 i with
    | true => some q.2
    | false => lk t i
theorem lk_mem : ∀ {lv : List (Nat × Value)} {i : Nat} {v : Value}, lk lv i = some v → (i, v) ∈ lv
  | [], i, v, h => by simp [lk] at h
  | (j, w) :: t, i, v, h => by
    unfold lk at h
    split at h
    · rename_i hb
      have : j = i := Nat.eq_of_beq_eq_true hb
      subst this
      cases h
      exact List.mem_cons_self
    · exact List.mem_cons_of_mem _ (lk_mem h)
theorem lk_at {ls : Array Slot} {nL : Nat} {lv : List (Nat × Value)} {i : Nat} {v : Value} (h : lv_has ls nL lv) (hv : lk lv i = some v) : ls[i]? = some (.val v) := h.2.2 (i, v) (lk_mem hv)
theorem lk_ix {lv : List (Nat × Value)} {i : Nat} {v : Value} (hv : lk lv i = some v) : ∃ k : Nat, lv[k]? = some (i, v) := List.getElem?_of_mem (lk_mem hv)
def ss1 (lv : List (Nat × Value)) (i : Nat) (v : Value) : List (Nat × Value) := (i, v) :: lv.filter (fun q => !(q.1 == i) && !(q.1 + 1 == i && q.2.category == 2))
def ss2 (lv : List (Nat × Value)) (i : Nat) (v : Value) : List (Nat × Value) := (i, v) :: lv.filter (fun q => !(q.1 == i) && (!(q.1 == i + 1) && !(q.1 + 1 == i && q.2.category == 2)))
def lvs (lv : List (Nat × Value)) : List (Nat × Value) → Prop
  | [] => True
  | q :: t => lk lv q.1 = some q.2 ∧ lvs lv t
theorem lvs_mem {lv : List (Nat × Value)} : ∀ {lv' : List (Nat × Value)}, lvs lv lv' → ∀ q ∈ lv', q ∈ lv
  | [], _, q, hq => by cases hq
  | r :: t, h, q, hq => by
    rcases List.mem_cons.mp hq with rfl | hq
    · exact lk_mem h.1
    · exact lvs_mem h.2 q hq
/-- fewer locals, in another order -/
theorem Jg.lv {X : Cx} {k n : Nat} {S : St} {pc : Nat} {lv lv' : List (Nat × Value)} {st : List Value} (h : lvs lv lv') (kk : Jg X k n S pc lv' st) : Jg X k n S pc lv st := by
  obtain ⟨p, l, e, R, s, m, args, below, meth, c, Q, D, E, sz, nL⟩ := X
  exact fun ls H locs hl hW hS => kk ls H locs ⟨hl.1, hl.2.1, fun q hq => hl.2.2 q (lvs_mem h q hq)⟩ hW hS
theorem Jg.widen {X : Cx} {k n k' n' : Nat} {S : St} {pc : Nat} {lv : List (Nat × Value)} {st : List Value} (h1 : k ≤ k') (h2 : n ≤ n') (kk : Jg X k' n' S pc lv st) : Jg X k n S pc lv st := by
  obtain ⟨p, l, e, R, s, m, args, below, meth, c, Q, D, E, sz, nL⟩ := X
  exact fun ls H locs hl hW hS => W.widen h1 h2 (kk ls H locs hl hW hS)
/-- what a class's rows in the tables give -/
def CK (ci : Nat) (C : String) (T : u_T) (N : Nat) (ty : Nat → FieldType) : Prop := vwCl[ci]? = some (C, T, N) ∧ (∀ w ∈ u_ws C T N, w ∈ BIG) ∧ (∀ k, k < N → parseFieldDescriptor (T k).2.2.1 = some (ty k)) ∧ ∀ a, a < N → ∀ b, b < N → a ≠ b → (T a).2.1 ≠ (T b).2.1
section SH
variable {X : Cx} {k n : Nat} {S : St} {pc q : Nat} {lv : List (Nat × Value)} {st : List Value} {cc : ByteArray} {own : String} {C : String} {T : u_T} {N a x i j ix : Nat} {ty : Nat → FieldType}
theorem j_getV {v : Value} (hX : Ok X cc own) (hK : CK (kn_c x) C T N ty) (hd : decode cc pc = .ok (.getfield ix, 3)) (hq : pc + 3 = q) (hf : Cond.fieldLink own ix (T j).1 (T j).2.1 (T j).2.2.1 ∈ BIG) (ha : a = sA S x i) (hi : i < sC S x) (hx : kn_a x = false) (hN : kn_n x = N) (hj : j < N) (hv : sV S x i j = v) (kk : Jg X k n S q lv (v :: st)) : Jg X k n S pc lv (.ref a :: st) := by
  obtain ⟨p, l, e, R, s, m, args, below, meth, c, Q, D, E, sz, nL⟩ := X
  subst hq
  subst ha
  intro ls H locs hl hW hS
  obtain ⟨L, f, hR, hP, hD⟩ := id hW
  obtain ⟨h1, h2⟩ := hR.1 x i hi
  obtain ⟨q0, hq0⟩ := va_pl_get (X := []) (f := f) h1
  have he : sE E S x i = .inr (kn_c x, (List.range N).map (sV S x i)) := by unfold sE; rw [hx, hN]; rfl
  rw [h2, he] at hq0
  exact va_get hX.1 hX.2.1 hX.2.2.2.2.1 hK.2.1 hX.2.2.2.1 hX.2.2.2.2.2.1.1 hP q0 hq0 hK.1 j hj (hX.2.2.2.2.1 _ hf) (fun _ h => h) (by rw [rng_get hj, hv]) hd (kk ls H locs hl hW hS)
theorem j_getI (hX : Ok X cc own) (hK : CK (kn_c x) C T N ty) (hd : decode cc pc = .ok (.getfield ix, 3)) (hq : pc + 3 = q) (hf : Cond.fieldLink own ix (T j).1 (T j).2.1 (T j).2.2.1 ∈ BIG) (ha : a = sA S x i) (hi : i < sC S x) (hx : kn_a x = false) (hN : kn_n x = N) (hj : j < N) (ht : kn_t x j = 0 ∨ kn_t x j = 4) (kk : Jg X k n S q lv (.int (sI S x i j) :: st)) : Jg X k n S pc lv (.ref a :: st) :=
  j_getV hX hK hd hq hf ha hi hx hN hj (by unfold sV; rcases ht with h | h <;> simp only [h]) kk
theorem j_getJ (hX : Ok X cc own) (hK : CK (kn_c x) C T N ty) (hd : decode cc pc = .ok (.getfield ix, 3)) (hq : pc + 3 = q) (hf : Cond.fieldLink own ix (T j).1 (T j).2.1 (T j).2.2.1 ∈ BIG) (ha : a = sA S x i) (hi : i < sC S x) (hx : kn_a x = false) (hN : kn_n x = N) (hj : j < N) (ht : kn_t x j = 1) (kk : Jg X k n S q lv (.long (sJ S x i j) :: st)) : Jg X k n S pc lv (.ref a :: st) :=
  j_getV hX hK hd hq hf ha hi hx hN hj (by unfold sV; simp only [ht]) kk
theorem j_getD (hX : Ok X cc own) (hK : CK (kn_c x) C T N ty) (hd : decode cc pc = .ok (.getfield ix, 3)) (hq : pc + 3 = q) (hf : Cond.fieldLink own ix (T j).1 (T j).2.1 (T j).2.2.1 ∈ BIG) (ha : a = sA S x i) (hi : i < sC S x) (hx : kn_a x = false) (hN : kn_n x = N) (hj : j < N) (ht : kn_t x j = 2) (kk : Jg X k n S q lv (.double (sD S x i j) :: st)) : Jg X k n S pc lv (.ref a :: st) :=
  j_getV hX hK hd hq hf ha hi hx hN hj (by unfold sV; simp only [ht]) kk
theorem j_getR (hX : Ok X cc own) (hK : CK (kn_c x) C T N ty) (hd : decode cc pc = .ok (.getfield ix, 3)) (hq : pc + 3 = q) (hf : Cond.fieldLink own ix (T j).1 (T j).2.1 (T j).2.2.1 ∈ BIG) (ha : a = sA S x i) (hi : i < sC S x) (hx : kn_a x = false) (hN : kn_n x = N) (hj : j < N) (ht : kn_t x j = 3) (kk : Jg X k n S q lv (va_rf ((sR S x i j).map (sA S (kn_r x j))) :: st)) : Jg X k n S pc lv (.ref a :: st) :=
  j_getV hX hK hd hq hf ha hi hx hN hj (by unfold sV; simp only [ht]) kk
theorem j_getRs {r : Nat} (hX : Ok X cc own) (hK : CK (kn_c x) C T N ty) (hd : decode cc pc = .ok (.getfield ix, 3)) (hq : pc + 3 = q) (hf : Cond.fieldLink own ix (T j).1 (T j).2.1 (T j).2.2.1 ∈ BIG) (ha : a = sA S x i) (hi : i < sC S x) (hx : kn_a x = false) (hN : kn_n x = N) (hj : j < N) (ht : kn_t x j = 3) (hr : sR S x i j = some r) (kk : Jg X k n S q lv (.ref (sA S (kn_r x j) r) :: st)) : Jg X k n S pc lv (.ref a :: st) :=
  j_getV hX hK hd hq hf ha hi hx hN hj (by unfold sV; rw [ht]; show va_rf _ = _; rw [hr]; rfl) kk
theorem j_getRn (hX : Ok X cc own) (hK : CK (kn_c x) C T N ty) (hd : decode cc pc = .ok (.getfield ix, 3)) (hq : pc + 3 = q) (hf : Cond.fieldLink own ix (T j).1 (T j).2.1 (T j).2.2.1 ∈ BIG) (ha : a = sA S x i) (hi : i < sC S x) (hx : kn_a x = false) (hN : kn_n x = N) (hj : j < N) (ht : kn_t x j = 3) (hr : sR S x i j = none) (kk : Jg X k n S q lv (.null :: st)) : Jg X k n S pc lv (.ref a :: st) :=
  j_getV hX hK hd hq hf ha hi hx hN hj (by unfold sV; rw [ht]; show va_rf _ = _; rw [hr]; rfl) kk
/-- a field is written: S' is S but for that field -/
theorem j_putV {S' : St} {v : Value} {fty : FieldType} (hX : Ok X cc own) (hK : CK (kn_c x) C T N ty) (hd : decode cc pc = .ok (.putfield ix, 3)) (hq : pc + 3 = q) (hf : Cond.fieldLink own ix (T j).1 (T j).2.1 (T j).2.2.1 ∈ BIG) (ha : a = sA S x i) (hi : i < sC S x) (hx : kn_a x = false) (hN : kn_n x = N) (hj : j < N) (hfin : (T j).2.2.2 = false) (hd2 : parseFieldDescriptor (T j).2.2.1 = some fty) (hn : narrow fty v = v) (hfit : fits fty v = true)
    (hC : sC S' = sC S) (hA : sA S' = sA S) (ho : ∀ E a b, ¬ (a = x ∧ b = i) → sE E S' a b = sE E S a b) (hv : sV S' x i j = v) (hz : ∀ z, z ≠ j → sV S' x i z = sV S x i z) (hR : ∀ E L f, Rp E S L f → ∀ k i j r, i < sC S k → sR S' k i j = some r → r < sC S (kn_r k j)) (kk : Jg X k n S' q lv st) : Jg X k n S pc lv (v :: .ref a :: st) := by
  obtain ⟨p, l, e, R, s, m, args, below, meth, c, Q, D, E, sz, nL⟩ := X
  subst hq
  subst ha
  intro ls H locs hl hW hS
  obtain ⟨L, f, hR0, hP, hD⟩ := hW
  obtain ⟨h1, h2⟩ := hR0.1 x i hi
  obtain ⟨q0, hq0⟩ := va_pl_get (X := []) (f := f) h1
  have hq1 := hq0
  have he : sE E S x i = .inr (kn_c x, (List.range N).map (sV S x i)) := by unfold sE; rw [hx, hN]; rfl
  rw [h2, he] at hq0
  refine va_put hX.1 hX.2.1 hX.2.2.2.2.1 hK.2.1 ty hK.2.2.1 hK.2.2.2 hX.2.2.2.1 hX.2.2.2.2.2.1.1 hP hD hS q0 hq0 hK.1 j hj (hX.2.2.2.2.1 _ hf) (fun _ h => h) hfin hd2 hn hfit (by simpa using hj) hd (fun H1 locs1 hP1 hD1 hS1 => kk ls H1 locs1 hl ⟨L, va_up f (sA S x i) (.inr (kn_c x, ((List.range N).map (sV S x i)).set j v)), ?_, ?_, ?_⟩ hS1)
  · refine hR0.upd hi hC hA (ho E) ?_ (hR E L f hR0)
    unfold sE
    rw [hx, hN, rng_set hv hz]
    rfl
  · rw [va_pl_set hD h1 hq1] at hP1
    exact hP1
  · rw [va_pl_set hD h1 hq1] at hD1
    exact hD1
end SH
theorem sE_otherI {E : Nat → ClassId} {S : St} {x i j : Nat} {v : Int32} {a b : Nat} (h : ¬ (a = x ∧ b = i)) : sE E (pI S x i j v) a b = sE E S a b := sE_congr rfl (u3_other h) rfl rfl (fun _ => rfl)
theorem sE_otherJ {E : Nat → ClassId} {S : St} {x i j : Nat} {v : Int64} {a b : Nat} (h : ¬ (a = x ∧ b = i)) : sE E (pJ S x i j v) a b = sE E S a b := sE_congr rfl rfl (u3_other h) rfl (fun _ => rfl)
theorem sE_otherD {E : Nat → ClassId} {S : St} {x i j : Nat} {v : UInt64} {a b : Nat} (h : ¬ (a = x ∧ b = i)) : sE E (pD S x i j v) a b = sE E S a b := sE_congr rfl rfl rfl (u3_other h) (fun _ => rfl)
theorem sE_otherR {E : Nat → ClassId} {S : St} {x i j : Nat} {v : Option Nat} {a b : Nat} (h : ¬ (a = x ∧ b = i)) : sE E (pR S x i j v) a b = sE E S a b := sE_congr rfl rfl rfl rfl (fun z => by
  show (u3 (sR S) x i j v a b z).map (sA S (kn_r a z)) = _
  rw [u3_other h])
theorem sV_neI {S : St} {x i j z : Nat} {v : Int32} (h : z ≠ j) : sV (pI S x i j v) x i z = sV S x i z := by
  unfold sV
  rw [show sI (pI S x i j v) x i z = sI S x i z from u3_ne (fun q => h q.2.2)]
  rfl
theorem sV_neJ {S : St} {x i j z : Nat} {v : Int64} (h : z ≠ j) : sV (pJ S x i j v) x i z = sV S x i z := by
  unfold sV
  rw [show sJ (pJ S x i j v) x i z = sJ S x i z from u3_ne (fun q => h q.2.2)]
  rfl
theorem sV_neD {S : St} {x i j z : Nat} {v : UInt64} (h : z ≠ j) : sV (pD S x i j v) x i z = sV S x i z := by
  unfold sV
  rw [show sD (pD S x i j v) x i z = sD S x i z from u3_ne (fun q => h q.2.2)]
  rfl
theorem sV_neR {S : St} {x i j z : Nat} {v : Option Nat} (h : z ≠ j) : sV (pR S x i j v) x i z = sV S x i z := by
  unfold sV
  rw [show sR (pR S x i j v) x i z = sR S x i z from u3_ne (fun q => h q.2.2)]
  rfl
theorem sV_I {S : St} {x i j : Nat} {v : Int32} (ht : kn_t x j = 0 ∨ kn_t x j = 4) : sV (pI S x i j v) x i j = .int v := by
  unfold sV
  rcases ht with ht | ht <;> (rw [ht]; show Value.int (u3 (sI S) x i j v x i j) = _; rw [u3_self])
theorem sV_J {S : St} {x i j : Nat} {v : Int64} (ht : kn_t x j = 1) : sV (pJ S x i j v) x i j = .long v := by
  unfold sV
  rw [ht]
  show Value.long (u3 (sJ S) x i j v x i j) = _
  rw [u3_self]
theorem sV_D {S : St} {x i j : Nat} {v : UInt64} (ht : kn_t x j = 2) : sV (pD S x i j v) x i j = .double v := by
  unfold sV
  rw [ht]
  show Value.double (u3 (sD S) x i j v x i j) = _
  rw [u3_self]
theorem sV_R {S : St} {x i j : Nat} {v : Option Nat} (ht : kn_t x j = 3) : sV (pR S x i j v) x i j = va_rf (v.map (sA S (kn_r x j))) := by
  unfold sV
  rw [ht]
  show va_rf ((u3 (sR S) x i j v x i j).map _) = _
  rw [u3_self]
  rfl
theorem Rp_refs {E : Nat → ClassId} {S : St} {L : List Nat} {f : Nat → va_E} {x i j : Nat} {v : Option Nat} (h : Rp E S L f) (hv : ∀ r, v = some r → r < sC S (kn_r x j)) : ∀ k i' j' r, i' < sC S k → sR (pR S x i j v) k i' j' = some r → r < sC S (kn_r k j') := by
  intro k i' j' r hi hr
  have hr : u3 (sR S) x i j v k i' j' = some r := hr
  unfold u3 at hr
  split at hr
  · rename_i hh
    rw [hh.1, hh.2.2]
    exact hv r hr
  · exact h.2.2 k i' j' r hi hr
section SP
variable {X : Cx} {k n : Nat} {S : St} {pc q : Nat} {lv : List (Nat × Value)} {st : List Value} {cc : ByteArray} {own : String} {C : String} {T : u_T} {N a x i j ix : Nat} {ty : Nat → FieldType}
theorem j_putI {v : Int32} (hX : Ok X cc own) (hK : CK (kn_c x) C T N ty) (hd : decode cc pc = .ok (.putfield ix, 3)) (hq : pc + 3 = q) (hf : Cond.fieldLink own ix (T j).1 (T j).2.1 (T j).2.2.1 ∈ BIG) (ha : a = sA S x i) (hi : i < sC S x) (hx : kn_a x = false) (hN : kn_n x = N) (hj : j < N) (hfin : (T j).2.2.2 = false) (hd2 : parseFieldDescriptor (T j).2.2.1 = some .int) (ht : kn_t x j = 0) (kk : Jg X k n (pI S x i j v) q lv st) : Jg X k n S pc lv (.int v :: .ref a :: st) :=
  j_putV (S' := pI S x i j v) hX hK hd hq hf ha hi hx hN hj hfin hd2 rfl rfl rfl rfl (fun _ _ _ h => sE_otherI h) (sV_I (Or.inl ht)) (fun _ h => sV_neI h) (fun _ _ _ h => h.2.2) kk
theorem j_putZ {v : Int32} (hX : Ok X cc own) (hK : CK (kn_c x) C T N ty) (hd : decode cc pc = .ok (.putfield ix, 3)) (hq : pc + 3 = q) (hf : Cond.fieldLink own ix (T j).1 (T j).2.1 (T j).2.2.1 ∈ BIG) (ha : a = sA S x i) (hi : i < sC S x) (hx : kn_a x = false) (hN : kn_n x = N) (hj : j < N) (hfin : (T j).2.2.2 = false) (hd2 : parseFieldDescriptor (T j).2.2.1 = some .boolean) (ht : kn_t x j = 4) (hb : v = 0 ∨ v = 1) (kk : Jg X k n (pI S x i j v) q lv st) : Jg X k n S pc lv (.int v :: .ref a :: st) :=
  j_putV (S' := pI S x i j v) hX hK hd hq hf ha hi hx hN hj hfin hd2 (by rcases hb with h | h <;> (rw [h]; rfl)) (by rcases hb with h | h <;> (rw [h]; rfl)) rfl rfl (fun _ _ _ h => sE_otherI h) (sV_I (Or.inr ht)) (fun _ h => sV_neI h) (fun _ _ _ h => h.2.2) kk
theorem j_putD {v : UInt64} (hX : Ok X cc own) (hK : CK (kn_c x) C T N ty) (hd : decode cc pc = .ok (.putfield ix, 3)) (hq : pc + 3 = q) (hf : Cond.fieldLink own ix (T j).1 (T j).2.1 (T j).2.2.1 ∈ BIG) (ha : a = sA S x i) (hi : i < sC S x) (hx : kn_a x = false) (hN : kn_n x = N) (hj : j < N) (hfin : (T j).2.2.2 = false) (hd2 : parseFieldDescriptor (T j).2.2.1 = some .double) (ht : kn_t x j = 2) (kk : Jg X k n (pD S x i j v) q lv st) : Jg X k n S pc lv (.double v :: .ref a :: st) :=
  j_putV (S' := pD S x i j v) hX hK hd hq hf ha hi hx hN hj hfin hd2 rfl rfl rfl rfl (fun _ _ _ h => sE_otherD h) (sV_D ht) (fun _ h => sV_neD h) (fun _ _ _ h => h.2.2) kk
theorem j_putR {v : Option Nat} {w : Value} {fty : FieldType} (hX : Ok X cc own) (hK : CK (kn_c x) C T N ty) (hd : decode cc pc = .ok (.putfield ix, 3)) (hq : pc + 3 = q) (hf : Cond.fieldLink own ix (T j).1 (T j).2.1 (T j).2.2.1 ∈ BIG) (ha : a = sA S x i) (hi : i < sC S x) (hx : kn_a x = false) (hN : kn_n x = N) (hj : j < N) (hfin : (T j).2.2.2 = false) (hd2 : parseFieldDescriptor (T j).2.2.1 = some fty) (hn : ∀ r, narrow fty (va_rf r) = va_rf r) (hft : ∀ r, fits fty (va_rf r) = true) (ht : kn_t x j = 3) (hw : w = va_rf (v.map (sA S (kn_r x j)))) (hv : ∀ r, v = some r → r < sC S (kn_r x j)) (kk : Jg X k n (pR S x i j v) q lv st) : Jg X k n S pc lv (w :: .ref a :: st) := by
  subst hw
  exact j_putV (S' := pR S x i j v) hX hK hd hq hf ha hi hx hN hj hfin hd2 (hn _) (hft _) rfl rfl (fun _ _ _ h => sE_otherR h) (sV_R ht) (fun _ h => sV_neR h) (fun _ _ _ h => Rp_refs h hv) kk
end SP
end
section
section JR
variable {X : Cx} {k n : Nat} {S : St} {pc q : Nat} {lv : List (Nat × Value)} {st : List Value} {cc : ByteArray} {own : String}
theorem j_iconst {z : Int} {v : Int32} (hX : Ok X cc own) (hd : decode cc pc = .ok (.iconst z, 1)) (hq : pc + 1 = q) (hv : Int32.ofInt z = v) (kk : Jg X k n S q lv (.int v :: st)) : Jg X k n S pc lv (st) := by
  obtain ⟨p, l, e, R, s, m, args, below, meth, c, Q, D, E, sz, nL⟩ := X
  subst hq
  exact fun ls H locs hl hW hS => lv_iconst hX.1 hX.2.1 hd hv (kk ls H locs hl hW hS)
theorem j_bipush {z : Int} {v : Int32} (hX : Ok X cc own) (hd : decode cc pc = .ok (.bipush z, 2)) (hq : pc + 2 = q) (hv : (Int8.ofInt z).toInt32 = v) (kk : Jg X k n S q lv (.int v :: st)) : Jg X k n S pc lv (st) := by
  obtain ⟨p, l, e, R, s, m, args, below, meth, c, Q, D, E, sz, nL⟩ := X
  subst hq
  exact fun ls H locs hl hW hS => lv_bipush hX.1 hX.2.1 hd hv (kk ls H locs hl hW hS)
theorem j_sipush {z : Int} {v : Int32} (hX : Ok X cc own) (hd : decode cc pc = .ok (.sipush z, 3)) (hq : pc + 3 = q) (hv : (Int16.ofInt z).toInt32 = v) (kk : Jg X k n S q lv (.int v :: st)) : Jg X k n S pc lv (st) := by
  obtain ⟨p, l, e, R, s, m, args, below, meth, c, Q, D, E, sz, nL⟩ := X
  subst hq
  exact fun ls H locs hl hW hS => lv_sipush hX.1 hX.2.1 hd hv (kk ls H locs hl hW hS)
theorem j_lconst {z : Fin 2} {v : Int64} (hX : Ok X cc own) (hd : decode cc pc = .ok (.lconst z, 1)) (hq : pc + 1 = q) (hv : Int64.ofNat (z : Nat) = v) (kk : Jg X k n S q lv (.long v :: st)) : Jg X k n S pc lv (st) := by
  obtain ⟨p, l, e, R, s, m, args, below, meth, c, Q, D, E, sz, nL⟩ := X
  subst hq
  exact fun ls H locs hl hW hS => lv_lconst hX.1 hX.2.1 hd hv (kk ls H locs hl hW hS)
theorem j_dconst0 (hX : Ok X cc own) (hd : decode cc pc = .ok (.dconst 0, 1)) (hq : pc + 1 = q) (kk : Jg X k n S q lv (.double FP.dconst0 :: st)) : Jg X k n S pc lv (st) := by
  obtain ⟨p, l, e, R, s, m, args, below, meth, c, Q, D, E, sz, nL⟩ := X
  subst hq
  exact fun ls H locs hl hW hS => lv_dconst0 hX.1 hX.2.1 hd (kk ls H locs hl hW hS)
theorem j_dconst1 (hX : Ok X cc own) (hd : decode cc pc = .ok (.dconst 1, 1)) (hq : pc + 1 = q) (kk : Jg X k n S q lv (.double FP.dconst1 :: st)) : Jg X k n S pc lv (st) := by
  obtain ⟨p, l, e, R, s, m, args, below, meth, c, Q, D, E, sz, nL⟩ := X
  subst hq
  exact fun ls H locs hl hW hS => lv_dconst1 hX.1 hX.2.1 hd (kk ls H locs hl hW hS)
theorem j_null (hX : Ok X cc own) (hd : decode cc pc = .ok (.aconst_null, 1)) (hq : pc + 1 = q) (kk : Jg X k n S q lv (.null :: st)) : Jg X k n S pc lv (st) := by
  obtain ⟨p, l, e, R, s, m, args, below, meth, c, Q, D, E, sz, nL⟩ := X
  subst hq
  exact fun ls H locs hl hW hS => lv_null hX.1 hX.2.1 hd (kk ls H locs hl hW hS)
theorem j_ldc {ix : Nat} {v : Int32} (hX : Ok X cc own) (hd : decode cc pc = .ok (.ldc ix, 2)) (hq : pc + 2 = q) (hc : Cond.constant own ix v ∈ BIG) (kk : Jg X k n S q lv (.int v :: st)) : Jg X k n S pc lv (st) := by
  obtain ⟨p, l, e, R, s, m, args, below, meth, c, Q, D, E, sz, nL⟩ := X
  subst hq
  exact fun ls H locs hl hW hS => lv_ldc hX.1 hX.2.1 hX.2.2.2.1 (hX.2.2.2.2.1 _ hc) hd (kk ls H locs hl hW hS)
theorem j_ldc2 {ix : Nat} {v : Int64} (hX : Ok X cc own) (hd : decode cc pc = .ok (.ldc2_w ix, 3)) (hq : pc + 3 = q) (hc : Cond.constantLong own ix v ∈ BIG) (kk : Jg X k n S q lv (.long v :: st)) : Jg X k n S pc lv (st) := by
  obtain ⟨p, l, e, R, s, m, args, below, meth, c, Q, D, E, sz, nL⟩ := X
  subst hq
  exact fun ls H locs hl hW hS => lv_ldc2 hX.1 hX.2.1 hX.2.2.2.1 (hX.2.2.2.2.1 _ hc) hd (kk ls H locs hl hW hS)
theorem j_ldc2d {ix : Nat} {v : UInt64} (hX : Ok X cc own) (hd : decode cc pc = .ok (.ldc2_w ix, 3)) (hq : pc + 3 = q) (hc : Cond.constantDouble own ix v ∈ BIG) (kk : Jg X k n S q lv (.double v :: st)) : Jg X k n S pc lv (st) := by
  obtain ⟨p, l, e, R, s, m, args, below, meth, c, Q, D, E, sz, nL⟩ := X
  subst hq
  exact fun ls H locs hl hW hS => lv_ldc2d hX.1 hX.2.1 hX.2.2.2.1 (hX.2.2.2.2.1 _ hc) hd (kk ls H locs hl hW hS)
theorem j_iload_n {z : Fin 4} {x : Int32} (hX : Ok X cc own) (hd : decode cc pc = .ok (.iload_n z, 1)) (hq : pc + 1 = q) (hv : lk lv z = some (.int x)) (kk : Jg X k n S q lv (.int x :: st)) : Jg X k n S pc lv (st) := by
  obtain ⟨p, l, e, R, s, m, args, below, meth, c, Q, D, E, sz, nL⟩ := X
  subst hq
  exact fun ls H locs hl hW hS => lv_iload_n hX.1 hX.2.1 hd rfl (lk_at hl hv) (kk ls H locs hl hW hS)
theorem j_iload {z : Nat} {x : Int32} (hX : Ok X cc own) (hd : decode cc pc = .ok (.iload z, 2)) (hq : pc + 2 = q) (hv : lk lv z = some (.int x)) (kk : Jg X k n S q lv (.int x :: st)) : Jg X k n S pc lv (st) := by
  obtain ⟨p, l, e, R, s, m, args, below, meth, c, Q, D, E, sz, nL⟩ := X
  subst hq
  exact fun ls H locs hl hW hS => lv_iload hX.1 hX.2.1 hd (lk_at hl hv) (kk ls H locs hl hW hS)
theorem j_istore_n {z : Fin 4} {x : Int32} {lv' : List (Nat × Value)} (hX : Ok X cc own) (hd : decode cc pc = .ok (.istore_n z, 1)) (hq : pc + 1 = q) (hz : (z : Nat) < nLx X) (hl' : ss1 lv z (.int x) = lv') (kk : Jg X k n S q lv' st) : Jg X k n S pc lv (.int x :: st) := by
  obtain ⟨p, l, e, R, s, m, args, below, meth, c, Q, D, E, sz, nL⟩ := X
  subst hq
  exact fun ls H locs hl hW hS => lv_istore_n hX.1 hX.2.1 hd rfl hl hz hl' (fun ls' hl' => kk ls' H locs hl' hW hS)
theorem j_istore {z : Nat} {x : Int32} {lv' : List (Nat × Value)} (hX : Ok X cc own) (hd : decode cc pc = .ok (.istore z, 2)) (hq : pc + 2 = q) (hz : z < nLx X) (hl' : ss1 lv z (.int x) = lv') (kk : Jg X k n S q lv' st) : Jg X k n S pc lv (.int x :: st) := by
  obtain ⟨p, l, e, R, s, m, args, below, meth, c, Q, D, E, sz, nL⟩ := X
  subst hq
  exact fun ls H locs hl hW hS => lv_istore hX.1 hX.2.1 hd hl hz hl' (fun ls' hl' => kk ls' H locs hl' hW hS)
theorem j_lload_n {z : Fin 4} {x : Int64} (hX : Ok X cc own) (hd : decode cc pc = .ok (.lload_n z, 1)) (hq : pc + 1 = q) (hv : lk lv z = some (.long x)) (kk : Jg X k n S q lv (.long x :: st)) : Jg X k n S pc lv (st) := by
  obtain ⟨p, l, e, R, s, m, args, below, meth, c, Q, D, E, sz, nL⟩ := X
  subst hq
  exact fun ls H locs hl hW hS => lv_lload_n hX.1 hX.2.1 hd rfl (lk_at hl hv) (kk ls H locs hl hW hS)
theorem j_lload {z : Nat} {x : Int64} (hX : Ok X cc own) (hd : decode cc pc = .ok (.lload z, 2)) (hq : pc + 2 = q) (hv : lk lv z = some (.long x)) (kk : Jg X k n S q lv (.long x :: st)) : Jg X k n S pc lv (st) := by
  obtain ⟨p, l, e, R, s, m, args, below, meth, c, Q, D, E, sz, nL⟩ := X
  subst hq
  exact fun ls H locs hl hW hS => lv_lload hX.1 hX.2.1 hd (lk_at hl hv) (kk ls H locs hl hW hS)
theorem j_lstore_n {z : Fin 4} {x : Int64} {lv' : List (Nat × Value)} (hX : Ok X cc own) (hd : decode cc pc = .ok (.lstore_n z, 1)) (hq : pc + 1 = q) (hz : (z : Nat) + 1 < nLx X) (hl' : ss2 lv z (.long x) = lv') (kk : Jg X k n S q lv' st) : Jg X k n S pc lv (.long x :: st) := by
  obtain ⟨p, l, e, R, s, m, args, below, meth, c, Q, D, E, sz, nL⟩ := X
  subst hq
  exact fun ls H locs hl hW hS => lv_lstore_n hX.1 hX.2.1 hd rfl hl hz hl' (fun ls' hl' => kk ls' H locs hl' hW hS)
theorem j_lstore {z : Nat} {x : Int64} {lv' : List (Nat × Value)} (hX : Ok X cc own) (hd : decode cc pc = .ok (.lstore z, 2)) (hq : pc + 2 = q) (hz : z + 1 < nLx X) (hl' : ss2 lv z (.long x) = lv') (kk : Jg X k n S q lv' st) : Jg X k n S pc lv (.long x :: st) := by
  obtain ⟨p, l, e, R, s, m, args, below, meth, c, Q, D, E, sz, nL⟩ := X
  subst hq
  exact fun ls H locs hl hW hS => lv_lstore hX.1 hX.2.1 hd hl hz hl' (fun ls' hl' => kk ls' H locs hl' hW hS)
theorem j_dload_n {z : Fin 4} {x : UInt64} (hX : Ok X cc own) (hd : decode cc pc = .ok (.dload_n z, 1)) (hq : pc + 1 = q) (hv : lk lv z = some (.double x)) (kk : Jg X k n S q lv (.double x :: st)) : Jg X k n S pc lv (st) := by
  obtain ⟨p, l, e, R, s, m, args, below, meth, c, Q, D, E, sz, nL⟩ := X
  subst hq
  exact fun ls H locs hl hW hS => lv_dload_n hX.1 hX.2.1 hd rfl (lk_at hl hv) (kk ls H locs hl hW hS)
theorem j_dload {z : Nat} {x : UInt64} (hX : Ok X cc own) (hd : decode cc pc = .ok (.dload z, 2)) (hq : pc + 2 = q) (hv : lk lv z = some (.double x)) (kk : Jg X k n S q lv (.double x :: st)) : Jg X k n S pc lv (st) := by
  obtain ⟨p, l, e, R, s, m, args, below, meth, c, Q, D, E, sz, nL⟩ := X
  subst hq
  exact fun ls H locs hl hW hS => lv_dload hX.1 hX.2.1 hd (lk_at hl hv) (kk ls H locs hl hW hS)
theorem j_dstore_n {z : Fin 4} {x : UInt64} {lv' : List (Nat × Value)} (hX : Ok X cc own) (hd : decode cc pc = .ok (.dstore_n z, 1)) (hq : pc + 1 = q) (hz : (z : Nat) + 1 < nLx X) (hl' : ss2 lv z (.double x) = lv') (kk : Jg X k n S q lv' st) : Jg X k n S pc lv (.double x :: st) := by
  obtain ⟨p, l, e, R, s, m, args, below, meth, c, Q, D, E, sz, nL⟩ := X
  subst hq
  exact fun ls H locs hl hW hS => lv_dstore_n hX.1 hX.2.1 hd rfl hl hz hl' (fun ls' hl' => kk ls' H locs hl' hW hS)
theorem j_dstore {z : Nat} {x : UInt64} {lv' : List (Nat × Value)} (hX : Ok X cc own) (hd : decode cc pc = .ok (.dstore z, 2)) (hq : pc + 2 = q) (hz : z + 1 < nLx X) (hl' : ss2 lv z (.double x) = lv') (kk : Jg X k n S q lv' st) : Jg X k n S pc lv (.double x :: st) := by
  obtain ⟨p, l, e, R, s, m, args, below, meth, c, Q, D, E, sz, nL⟩ := X
  subst hq
  exact fun ls H locs hl hW hS => lv_dstore hX.1 hX.2.1 hd hl hz hl' (fun ls' hl' => kk ls' H locs hl' hW hS)
theorem j_aload_n {z : Fin 4} {x : Nat} (hX : Ok X cc own) (hd : decode cc pc = .ok (.aload_n z, 1)) (hq : pc + 1 = q) (hv : lk lv z = some (.ref x)) (kk : Jg X k n S q lv (.ref x :: st)) : Jg X k n S pc lv (st) := by
  obtain ⟨p, l, e, R, s, m, args, below, meth, c, Q, D, E, sz, nL⟩ := X
  subst hq
  exact fun ls H locs hl hW hS => lv_aload_n hX.1 hX.2.1 hd rfl (lk_at hl hv) (kk ls H locs hl hW hS)
theorem j_aload {z : Nat} {x : Nat} (hX : Ok X cc own) (hd : decode cc pc = .ok (.aload z, 2)) (hq : pc + 2 = q) (hv : lk lv z = some (.ref x)) (kk : Jg X k n S q lv (.ref x :: st)) : Jg X k n S pc lv (st) := by
  obtain ⟨p, l, e, R, s, m, args, below, meth, c, Q, D, E, sz, nL⟩ := X
  subst hq
  exact fun ls H locs hl hW hS => lv_aload hX.1 hX.2.1 hd (lk_at hl hv) (kk ls H locs hl hW hS)
theorem j_astore_n {z : Fin 4} {x : Nat} {lv' : List (Nat × Value)} (hX : Ok X cc own) (hd : decode cc pc = .ok (.astore_n z, 1)) (hq : pc + 1 = q) (hz : (z : Nat) < nLx X) (hl' : ss1 lv z (.ref x) = lv') (kk : Jg X k n S q lv' st) : Jg X k n S pc lv (.ref x :: st) := by
  obtain ⟨p, l, e, R, s, m, args, below, meth, c, Q, D, E, sz, nL⟩ := X
  subst hq
  exact fun ls H locs hl hW hS => lv_astore_n hX.1 hX.2.1 hd rfl hl hz hl' (fun ls' hl' => kk ls' H locs hl' hW hS)
theorem j_astore {z : Nat} {x : Nat} {lv' : List (Nat × Value)} (hX : Ok X cc own) (hd : decode cc pc = .ok (.astore z, 2)) (hq : pc + 2 = q) (hz : z < nLx X) (hl' : ss1 lv z (.ref x) = lv') (kk : Jg X k n S q lv' st) : Jg X k n S pc lv (.ref x :: st) := by
  obtain ⟨p, l, e, R, s, m, args, below, meth, c, Q, D, E, sz, nL⟩ := X
  subst hq
  exact fun ls H locs hl hW hS => lv_astore hX.1 hX.2.1 hd hl hz hl' (fun ls' hl' => kk ls' H locs hl' hW hS)
theorem j_aload_nN {z : Fin 4} (hX : Ok X cc own) (hd : decode cc pc = .ok (.aload_n z, 1)) (hq : pc + 1 = q) (hv : lk lv z = some .null) (kk : Jg X k n S q lv (.null :: st)) : Jg X k n S pc lv (st) := by
  obtain ⟨p, l, e, R, s, m, args, below, meth, c, Q, D, E, sz, nL⟩ := X
  subst hq
  exact fun ls H locs hl hW hS => lv_aload_nN hX.1 hX.2.1 hd rfl (lk_at hl hv) (kk ls H locs hl hW hS)
theorem j_aloadN {z : Nat} (hX : Ok X cc own) (hd : decode cc pc = .ok (.aload z, 2)) (hq : pc + 2 = q) (hv : lk lv z = some .null) (kk : Jg X k n S q lv (.null :: st)) : Jg X k n S pc lv (st) := by
  obtain ⟨p, l, e, R, s, m, args, below, meth, c, Q, D, E, sz, nL⟩ := X
  subst hq
  exact fun ls H locs hl hW hS => lv_aloadN hX.1 hX.2.1 hd (lk_at hl hv) (kk ls H locs hl hW hS)
theorem j_astore_nN {z : Fin 4} {lv' : List (Nat × Value)} (hX : Ok X cc own) (hd : decode cc pc = .ok (.astore_n z, 1)) (hq : pc + 1 = q) (hz : (z : Nat) < nLx X) (hl' : ss1 lv z .null = lv') (kk : Jg X k n S q lv' st) : Jg X k n S pc lv (.null :: st) := by
  obtain ⟨p, l, e, R, s, m, args, below, meth, c, Q, D, E, sz, nL⟩ := X
  subst hq
  exact fun ls H locs hl hW hS => lv_astore_nN hX.1 hX.2.1 hd rfl hl hz hl' (fun ls' hl' => kk ls' H locs hl' hW hS)
theorem j_astoreN {z : Nat} {lv' : List (Nat × Value)} (hX : Ok X cc own) (hd : decode cc pc = .ok (.astore z, 2)) (hq : pc + 2 = q) (hz : (z : Nat) < nLx X) (hl' : ss1 lv z .null = lv') (kk : Jg X k n S q lv' st) : Jg X k n S pc lv (.null :: st) := by
  obtain ⟨p, l, e, R, s, m, args, below, meth, c, Q, D, E, sz, nL⟩ := X
  subst hq
  exact fun ls H locs hl hW hS => lv_astoreN hX.1 hX.2.1 hd hl hz hl' (fun ls' hl' => kk ls' H locs hl' hW hS)
theorem j_iinc {z : Nat} {w : Int} {x v : Int32} {lv' : List (Nat × Value)} (hX : Ok X cc own) (hd : decode cc pc = .ok (.iinc z w, 3)) (hq : pc + 3 = q) (hx : lk lv z = some (.int x)) (hv : x + Int32.ofInt w = v) (hz : z < nLx X) (hl' : ss1 lv z (.int v) = lv') (kk : Jg X k n S q lv' st) : Jg X k n S pc lv st := by
  obtain ⟨p, l, e, R, s, m, args, below, meth, c, Q, D, E, sz, nL⟩ := X
  subst hq
  obtain ⟨kx, hkx⟩ := lk_ix hx
  exact fun ls H locs hl hW hS => lv_iinc hX.1 hX.2.1 hd hl hkx hv hz hl' (fun ls' hl' => kk ls' H locs hl' hW hS)
theorem j_iadd {x y : Int32} (hX : Ok X cc own) (hd : decode cc pc = .ok (.iadd, 1)) (hq : pc + 1 = q) (kk : Jg X k n S q lv (.int (x + y) :: st)) : Jg X k n S pc lv (.int y :: .int x :: st) := by
  obtain ⟨p, l, e, R, s, m, args, below, meth, c, Q, D, E, sz, nL⟩ := X
  subst hq
  exact fun ls H locs hl hW hS => lv_iadd hX.1 hX.2.1 hd (kk ls H locs hl hW hS)
theorem j_isub {x y : Int32} (hX : Ok X cc own) (hd : decode cc pc = .ok (.isub, 1)) (hq : pc + 1 = q) (kk : Jg X k n S q lv (.int (x - y) :: st)) : Jg X k n S pc lv (.int y :: .int x :: st) := by
  obtain ⟨p, l, e, R, s, m, args, below, meth, c, Q, D, E, sz, nL⟩ := X
  subst hq
  exact fun ls H locs hl hW hS => lv_isub hX.1 hX.2.1 hd (kk ls H locs hl hW hS)
theorem j_imul {x y : Int32} (hX : Ok X cc own) (hd : decode cc pc = .ok (.imul, 1)) (hq : pc + 1 = q) (kk : Jg X k n S q lv (.int (x * y) :: st)) : Jg X k n S pc lv (.int y :: .int x :: st) := by
  obtain ⟨p, l, e, R, s, m, args, below, meth, c, Q, D, E, sz, nL⟩ := X
  subst hq
  exact fun ls H locs hl hW hS => lv_imul hX.1 hX.2.1 hd (kk ls H locs hl hW hS)
theorem j_iand {x y : Int32} (hX : Ok X cc own) (hd : decode cc pc = .ok (.iand, 1)) (hq : pc + 1 = q) (kk : Jg X k n S q lv (.int (x &&& y) :: st)) : Jg X k n S pc lv (.int y :: .int x :: st) := by
  obtain ⟨p, l, e, R, s, m, args, below, meth, c, Q, D, E, sz, nL⟩ := X
  subst hq
  exact fun ls H locs hl hW hS => lv_iand hX.1 hX.2.1 hd (kk ls H locs hl hW hS)
theorem j_ior {x y : Int32} (hX : Ok X cc own) (hd : decode cc pc = .ok (.ior, 1)) (hq : pc + 1 = q) (kk : Jg X k n S q lv (.int (x ||| y) :: st)) : Jg X k n S pc lv (.int y :: .int x :: st) := by
  obtain ⟨p, l, e, R, s, m, args, below, meth, c, Q, D, E, sz, nL⟩ := X
  subst hq
  exact fun ls H locs hl hW hS => lv_ior hX.1 hX.2.1 hd (kk ls H locs hl hW hS)
theorem j_ixor {x y : Int32} (hX : Ok X cc own) (hd : decode cc pc = .ok (.ixor, 1)) (hq : pc + 1 = q) (kk : Jg X k n S q lv (.int (x ^^^ y) :: st)) : Jg X k n S pc lv (.int y :: .int x :: st) := by
  obtain ⟨p, l, e, R, s, m, args, below, meth, c, Q, D, E, sz, nL⟩ := X
  subst hq
  exact fun ls H locs hl hW hS => lv_ixor hX.1 hX.2.1 hd (kk ls H locs hl hW hS)
theorem j_ishl {x y : Int32} (hX : Ok X cc own) (hd : decode cc pc = .ok (.ishl, 1)) (hq : pc + 1 = q) (kk : Jg X k n S q lv (.int (x <<< (y &&& 31)) :: st)) : Jg X k n S pc lv (.int y :: .int x :: st) := by
  obtain ⟨p, l, e, R, s, m, args, below, meth, c, Q, D, E, sz, nL⟩ := X
  subst hq
  exact fun ls H locs hl hW hS => lv_ishl hX.1 hX.2.1 hd (kk ls H locs hl hW hS)
theorem j_ishr {x y : Int32} (hX : Ok X cc own) (hd : decode cc pc = .ok (.ishr, 1)) (hq : pc + 1 = q) (kk : Jg X k n S q lv (.int (x >>> (y &&& 31)) :: st)) : Jg X k n S pc lv (.int y :: .int x :: st) := by
  obtain ⟨p, l, e, R, s, m, args, below, meth, c, Q, D, E, sz, nL⟩ := X
  subst hq
  exact fun ls H locs hl hW hS => lv_ishr hX.1 hX.2.1 hd (kk ls H locs hl hW hS)
theorem j_idiv {x y : Int32} (hX : Ok X cc own) (hd : decode cc pc = .ok (.idiv, 1)) (hq : pc + 1 = q) (h0 : ¬ y = 0) (kk : Jg X k n S q lv (.int (x / y) :: st)) : Jg X k n S pc lv (.int y :: .int x :: st) := by
  obtain ⟨p, l, e, R, s, m, args, below, meth, c, Q, D, E, sz, nL⟩ := X
  subst hq
  exact fun ls H locs hl hW hS => lv_idiv hX.1 hX.2.1 hd h0 (kk ls H locs hl hW hS)
theorem j_irem {x y : Int32} (hX : Ok X cc own) (hd : decode cc pc = .ok (.irem, 1)) (hq : pc + 1 = q) (h0 : ¬ y = 0) (kk : Jg X k n S q lv (.int (x - x / y * y) :: st)) : Jg X k n S pc lv (.int y :: .int x :: st) := by
  obtain ⟨p, l, e, R, s, m, args, below, meth, c, Q, D, E, sz, nL⟩ := X
  subst hq
  exact fun ls H locs hl hW hS => lv_irem hX.1 hX.2.1 hd h0 (kk ls H locs hl hW hS)
theorem j_ineg {x : Int32} (hX : Ok X cc own) (hd : decode cc pc = .ok (.ineg, 1)) (hq : pc + 1 = q) (kk : Jg X k n S q lv (.int (-x) :: st)) : Jg X k n S pc lv (.int x :: st) := by
  obtain ⟨p, l, e, R, s, m, args, below, meth, c, Q, D, E, sz, nL⟩ := X
  subst hq
  exact fun ls H locs hl hW hS => lv_ineg hX.1 hX.2.1 hd (kk ls H locs hl hW hS)
theorem j_ladd {x y : Int64} (hX : Ok X cc own) (hd : decode cc pc = .ok (.ladd, 1)) (hq : pc + 1 = q) (kk : Jg X k n S q lv (.long (x + y) :: st)) : Jg X k n S pc lv (.long y :: .long x :: st) := by
  obtain ⟨p, l, e, R, s, m, args, below, meth, c, Q, D, E, sz, nL⟩ := X
  subst hq
  exact fun ls H locs hl hW hS => lv_ladd hX.1 hX.2.1 hd (kk ls H locs hl hW hS)
theorem j_lsub {x y : Int64} (hX : Ok X cc own) (hd : decode cc pc = .ok (.lsub, 1)) (hq : pc + 1 = q) (kk : Jg X k n S q lv (.long (x - y) :: st)) : Jg X k n S pc lv (.long y :: .long x :: st) := by
  obtain ⟨p, l, e, R, s, m, args, below, meth, c, Q, D, E, sz, nL⟩ := X
  subst hq
  exact fun ls H locs hl hW hS => lv_lsub hX.1 hX.2.1 hd (kk ls H locs hl hW hS)
theorem j_lmul {x y : Int64} (hX : Ok X cc own) (hd : decode cc pc = .ok (.lmul, 1)) (hq : pc + 1 = q) (kk : Jg X k n S q lv (.long (x * y) :: st)) : Jg X k n S pc lv (.long y :: .long x :: st) := by
  obtain ⟨p, l, e, R, s, m, args, below, meth, c, Q, D, E, sz, nL⟩ := X
  subst hq
  exact fun ls H locs hl hW hS => lv_lmul hX.1 hX.2.1 hd (kk ls H locs hl hW hS)
theorem j_land {x y : Int64} (hX : Ok X cc own) (hd : decode cc pc = .ok (.land, 1)) (hq : pc + 1 = q) (kk : Jg X k n S q lv (.long (x &&& y) :: st)) : Jg X k n S pc lv (.long y :: .long x :: st) := by
  obtain ⟨p, l, e, R, s, m, args, below, meth, c, Q, D, E, sz, nL⟩ := X
  subst hq
  exact fun ls H locs hl hW hS => lv_land hX.1 hX.2.1 hd (kk ls H locs hl hW hS)
theorem j_lor {x y : Int64} (hX : Ok X cc own) (hd : decode cc pc = .ok (.lor, 1)) (hq : pc + 1 = q) (kk : Jg X k n S q lv (.long (x ||| y) :: st)) : Jg X k n S pc lv (.long y :: .long x :: st) := by
  obtain ⟨p, l, e, R, s, m, args, below, meth, c, Q, D, E, sz, nL⟩ := X
  subst hq
  exact fun ls H locs hl hW hS => lv_lor hX.1 hX.2.1 hd (kk ls H locs hl hW hS)
theorem j_lxor {x y : Int64} (hX : Ok X cc own) (hd : decode cc pc = .ok (.lxor, 1)) (hq : pc + 1 = q) (kk : Jg X k n S q lv (.long (x ^^^ y) :: st)) : Jg X k n S pc lv (.long y :: .long x :: st) := by
  obtain ⟨p, l, e, R, s, m, args, below, meth, c, Q, D, E, sz, nL⟩ := X
  subst hq
  exact fun ls H locs hl hW hS => lv_lxor hX.1 hX.2.1 hd (kk ls H locs hl hW hS)
theorem j_lushr {x : Int64} {y : Int32} (hX : Ok X cc own) (hd : decode cc pc = .ok (.lushr, 1)) (hq : pc + 1 = q) (kk : Jg X k n S q lv (.long ((x.toUInt64 >>> (y.toInt64.toUInt64 &&& Int64.toUInt64 63)).toInt64) :: st)) : Jg X k n S pc lv (.int y :: .long x :: st) := by
  obtain ⟨p, l, e, R, s, m, args, below, meth, c, Q, D, E, sz, nL⟩ := X
  subst hq
  exact fun ls H locs hl hW hS => lv_lushr hX.1 hX.2.1 hd rfl (kk ls H locs hl hW hS)
theorem j_lshl {x : Int64} {y : Int32} (hX : Ok X cc own) (hd : decode cc pc = .ok (.lshl, 1)) (hq : pc + 1 = q) (kk : Jg X k n S q lv (.long (x <<< (y.toInt64 &&& 63)) :: st)) : Jg X k n S pc lv (.int y :: .long x :: st) := by
  obtain ⟨p, l, e, R, s, m, args, below, meth, c, Q, D, E, sz, nL⟩ := X
  subst hq
  exact fun ls H locs hl hW hS => lv_lshl hX.1 hX.2.1 hd rfl (kk ls H locs hl hW hS)
theorem j_i2l {x : Int32} (hX : Ok X cc own) (hd : decode cc pc = .ok (.i2l, 1)) (hq : pc + 1 = q) (kk : Jg X k n S q lv (.long x.toInt64 :: st)) : Jg X k n S pc lv (.int x :: st) := by
  obtain ⟨p, l, e, R, s, m, args, below, meth, c, Q, D, E, sz, nL⟩ := X
  subst hq
  exact fun ls H locs hl hW hS => lv_i2l hX.1 hX.2.1 hd rfl (kk ls H locs hl hW hS)
theorem j_l2i {x : Int64} (hX : Ok X cc own) (hd : decode cc pc = .ok (.l2i, 1)) (hq : pc + 1 = q) (kk : Jg X k n S q lv (.int x.toInt32 :: st)) : Jg X k n S pc lv (.long x :: st) := by
  obtain ⟨p, l, e, R, s, m, args, below, meth, c, Q, D, E, sz, nL⟩ := X
  subst hq
  exact fun ls H locs hl hW hS => lv_l2i hX.1 hX.2.1 hd rfl (kk ls H locs hl hW hS)
theorem j_lcmp {x y : Int64} (hX : Ok X cc own) (hd : decode cc pc = .ok (.lcmp, 1)) (hq : pc + 1 = q) (kk : Jg X k n S q lv (.int (lg_cmp x y) :: st)) : Jg X k n S pc lv (.long y :: .long x :: st) := by
  obtain ⟨p, l, e, R, s, m, args, below, meth, c, Q, D, E, sz, nL⟩ := X
  subst hq
  exact fun ls H locs hl hW hS => W.lcmp hX.1 hX.2.1 hd (kk ls H locs hl hW hS)
theorem j_dadd {x y : UInt64} (hX : Ok X cc own) (hd : decode cc pc = .ok (.dadd, 1)) (hq : pc + 1 = q) (hn : vf_n64 (FP.dadd x y)) (kk : Jg X k n S q lv (.double (FP.dadd x y) :: st)) : Jg X k n S pc lv (.double y :: .double x :: st) := by
  obtain ⟨p, l, e, R, s, m, args, below, meth, c, Q, D, E, sz, nL⟩ := X
  subst hq
  exact fun ls H locs hl hW hS => lv_dadd hX.1 hX.2.1 hd hn (kk ls H locs hl hW hS)
theorem j_dsub {x y : UInt64} (hX : Ok X cc own) (hd : decode cc pc = .ok (.dsub, 1)) (hq : pc + 1 = q) (hn : vf_n64 (FP.dsub x y)) (kk : Jg X k n S q lv (.double (FP.dsub x y) :: st)) : Jg X k n S pc lv (.double y :: .double x :: st) := by
  obtain ⟨p, l, e, R, s, m, args, below, meth, c, Q, D, E, sz, nL⟩ := X
  subst hq
  exact fun ls H locs hl hW hS => lv_dsub hX.1 hX.2.1 hd hn (kk ls H locs hl hW hS)
theorem j_dmul {x y : UInt64} (hX : Ok X cc own) (hd : decode cc pc = .ok (.dmul, 1)) (hq : pc + 1 = q) (hn : vf_n64 (FP.dmul x y)) (kk : Jg X k n S q lv (.double (FP.dmul x y) :: st)) : Jg X k n S pc lv (.double y :: .double x :: st) := by
  obtain ⟨p, l, e, R, s, m, args, below, meth, c, Q, D, E, sz, nL⟩ := X
  subst hq
  exact fun ls H locs hl hW hS => lv_dmul hX.1 hX.2.1 hd hn (kk ls H locs hl hW hS)
theorem j_ddiv {x y : UInt64} (hX : Ok X cc own) (hd : decode cc pc = .ok (.ddiv, 1)) (hq : pc + 1 = q) (hn : vf_n64 (FP.ddiv x y)) (kk : Jg X k n S q lv (.double (FP.ddiv x y) :: st)) : Jg X k n S pc lv (.double y :: .double x :: st) := by
  obtain ⟨p, l, e, R, s, m, args, below, meth, c, Q, D, E, sz, nL⟩ := X
  subst hq
  exact fun ls H locs hl hW hS => lv_ddiv hX.1 hX.2.1 hd hn (kk ls H locs hl hW hS)
theorem j_dneg {x : UInt64} (hX : Ok X cc own) (hd : decode cc pc = .ok (.dneg, 1)) (hq : pc + 1 = q) (kk : Jg X k n S q lv (.double (FP.dneg x) :: st)) : Jg X k n S pc lv (.double x :: st) := by
  obtain ⟨p, l, e, R, s, m, args, below, meth, c, Q, D, E, sz, nL⟩ := X
  subst hq
  exact fun ls H locs hl hW hS => lv_dneg hX.1 hX.2.1 hd (kk ls H locs hl hW hS)
theorem j_dcmp {x y : UInt64} {op : CmpOp} (hX : Ok X cc own) (hd : decode cc pc = .ok (.dcmp op, 1)) (hq : pc + 1 = q) (kk : Jg X k n S q lv (.int (Op.cmpValue (FP.dcmp x y) op) :: st)) : Jg X k n S pc lv (.double y :: .double x :: st) := by
  obtain ⟨p, l, e, R, s, m, args, below, meth, c, Q, D, E, sz, nL⟩ := X
  subst hq
  exact fun ls H locs hl hW hS => lv_dcmp hX.1 hX.2.1 hd (kk ls H locs hl hW hS)
theorem j_i2d {x : Int32} (hX : Ok X cc own) (hd : decode cc pc = .ok (.i2d, 1)) (hq : pc + 1 = q) (kk : Jg X k n S q lv (.double (FP.i2d x) :: st)) : Jg X k n S pc lv (.int x :: st) := by
  obtain ⟨p, l, e, R, s, m, args, below, meth, c, Q, D, E, sz, nL⟩ := X
  subst hq
  exact fun ls H locs hl hW hS => lv_i2d hX.1 hX.2.1 hd (kk ls H locs hl hW hS)
theorem j_l2d {x : Int64} (hX : Ok X cc own) (hd : decode cc pc = .ok (.l2d, 1)) (hq : pc + 1 = q) (kk : Jg X k n S q lv (.double (FP.l2d x) :: st)) : Jg X k n S pc lv (.long x :: st) := by
  obtain ⟨p, l, e, R, s, m, args, below, meth, c, Q, D, E, sz, nL⟩ := X
  subst hq
  exact fun ls H locs hl hW hS => lv_l2d hX.1 hX.2.1 hd (kk ls H locs hl hW hS)
theorem j_d2i {x : UInt64} (hX : Ok X cc own) (hd : decode cc pc = .ok (.d2i, 1)) (hq : pc + 1 = q) (kk : Jg X k n S q lv (.int (FP.d2i x) :: st)) : Jg X k n S pc lv (.double x :: st) := by
  obtain ⟨p, l, e, R, s, m, args, below, meth, c, Q, D, E, sz, nL⟩ := X
  subst hq
  exact fun ls H locs hl hW hS => lv_d2i hX.1 hX.2.1 hd (kk ls H locs hl hW hS)
theorem j_dup {a : Value} (hX : Ok X cc own) (hd : decode cc pc = .ok (.dup, 1)) (hq : pc + 1 = q) (h1 : a.category = 1) (kk : Jg X k n S q lv (a :: a :: st)) : Jg X k n S pc lv (a :: st) := by
  obtain ⟨p, l, e, R, s, m, args, below, meth, c, Q, D, E, sz, nL⟩ := X
  subst hq
  exact fun ls H locs hl hW hS => lv_dup hX.1 hX.2.1 hd h1 (kk ls H locs hl hW hS)
theorem j_pop {a : Value} (hX : Ok X cc own) (hd : decode cc pc = .ok (.pop, 1)) (hq : pc + 1 = q) (h1 : a.category = 1) (kk : Jg X k n S q lv (st)) : Jg X k n S pc lv (a :: st) := by
  obtain ⟨p, l, e, R, s, m, args, below, meth, c, Q, D, E, sz, nL⟩ := X
  subst hq
  exact fun ls H locs hl hW hS => lv_pop hX.1 hX.2.1 hd h1 (kk ls H locs hl hW hS)
theorem j_dup_x1 {a b : Value} (hX : Ok X cc own) (hd : decode cc pc = .ok (.dup_x1, 1)) (hq : pc + 1 = q) (h1 : a.category = 1) (h2 : b.category = 1) (kk : Jg X k n S q lv (a :: b :: a :: st)) : Jg X k n S pc lv (a :: b :: st) := by
  obtain ⟨p, l, e, R, s, m, args, below, meth, c, Q, D, E, sz, nL⟩ := X
  subst hq
  exact fun ls H locs hl hW hS => lv_dup_x1 hX.1 hX.2.1 hd h1 h2 (kk ls H locs hl hW hS)
theorem j_dup_x2 {a b d : Value} (hX : Ok X cc own) (hd : decode cc pc = .ok (.dup_x2, 1)) (hq : pc + 1 = q) (h1 : a.category = 1) (h2 : b.category = 1) (h3 : d.category = 1) (kk : Jg X k n S q lv (a :: b :: d :: a :: st)) : Jg X k n S pc lv (a :: b :: d :: st) := by
  obtain ⟨p, l, e, R, s, m, args, below, meth, c, Q, D, E, sz, nL⟩ := X
  subst hq
  exact fun ls H locs hl hW hS => lv_dup_x2 hX.1 hX.2.1 hd h1 h2 h3 (kk ls H locs hl hW hS)
theorem j_dup2_11 {a b : Value} (hX : Ok X cc own) (hd : decode cc pc = .ok (.dup2, 1)) (hq : pc + 1 = q) (h1 : a.category = 1) (h2 : b.category = 1) (kk : Jg X k n S q lv (a :: b :: a :: b :: st)) : Jg X k n S pc lv (a :: b :: st) := by
  obtain ⟨p, l, e, R, s, m, args, below, meth, c, Q, D, E, sz, nL⟩ := X
  subst hq
  exact fun ls H locs hl hW hS => lv_dup2_11 hX.1 hX.2.1 hd h1 h2 (kk ls H locs hl hW hS)
theorem j_dup2_2 {a : Value} (hX : Ok X cc own) (hd : decode cc pc = .ok (.dup2, 1)) (hq : pc + 1 = q) (h1 : a.category = 2) (kk : Jg X k n S q lv (a :: a :: st)) : Jg X k n S pc lv (a :: st) := by
  obtain ⟨p, l, e, R, s, m, args, below, meth, c, Q, D, E, sz, nL⟩ := X
  subst hq
  exact fun ls H locs hl hW hS => lv_dup2_2 hX.1 hX.2.1 hd h1 (kk ls H locs hl hW hS)
theorem j_if_eq {x : Int32} {off : Int} {tgt : Nat} (hX : Ok X cc own) (hd : decode cc pc = .ok (.ifCond .eq off, 3)) (hq : pc + 3 = q) (ht : (pc : Int) + off = (tgt : Int)) (kt : x = 0 → Jg X k n S tgt lv st) (kf : ¬ x = 0 → Jg X k n S q lv st) : Jg X k n S pc lv (.int x :: st) := by
  obtain ⟨p, l, e, R, s, m, args, below, meth, c, Q, D, E, sz, nL⟩ := X
  subst hq
  exact fun ls H locs hl hW hS => lv_if_eq hX.1 hX.2.1 hd ht (fun h => kt h ls H locs hl hW hS) (fun h => kf h ls H locs hl hW hS)
theorem j_icmp_eq {x y : Int32} {off : Int} {tgt : Nat} (hX : Ok X cc own) (hd : decode cc pc = .ok (.if_icmp .eq off, 3)) (hq : pc + 3 = q) (ht : (pc : Int) + off = (tgt : Int)) (kt : x = y → Jg X k n S tgt lv st) (kf : ¬ x = y → Jg X k n S q lv st) : Jg X k n S pc lv (.int y :: .int x :: st) := by
  obtain ⟨p, l, e, R, s, m, args, below, meth, c, Q, D, E, sz, nL⟩ := X
  subst hq
  exact fun ls H locs hl hW hS => lv_icmp_eq hX.1 hX.2.1 hd ht (fun h => kt h ls H locs hl hW hS) (fun h => kf h ls H locs hl hW hS)
theorem j_if_ne {x : Int32} {off : Int} {tgt : Nat} (hX : Ok X cc own) (hd : decode cc pc = .ok (.ifCond .ne off, 3)) (hq : pc + 3 = q) (ht : (pc : Int) + off = (tgt : Int)) (kt : ¬ x = 0 → Jg X k n S tgt lv st) (kf : x = 0 → Jg X k n S q lv st) : Jg X k n S pc lv (.int x :: st) := by
  obtain ⟨p, l, e, R, s, m, args, below, meth, c, Q, D, E, sz, nL⟩ := X
  subst hq
  exact fun ls H locs hl hW hS => lv_if_ne hX.1 hX.2.1 hd ht (fun h => kt h ls H locs hl hW hS) (fun h => kf h ls H locs hl hW hS)
theorem j_icmp_ne {x y : Int32} {off : Int} {tgt : Nat} (hX : Ok X cc own) (hd : decode cc pc = .ok (.if_icmp .ne off, 3)) (hq : pc + 3 = q) (ht : (pc : Int) + off = (tgt : Int)) (kt : ¬ x = y → Jg X k n S tgt lv st) (kf : x = y → Jg X k n S q lv st) : Jg X k n S pc lv (.int y :: .int x :: st) := by
  obtain ⟨p, l, e, R, s, m, args, below, meth, c, Q, D, E, sz, nL⟩ := X
  subst hq
  exact fun ls H locs hl hW hS => lv_icmp_ne hX.1 hX.2.1 hd ht (fun h => kt h ls H locs hl hW hS) (fun h => kf h ls H locs hl hW hS)
theorem j_if_lt {x : Int32} {off : Int} {tgt : Nat} (hX : Ok X cc own) (hd : decode cc pc = .ok (.ifCond .lt off, 3)) (hq : pc + 3 = q) (ht : (pc : Int) + off = (tgt : Int)) (kt : x < 0 → Jg X k n S tgt lv st) (kf : ¬ x < 0 → Jg X k n S q lv st) : Jg X k n S pc lv (.int x :: st) := by
  obtain ⟨p, l, e, R, s, m, args, below, meth, c, Q, D, E, sz, nL⟩ := X
  subst hq
  exact fun ls H locs hl hW hS => lv_if_lt hX.1 hX.2.1 hd ht (fun h => kt h ls H locs hl hW hS) (fun h => kf h ls H locs hl hW hS)
theorem j_icmp_lt {x y : Int32} {off : Int} {tgt : Nat} (hX : Ok X cc own) (hd : decode cc pc = .ok (.if_icmp .lt off, 3)) (hq : pc + 3 = q) (ht : (pc : Int) + off = (tgt : Int)) (kt : x < y → Jg X k n S tgt lv st) (kf : ¬ x < y → Jg X k n S q lv st) : Jg X k n S pc lv (.int y :: .int x :: st) := by
  obtain ⟨p, l, e, R, s, m, args, below, meth, c, Q, D, E, sz, nL⟩ := X
  subst hq
  exact fun ls H locs hl hW hS => lv_icmp_lt hX.1 hX.2.1 hd ht (fun h => kt h ls H locs hl hW hS) (fun h => kf h ls H locs hl hW hS)
theorem j_if_ge {x : Int32} {off : Int} {tgt : Nat} (hX : Ok X cc own) (hd : decode cc pc = .ok (.ifCond .ge off, 3)) (hq : pc + 3 = q) (ht : (pc : Int) + off = (tgt : Int)) (kt : 0 ≤ x → Jg X k n S tgt lv st) (kf : ¬ 0 ≤ x → Jg X k n S q lv st) : Jg X k n S pc lv (.int x :: st) := by
  obtain ⟨p, l, e, R, s, m, args, below, meth, c, Q, D, E, sz, nL⟩ := X
  subst hq
  exact fun ls H locs hl hW hS => lv_if_ge hX.1 hX.2.1 hd ht (fun h => kt h ls H locs hl hW hS) (fun h => kf h ls H locs hl hW hS)
theorem j_icmp_ge {x y : Int32} {off : Int} {tgt : Nat} (hX : Ok X cc own) (hd : decode cc pc = .ok (.if_icmp .ge off, 3)) (hq : pc + 3 = q) (ht : (pc : Int) + off = (tgt : Int)) (kt : y ≤ x → Jg X k n S tgt lv st) (kf : ¬ y ≤ x → Jg X k n S q lv st) : Jg X k n S pc lv (.int y :: .int x :: st) := by
  obtain ⟨p, l, e, R, s, m, args, below, meth, c, Q, D, E, sz, nL⟩ := X
  subst hq
  exact fun ls H locs hl hW hS => lv_icmp_ge hX.1 hX.2.1 hd ht (fun h => kt h ls H locs hl hW hS) (fun h => kf h ls H locs hl hW hS)
theorem j_if_gt {x : Int32} {off : Int} {tgt : Nat} (hX : Ok X cc own) (hd : decode cc pc = .ok (.ifCond .gt off, 3)) (hq : pc + 3 = q) (ht : (pc : Int) + off = (tgt : Int)) (kt : 0 < x → Jg X k n S tgt lv st) (kf : ¬ 0 < x → Jg X k n S q lv st) : Jg X k n S pc lv (.int x :: st) := by
  obtain ⟨p, l, e, R, s, m, args, below, meth, c, Q, D, E, sz, nL⟩ := X
  subst hq
  exact fun ls H locs hl hW hS => lv_if_gt hX.1 hX.2.1 hd ht (fun h => kt h ls H locs hl hW hS) (fun h => kf h ls H locs hl hW hS)
theorem j_icmp_gt {x y : Int32} {off : Int} {tgt : Nat} (hX : Ok X cc own) (hd : decode cc pc = .ok (.if_icmp .gt off, 3)) (hq : pc + 3 = q) (ht : (pc : Int) + off = (tgt : Int)) (kt : y < x → Jg X k n S tgt lv st) (kf : ¬ y < x → Jg X k n S q lv st) : Jg X k n S pc lv (.int y :: .int x :: st) := by
  obtain ⟨p, l, e, R, s, m, args, below, meth, c, Q, D, E, sz, nL⟩ := X
  subst hq
  exact fun ls H locs hl hW hS => lv_icmp_gt hX.1 hX.2.1 hd ht (fun h => kt h ls H locs hl hW hS) (fun h => kf h ls H locs hl hW hS)
theorem j_if_le {x : Int32} {off : Int} {tgt : Nat} (hX : Ok X cc own) (hd : decode cc pc = .ok (.ifCond .le off, 3)) (hq : pc + 3 = q) (ht : (pc : Int) + off = (tgt : Int)) (kt : x ≤ 0 → Jg X k n S tgt lv st) (kf : ¬ x ≤ 0 → Jg X k n S q lv st) : Jg X k n S pc lv (.int x :: st) := by
  obtain ⟨p, l, e, R, s, m, args, below, meth, c, Q, D, E, sz, nL⟩ := X
  subst hq
  exact fun ls H locs hl hW hS => lv_if_le hX.1 hX.2.1 hd ht (fun h => kt h ls H locs hl hW hS) (fun h => kf h ls H locs hl hW hS)
theorem j_icmp_le {x y : Int32} {off : Int} {tgt : Nat} (hX : Ok X cc own) (hd : decode cc pc = .ok (.if_icmp .le off, 3)) (hq : pc + 3 = q) (ht : (pc : Int) + off = (tgt : Int)) (kt : x ≤ y → Jg X k n S tgt lv st) (kf : ¬ x ≤ y → Jg X k n S q lv st) : Jg X k n S pc lv (.int y :: .int x :: st) := by
  obtain ⟨p, l, e, R, s, m, args, below, meth, c, Q, D, E, sz, nL⟩ := X
  subst hq
  exact fun ls H locs hl hW hS => lv_icmp_le hX.1 hX.2.1 hd ht (fun h => kt h ls H locs hl hW hS) (fun h => kf h ls H locs hl hW hS)
theorem j_goto {off : Int} {tgt : Nat} (hX : Ok X cc own) (hd : decode cc pc = .ok (.goto off, 3)) (ht : (pc : Int) + off = (tgt : Int)) (kk : Jg X k n S tgt lv st) : Jg X k n S pc lv st := by
  obtain ⟨p, l, e, R, s, m, args, below, meth, c, Q, D, E, sz, nL⟩ := X
  exact fun ls H locs hl hW hS => lv_goto hX.1 hX.2.1 hd ht (kk ls H locs hl hW hS)
theorem j_ifnonnull {x : Nat} {off : Int} {tgt : Nat} (hX : Ok X cc own) (hd : decode cc pc = .ok (.ifnonnull off, 3)) (ht : (pc : Int) + off = (tgt : Int)) (kk : Jg X k n S tgt lv st) : Jg X k n S pc lv (.ref x :: st) := by
  obtain ⟨p, l, e, R, s, m, args, below, meth, c, Q, D, E, sz, nL⟩ := X
  exact fun ls H locs hl hW hS => lv_ifnonnull hX.1 hX.2.1 hd ht (kk ls H locs hl hW hS)
theorem j_ifnullN {off : Int} {tgt : Nat} (hX : Ok X cc own) (hd : decode cc pc = .ok (.ifnull off, 3)) (ht : (pc : Int) + off = (tgt : Int)) (kk : Jg X k n S tgt lv st) : Jg X k n S pc lv (.null :: st) := by
  obtain ⟨p, l, e, R, s, m, args, below, meth, c, Q, D, E, sz, nL⟩ := X
  exact fun ls H locs hl hW hS => lv_ifnullN hX.1 hX.2.1 hd ht (kk ls H locs hl hW hS)
theorem j_ifnull {x : Nat} {off : Int} (hX : Ok X cc own) (hd : decode cc pc = .ok (.ifnull off, 3)) (hq : pc + 3 = q) (kk : Jg X k n S q lv (st)) : Jg X k n S pc lv (.ref x :: st) := by
  obtain ⟨p, l, e, R, s, m, args, below, meth, c, Q, D, E, sz, nL⟩ := X
  subst hq
  exact fun ls H locs hl hW hS => lv_ifnull hX.1 hX.2.1 hd (kk ls H locs hl hW hS)
theorem j_ifnonnullN {off : Int} (hX : Ok X cc own) (hd : decode cc pc = .ok (.ifnonnull off, 3)) (hq : pc + 3 = q) (kk : Jg X k n S q lv (st)) : Jg X k n S pc lv (.null :: st) := by
  obtain ⟨p, l, e, R, s, m, args, below, meth, c, Q, D, E, sz, nL⟩ := X
  subst hq
  exact fun ls H locs hl hW hS => lv_ifnonnullN hX.1 hX.2.1 hd (kk ls H locs hl hW hS)
theorem j_acmp_eq {rx ry : Option Nat} {vx vy : Value} {off : Int} {tgt : Nat} (hX : Ok X cc own) (hd : decode cc pc = .ok (.if_acmp .eq off, 3)) (hq : pc + 3 = q) (ht : (pc : Int) + off = (tgt : Int)) (hx : vx = va_rf rx) (hy : vy = va_rf ry) (kt : rx = ry → Jg X k n S tgt lv st) (kf : ¬ rx = ry → Jg X k n S q lv st) : Jg X k n S pc lv (vy :: vx :: st) := by
  obtain ⟨p, l, e, R, s, m, args, below, meth, c, Q, D, E, sz, nL⟩ := X
  subst hq
  subst hx
  subst hy
  exact fun ls H locs hl hW hS => lv_acmp_eq hX.1 hX.2.1 hd ht (fun h => kt h ls H locs hl hW hS) (fun h => kf h ls H locs hl hW hS)
theorem j_acmp_ne {rx ry : Option Nat} {vx vy : Value} {off : Int} {tgt : Nat} (hX : Ok X cc own) (hd : decode cc pc = .ok (.if_acmp .ne off, 3)) (hq : pc + 3 = q) (ht : (pc : Int) + off = (tgt : Int)) (hx : vx = va_rf rx) (hy : vy = va_rf ry) (kt : ¬ rx = ry → Jg X k n S tgt lv st) (kf : rx = ry → Jg X k n S q lv st) : Jg X k n S pc lv (vy :: vx :: st) := by
  obtain ⟨p, l, e, R, s, m, args, below, meth, c, Q, D, E, sz, nL⟩ := X
  subst hq
  subst hx
  subst hy
  exact fun ls H locs hl hW hS => lv_acmp_ne hX.1 hX.2.1 hd ht (fun h => kt h ls H locs hl hW hS) (fun h => kf h ls H locs hl hW hS)
theorem j_tableIn {dflt lo hi : Int} {offs : Array Int} {len : Nat} {x : Int32} {off : Int} {tgt : Nat} (hX : Ok X cc own) (hd : decode cc pc = .ok (.tableswitch dflt lo hi offs, len)) (h1 : ¬ x.toInt < lo) (h2 : ¬ hi < x.toInt) (ho : offs[(x.toInt - lo).toNat]? = some off) (ht : (pc : Int) + off = (tgt : Int)) (kk : Jg X k n S tgt lv st) : Jg X k n S pc lv (.int x :: st) := by
  obtain ⟨p, l, e, R, s, m, args, below, meth, c, Q, D, E, sz, nL⟩ := X
  exact fun ls H locs hl hW hS => lv_tableIn hX.1 hX.2.1 hd h1 h2 ho ht (kk ls H locs hl hW hS)
theorem j_tableOut {dflt lo hi : Int} {offs : Array Int} {len : Nat} {x : Int32} {tgt : Nat} (hX : Ok X cc own) (hd : decode cc pc = .ok (.tableswitch dflt lo hi offs, len)) (h1 : x.toInt < lo ∨ hi < x.toInt) (ht : (pc : Int) + dflt = (tgt : Int)) (kk : Jg X k n S tgt lv st) : Jg X k n S pc lv (.int x :: st) := by
  obtain ⟨p, l, e, R, s, m, args, below, meth, c, Q, D, E, sz, nL⟩ := X
  exact fun ls H locs hl hW hS => lv_tableOut hX.1 hX.2.1 hd h1 ht (kk ls H locs hl hW hS)
end JR
end
section
section SF
variable {X : Cx} {k n : Nat} {S : St} {pc q : Nat} {lv : List (Nat × Value)} {st : List Value} {cc : ByteArray} {own : String} {C : String} {T : u_T} {N a x i j ix : Nat} {ty : Nat → FieldType}
/-- a final field, in its class's own constructor -/
theorem j_putF {S' : St} {v : Value} {fty : FieldType} (hX : Ok X cc own) (hI : inX X) (hK : CK (kn_c x) C T N ty) (hd : decode cc pc = .ok (.putfield ix, 3)) (hq : pc + 3 = q) (hf : Cond.fieldLink own ix (T j).1 (T j).2.1 (T j).2.2.1 ∈ BIG) (ha : a = sA S x i) (hi : i < sC S x) (hx : kn_a x = false) (hN : kn_n x = N) (hj : j < N) (hfin : (T j).2.2.2 = true) (hdecl : (T j).1 = own) (hd2 : parseFieldDescriptor (T j).2.2.1 = some fty) (hn : narrow fty v = v) (hfit : fits fty v = true)
    (hC : sC S' = sC S) (hA : sA S' = sA S) (ho : ∀ E a b, ¬ (a = x ∧ b = i) → sE E S' a b = sE E S a b) (hv : sV S' x i j = v) (hz : ∀ z, z ≠ j → sV S' x i z = sV S x i z) (hR : ∀ E L f, Rp E S L f → ∀ k i j r, i < sC S k → sR S' k i j = some r → r < sC S (kn_r k j)) (kk : Jg X k n S' q lv st) : Jg X k n S pc lv (v :: .ref a :: st) := by
  obtain ⟨p, l, e, R, s, m, args, below, meth, c, Q, D, E, sz, nL⟩ := X
  subst hq
  subst ha
  intro ls H locs hl hW hS
  obtain ⟨L, f, hR0, hP, hD⟩ := hW
  obtain ⟨h1, h2⟩ := hR0.1 x i hi
  obtain ⟨q0, hq0⟩ := va_pl_get (X := []) (f := f) h1
  have hq1 := hq0
  have he : sE E S x i = .inr (kn_c x, (List.range N).map (sV S x i)) := by unfold sE; rw [hx, hN]; rfl
  rw [h2, he] at hq0
  refine va_putF hX.1 hX.2.1 hX.2.2.2.2.1 hK.2.1 ty hK.2.2.1 hK.2.2.2 hX.2.2.2.1 hX.2.2.2.2.2.1.1 hP hD hS q0 hq0 hK.1 j hj (hX.2.2.2.2.1 _ hf) (fun _ h => h) hfin hI hdecl hd2 hn hfit (by simpa using hj) hd (fun H1 locs1 hP1 hD1 hS1 => kk ls H1 locs1 hl ⟨L, va_up f (sA S x i) (.inr (kn_c x, ((List.range N).map (sV S x i)).set j v)), ?_, ?_, ?_⟩ hS1)
  · refine hR0.upd hi hC hA (ho E) ?_ (hR E L f hR0)
    unfold sE
    rw [hx, hN, rng_set hv hz]
    rfl
  · rw [va_pl_set hD h1 hq1] at hP1
    exact hP1
  · rw [va_pl_set hD h1 hq1] at hD1
    exact hD1
theorem j_putFI {v : Int32} (hX : Ok X cc own) (hI : inX X) (hK : CK (kn_c x) C T N ty) (hd : decode cc pc = .ok (.putfield ix, 3)) (hq : pc + 3 = q) (hf : Cond.fieldLink own ix (T j).1 (T j).2.1 (T j).2.2.1 ∈ BIG) (ha : a = sA S x i) (hi : i < sC S x) (hx : kn_a x = false) (hN : kn_n x = N) (hj : j < N) (hfin : (T j).2.2.2 = true) (hdecl : (T j).1 = own) (hd2 : parseFieldDescriptor (T j).2.2.1 = some .int) (ht : kn_t x j = 0) (kk : Jg X k n (pI S x i j v) q lv st) : Jg X k n S pc lv (.int v :: .ref a :: st) :=
  j_putF (S' := pI S x i j v) hX hI hK hd hq hf ha hi hx hN hj hfin hdecl hd2 rfl rfl rfl rfl (fun _ _ _ h => sE_otherI h) (sV_I (Or.inl ht)) (fun _ h => sV_neI h) (fun _ _ _ h => h.2.2) kk
theorem j_putFJ {v : Int64} (hX : Ok X cc own) (hI : inX X) (hK : CK (kn_c x) C T N ty) (hd : decode cc pc = .ok (.putfield ix, 3)) (hq : pc + 3 = q) (hf : Cond.fieldLink own ix (T j).1 (T j).2.1 (T j).2.2.1 ∈ BIG) (ha : a = sA S x i) (hi : i < sC S x) (hx : kn_a x = false) (hN : kn_n x = N) (hj : j < N) (hfin : (T j).2.2.2 = true) (hdecl : (T j).1 = own) (hd2 : parseFieldDescriptor (T j).2.2.1 = some .long) (ht : kn_t x j = 1) (kk : Jg X k n (pJ S x i j v) q lv st) : Jg X k n S pc lv (.long v :: .ref a :: st) :=
  j_putF (S' := pJ S x i j v) hX hI hK hd hq hf ha hi hx hN hj hfin hdecl hd2 rfl rfl rfl rfl (fun _ _ _ h => sE_otherJ h) (sV_J ht) (fun _ h => sV_neJ h) (fun _ _ _ h => h.2.2) kk
theorem j_putFD {v : UInt64} (hX : Ok X cc own) (hI : inX X) (hK : CK (kn_c x) C T N ty) (hd : decode cc pc = .ok (.putfield ix, 3)) (hq : pc + 3 = q) (hf : Cond.fieldLink own ix (T j).1 (T j).2.1 (T j).2.2.1 ∈ BIG) (ha : a = sA S x i) (hi : i < sC S x) (hx : kn_a x = false) (hN : kn_n x = N) (hj : j < N) (hfin : (T j).2.2.2 = true) (hdecl : (T j).1 = own) (hd2 : parseFieldDescriptor (T j).2.2.1 = some .double) (ht : kn_t x j = 2) (kk : Jg X k n (pD S x i j v) q lv st) : Jg X k n S pc lv (.double v :: .ref a :: st) :=
  j_putF (S' := pD S x i j v) hX hI hK hd hq hf ha hi hx hN hj hfin hdecl hd2 rfl rfl rfl rfl (fun _ _ _ h => sE_otherD h) (sV_D ht) (fun _ h => sV_neD h) (fun _ _ _ h => h.2.2) kk
theorem j_putFR {r b : Nat} {fty : FieldType} (hX : Ok X cc own) (hI : inX X) (hK : CK (kn_c x) C T N ty) (hd : decode cc pc = .ok (.putfield ix, 3)) (hq : pc + 3 = q) (hf : Cond.fieldLink own ix (T j).1 (T j).2.1 (T j).2.2.1 ∈ BIG) (ha : a = sA S x i) (hi : i < sC S x) (hx : kn_a x = false) (hN : kn_n x = N) (hj : j < N) (hfin : (T j).2.2.2 = true) (hdecl : (T j).1 = own) (hd2 : parseFieldDescriptor (T j).2.2.1 = some fty) (hn : narrow fty (.ref b) = .ref b) (hft : fits fty (.ref b) = true) (ht : kn_t x j = 3) (hw : b = sA S (kn_r x j) r) (hv : r < sC S (kn_r x j)) (kk : Jg X k n (pR S x i j (some r)) q lv st) : Jg X k n S pc lv (.ref b :: .ref a :: st) :=
  j_putF (S' := pR S x i j (some r)) hX hI hK hd hq hf ha hi hx hN hj hfin hdecl hd2 hn hft rfl rfl (fun _ _ _ h => sE_otherR h) (by rw [sV_R ht, hw]; rfl) (fun _ h => sV_neR h) (fun _ _ _ h => Rp_refs h (fun r' e => by cases e; exact hv)) kk
end SF
theorem u3_row {α : Type} {F : Nat → Nat → Nat → α} {k i j : Nat} {v : α} : u3 F k i j v k i = fun z => if z = j then v else F k i z := by
  funext z
  simp [u3]
section SA
variable {X : Cx} {k n : Nat} {S : St} {pc q : Nat} {lv : List (Nat × Value)} {st : List Value} {cc : ByteArray} {own : String} {a x i j : Nat} {w : Int32}
/-- an array's cell -/
theorem arr_at {D : va_G} {E : Nat → ClassId} {sz : Nat} {H : Heap} (hW : Wd D E sz S H) (hi : i < sC S x) (hx : kn_a x = true) : ∃ (L : List Nat) (f : Nat → va_E) (q0 : Nat), Rp E S L f ∧ va_P D vwCl ([] ++ va_pl L f) H ∧ va_D (fun q => sz ≤ q) ([] ++ va_pl L f) ∧ sA S x i ∈ L ∧ ([] ++ va_pl L f)[q0]? = some (sA S x i, f (sA S x i)) ∧ ([] ++ va_pl L f)[q0]? = some (sA S x i, .inl (E (kn_c x), sN S x i, sX S x i)) := by
  obtain ⟨L, f, hR, hP, hD⟩ := hW
  obtain ⟨h1, h2⟩ := hR.1 x i hi
  obtain ⟨q0, hq0⟩ := va_pl_get (X := []) (f := f) h1
  have he : sE E S x i = .inl (E (kn_c x), sN S x i, sX S x i) := by unfold sE; rw [hx]; rfl
  exact ⟨L, f, q0, hR, hP, hD, h1, hq0, by rw [hq0, h2, he]⟩
theorem j_alen (hX : Ok X cc own) (hd : decode cc pc = .ok (.arraylength, 1)) (hq : pc + 1 = q) (ha : a = sA S x i) (hi : i < sC S x) (hx : kn_a x = true) (hc : kn_c x < 11) (hw : nI (sN S x i) = w) (kk : Jg X k n S q lv (.int w :: st)) : Jg X k n S pc lv (.ref a :: st) := by
  obtain ⟨p, l, e, R, s, m, args, below, meth, c, Q, D, E, sz, nL⟩ := X
  subst hq
  subst ha
  intro ls H locs hl hW hS
  obtain ⟨L, f, q0, hR, hP, hD, h1, hq1, hq0⟩ := arr_at hW hi hx
  have ht : ∃ ty, (tyE E)[kn_c x]? = some (E (kn_c x), ty) := by
    match h : kn_c x, hc with
    | 0, _ => exact ⟨_, rfl⟩
    | 1, _ => exact ⟨_, rfl⟩
    | 2, _ => exact ⟨_, rfl⟩
    | 3, _ => exact ⟨_, rfl⟩
    | 4, _ => exact ⟨_, rfl⟩
    | 5, _ => exact ⟨_, rfl⟩
    | 6, _ => exact ⟨_, rfl⟩
    | 7, _ => exact ⟨_, rfl⟩
    | 8, _ => exact ⟨_, rfl⟩
    | 9, _ => exact ⟨_, rfl⟩
    | 10, _ => exact ⟨_, rfl⟩
  obtain ⟨ty, ht⟩ := ht
  exact va_alen hX.1 hX.2.1 hX.2.2.2.2.2.1.1 hP q0 (kn_c x) hq0 ht hw hd (kk ls H locs hl hW hS)
theorem j_iald (hX : Ok X cc own) (hd : decode cc pc = .ok (.iaload, 1)) (hq : pc + 1 = q) (ha : a = sA S x i) (hi : i < sC S x) (hx : kn_a x = true) (hc : kn_c x = 0) (ht : kn_t x 0 = 0) (hw : w = nI j) (hj : j < sN S x i) (hN : sN S x i < 2 ^ 31) (kk : Jg X k n S q lv (.int (sI S x i j) :: st)) : Jg X k n S pc lv (.int w :: .ref a :: st) := by
  obtain ⟨p, l, e, R, s, m, args, below, meth, c, Q, D, E, sz, nL⟩ := X
  subst hq
  subst ha
  subst hw
  intro ls H locs hl hW hS
  obtain ⟨L, f, q0, hR, hP, hD, h1, hq1, hq0⟩ := arr_at hW hi hx
  have hs : sX S x i = .inl (sI S x i) := by unfold sX; simp only [ht]
  rw [hs] at hq0
  refine va_iald hX.1 hX.2.1 hX.2.2.2.2.2.1.1 hP q0 0 hq0 (by rw [hc]; rfl) (vp_in_nI hj hN) hd ?_
  rw [nI_clamp (Nat.lt_trans hj hN)]
  exact kk ls H locs hl hW hS
theorem j_zald (hX : Ok X cc own) (hd : decode cc pc = .ok (.baload, 1)) (hq : pc + 1 = q) (ha : a = sA S x i) (hi : i < sC S x) (hx : kn_a x = true) (hc : kn_c x = 3) (ht : kn_t x 0 = 4) (hw : w = nI j) (hj : j < sN S x i) (hN : sN S x i < 2 ^ 31) (kk : Jg X k n S q lv (.int (sI S x i j) :: st)) : Jg X k n S pc lv (.int w :: .ref a :: st) := by
  obtain ⟨p, l, e, R, s, m, args, below, meth, c, Q, D, E, sz, nL⟩ := X
  subst hq
  subst ha
  subst hw
  intro ls H locs hl hW hS
  obtain ⟨L, f, q0, hR, hP, hD, h1, hq1, hq0⟩ := arr_at hW hi hx
  have hs : sX S x i = .inl (sI S x i) := by unfold sX; simp only [ht]
  rw [hs] at hq0
  refine va_zald hX.1 hX.2.1 hX.2.2.2.2.2.1.1 hP q0 3 hq0 (by rw [hc]; rfl) (vp_in_nI hj hN) hd ?_
  rw [nI_clamp (Nat.lt_trans hj hN)]
  exact kk ls H locs hl hW hS
theorem j_lald (hX : Ok X cc own) (hd : decode cc pc = .ok (.laload, 1)) (hq : pc + 1 = q) (ha : a = sA S x i) (hi : i < sC S x) (hx : kn_a x = true) (hc : kn_c x = 1) (ht : kn_t x 0 = 1) (hw : w = nI j) (hj : j < sN S x i) (hN : sN S x i < 2 ^ 31) (kk : Jg X k n S q lv (.long (sJ S x i j) :: st)) : Jg X k n S pc lv (.int w :: .ref a :: st) := by
  obtain ⟨p, l, e, R, s, m, args, below, meth, c, Q, D, E, sz, nL⟩ := X
  subst hq
  subst ha
  subst hw
  intro ls H locs hl hW hS
  obtain ⟨L, f, q0, hR, hP, hD, h1, hq1, hq0⟩ := arr_at hW hi hx
  have hs : sX S x i = .inr (.inl (sJ S x i)) := by unfold sX; simp only [ht]
  rw [hs] at hq0
  refine va_lald hX.1 hX.2.1 hX.2.2.2.2.2.1.1 hP q0 1 hq0 (by rw [hc]; rfl) (vp_in_nI hj hN) hd ?_
  rw [nI_clamp (Nat.lt_trans hj hN)]
  exact kk ls H locs hl hW hS
theorem j_dald (hX : Ok X cc own) (hd : decode cc pc = .ok (.daload, 1)) (hq : pc + 1 = q) (ha : a = sA S x i) (hi : i < sC S x) (hx : kn_a x = true) (hc : kn_c x = 2) (ht : kn_t x 0 = 2) (hw : w = nI j) (hj : j < sN S x i) (hN : sN S x i < 2 ^ 31) (kk : Jg X k n S q lv (.double (sD S x i j) :: st)) : Jg X k n S pc lv (.int w :: .ref a :: st) := by
  obtain ⟨p, l, e, R, s, m, args, below, meth, c, Q, D, E, sz, nL⟩ := X
  subst hq
  subst ha
  subst hw
  intro ls H locs hl hW hS
  obtain ⟨L, f, q0, hR, hP, hD, h1, hq1, hq0⟩ := arr_at hW hi hx
  have hs : sX S x i = .inr (.inr (.inr (.inl (sD S x i)))) := by unfold sX; simp only [ht]
  rw [hs] at hq0
  refine va_dald hX.1 hX.2.1 hX.2.2.2.2.2.1.1 hP q0 2 hq0 (by rw [hc]; rfl) (vp_in_nI hj hN) hd ?_
  rw [nI_clamp (Nat.lt_trans hj hN)]
  exact kk ls H locs hl hW hS
theorem j_aald {c0 : Nat} {C : String} (hX : Ok X cc own) (hd : decode cc pc = .ok (.aaload, 1)) (hq : pc + 1 = q) (ha : a = sA S x i) (hi : i < sC S x) (hx : kn_a x = true) (hc : kn_c x = c0) (hE : ∀ E : Nat → ClassId, (tyE E)[c0]? = some (E c0, .object C)) (ht : kn_t x 0 = 3) (hw : w = nI j) (hj : j < sN S x i) (hN : sN S x i < 2 ^ 31) (kk : Jg X k n S q lv (va_rf ((sR S x i j).map (sA S (kn_r x j))) :: st)) : Jg X k n S pc lv (.int w :: .ref a :: st) := by
  obtain ⟨p, l, e, R, s, m, args, below, meth, c, Q, D, E, sz, nL⟩ := X
  subst hq
  subst ha
  subst hw
  intro ls H locs hl hW hS
  obtain ⟨L, f, q0, hR, hP, hD, h1, hq1, hq0⟩ := arr_at hW hi hx
  have hs : sX S x i = .inr (.inr (.inr (.inr (fun j => (sR S x i j).map (sA S (kn_r x j)))))) := by unfold sX; simp only [ht]
  rw [hs] at hq0
  refine va_aldq hX.1 hX.2.1 hX.2.2.2.2.2.1.1 hP q0 c0 hq0 (by rw [hc]; exact hE E) (vp_in_nI hj hN) hd ?_
  rw [nI_clamp (Nat.lt_trans hj hN)]
  exact kk ls H locs hl hW hS
theorem j_iast {v : Int32} (hX : Ok X cc own) (hd : decode cc pc = .ok (.iastore, 1)) (hq : pc + 1 = q) (ha : a = sA S x i) (hi : i < sC S x) (hx : kn_a x = true) (hc : kn_c x = 0) (ht : kn_t x 0 = 0) (hw : w = nI j) (hj : j < sN S x i) (hN : sN S x i < 2 ^ 31) (kk : Jg X k n (pI S x i j v) q lv st) : Jg X k n S pc lv (.int v :: .int w :: .ref a :: st) := by
  obtain ⟨p, l, e, R, s, m, args, below, meth, c, Q, D, E, sz, nL⟩ := X
  subst hq
  subst ha
  subst hw
  intro ls H locs hl hW hS
  obtain ⟨L, f, q0, hR, hP, hD, h1, hq1, hq0⟩ := arr_at hW hi hx
  have hs : ∀ S : St, sX S x i = .inl (sI S x i) := fun S => by unfold sX; simp only [ht]
  rw [hs] at hq0
  refine va_iast hX.1 hX.2.1 hX.2.2.2.2.2.1.1 hP hD hS q0 0 hq0 (by rw [hc]; rfl) (vp_in_nI hj hN) hd (fun H1 locs1 hP1 hD1 hS1 => kk ls H1 locs1 hl ⟨L, va_up f (sA S x i) (.inl (E (kn_c x), sN S x i, .inl (upd (sI S x i) j v))), ?_, ?_, ?_⟩ hS1)
  · refine hR.upd hi rfl rfl (fun _ _ h => sE_otherI h) ?_ hR.2.2
    unfold sE
    rw [hx, hs, show sI (pI S x i j v) x i = upd (sI S x i) j v from u3_row]
    rfl
  · rw [nI_clamp (Nat.lt_trans hj hN), va_pl_set hD h1 hq1] at hP1
    exact hP1
  · rw [nI_clamp (Nat.lt_trans hj hN), va_pl_set hD h1 hq1] at hD1
    exact hD1
theorem j_zast {v : Int32} (hX : Ok X cc own) (hd : decode cc pc = .ok (.bastore, 1)) (hq : pc + 1 = q) (ha : a = sA S x i) (hi : i < sC S x) (hx : kn_a x = true) (hc : kn_c x = 3) (ht : kn_t x 0 = 4) (hb : v = 0 ∨ v = 1) (hw : w = nI j) (hj : j < sN S x i) (hN : sN S x i < 2 ^ 31) (kk : Jg X k n (pI S x i j v) q lv st) : Jg X k n S pc lv (.int v :: .int w :: .ref a :: st) := by
  obtain ⟨p, l, e, R, s, m, args, below, meth, c, Q, D, E, sz, nL⟩ := X
  subst hq
  subst ha
  subst hw
  intro ls H locs hl hW hS
  obtain ⟨L, f, q0, hR, hP, hD, h1, hq1, hq0⟩ := arr_at hW hi hx
  have hs : ∀ S : St, sX S x i = .inl (sI S x i) := fun S => by unfold sX; simp only [ht]
  have hnv : vp_nar .boolean v = v := by rcases hb with h | h <;> (rw [h]; rfl)
  rw [hs] at hq0
  refine va_zast hX.1 hX.2.1 hX.2.2.2.2.2.1.1 hP hD hS q0 3 hq0 (by rw [hc]; rfl) (vp_in_nI hj hN) hd (fun H1 locs1 hP1 hD1 hS1 => kk ls H1 locs1 hl ⟨L, va_up f (sA S x i) (.inl (E (kn_c x), sN S x i, .inl (upd (sI S x i) j v))), ?_, ?_, ?_⟩ hS1)
  · refine hR.upd hi rfl rfl (fun _ _ h => sE_otherI h) ?_ hR.2.2
    unfold sE
    rw [hx, hs, show sI (pI S x i j v) x i = upd (sI S x i) j v from u3_row]
    rfl
  · rw [hnv, nI_clamp (Nat.lt_trans hj hN), va_pl_set hD h1 hq1] at hP1
    exact hP1
  · rw [hnv, nI_clamp (Nat.lt_trans hj hN), va_pl_set hD h1 hq1] at hD1
    exact hD1
theorem j_last {v : Int64} (hX : Ok X cc own) (hd : decode cc pc = .ok (.lastore, 1)) (hq : pc + 1 = q) (ha : a = sA S x i) (hi : i < sC S x) (hx : kn_a x = true) (hc : kn_c x = 1) (ht : kn_t x 0 = 1) (hw : w = nI j) (hj : j < sN S x i) (hN : sN S x i < 2 ^ 31) (kk : Jg X k n (pJ S x i j v) q lv st) : Jg X k n S pc lv (.long v :: .int w :: .ref a :: st) := by
  obtain ⟨p, l, e, R, s, m, args, below, meth, c, Q, D, E, sz, nL⟩ := X
  subst hq
  subst ha
  subst hw
  intro ls H locs hl hW hS
  obtain ⟨L, f, q0, hR, hP, hD, h1, hq1, hq0⟩ := arr_at hW hi hx
  have hs : ∀ S : St, sX S x i = .inr (.inl (sJ S x i)) := fun S => by unfold sX; simp only [ht]
  rw [hs] at hq0
  refine va_last hX.1 hX.2.1 hX.2.2.2.2.2.1.1 hP hD hS q0 1 hq0 (by rw [hc]; rfl) (vp_in_nI hj hN) hd (fun H1 locs1 hP1 hD1 hS1 => kk ls H1 locs1 hl ⟨L, va_up f (sA S x i) (.inl (E (kn_c x), sN S x i, .inr (.inl (vp_updL (sJ S x i) j v)))), ?_, ?_, ?_⟩ hS1)
  · refine hR.upd hi rfl rfl (fun _ _ h => sE_otherJ h) ?_ hR.2.2
    unfold sE
    rw [hx, hs, show sJ (pJ S x i j v) x i = vp_updL (sJ S x i) j v from u3_row]
    rfl
  · rw [nI_clamp (Nat.lt_trans hj hN), va_pl_set hD h1 hq1] at hP1
    exact hP1
  · rw [nI_clamp (Nat.lt_trans hj hN), va_pl_set hD h1 hq1] at hD1
    exact hD1
theorem j_dast {v : UInt64} (hX : Ok X cc own) (hd : decode cc pc = .ok (.dastore, 1)) (hq : pc + 1 = q) (ha : a = sA S x i) (hi : i < sC S x) (hx : kn_a x = true) (hc : kn_c x = 2) (ht : kn_t x 0 = 2) (hw : w = nI j) (hj : j < sN S x i) (hN : sN S x i < 2 ^ 31) (kk : Jg X k n (pD S x i j v) q lv st) : Jg X k n S pc lv (.double v :: .int w :: .ref a :: st) := by
  obtain ⟨p, l, e, R, s, m, args, below, meth, c, Q, D, E, sz, nL⟩ := X
  subst hq
  subst ha
  subst hw
  intro ls H locs hl hW hS
  obtain ⟨L, f, q0, hR, hP, hD, h1, hq1, hq0⟩ := arr_at hW hi hx
  have hs : ∀ S : St, sX S x i = .inr (.inr (.inr (.inl (sD S x i)))) := fun S => by unfold sX; simp only [ht]
  rw [hs] at hq0
  refine va_dast hX.1 hX.2.1 hX.2.2.2.2.2.1.1 hP hD hS q0 2 hq0 (by rw [hc]; rfl) (vp_in_nI hj hN) hd (fun H1 locs1 hP1 hD1 hS1 => kk ls H1 locs1 hl ⟨L, va_up f (sA S x i) (.inl (E (kn_c x), sN S x i, .inr (.inr (.inr (.inl (vf_upd (sD S x i) j v)))))), ?_, ?_, ?_⟩ hS1)
  · refine hR.upd hi rfl rfl (fun _ _ h => sE_otherD h) ?_ hR.2.2
    unfold sE
    rw [hx, hs, show sD (pD S x i j v) x i = vf_upd (sD S x i) j v from u3_row]
    rfl
  · rw [nI_clamp (Nat.lt_trans hj hN), va_pl_set hD h1 hq1] at hP1
    exact hP1
  · rw [nI_clamp (Nat.lt_trans hj hN), va_pl_set hD h1 hq1] at hD1
    exact hD1
theorem j_aast {c0 b r y : Nat} {rw0 : vw_C} (hX : Ok X cc own) (hd : decode cc pc = .ok (.aastore, 1)) (hq : pc + 1 = q) (ha : a = sA S x i) (hi : i < sC S x) (hx : kn_a x = true) (hc : kn_c x = c0) (hE : ∀ E : Nat → ClassId, (tyE E)[c0]? = some (E c0, .object rw0.1)) (ht : kn_t x 0 = 3) (hy : ∀ z, kn_r x z = y) (hya : kn_a y = false) (hcl : vwCl[kn_c y]? = some rw0) (hb : b = sA S y r) (hr : r < sC S y) (hw : w = nI j) (hj : j < sN S x i) (hN : sN S x i < 2 ^ 31) (kk : Jg X k n (pR S x i j (some r)) q lv st) : Jg X k n S pc lv (.ref b :: .int w :: .ref a :: st) := by
  obtain ⟨p, l, e, R, s, m, args, below, meth, c, Q, D, E, sz, nL⟩ := X
  subst hq
  subst ha
  subst hw
  subst hb
  intro ls H locs hl hW hS
  obtain ⟨L, f, q0, hR, hP, hD, h1, hq1, hq0⟩ := arr_at hW hi hx
  have hs : ∀ S : St, sX S x i = .inr (.inr (.inr (.inr (fun j => (sR S x i j).map (sA S (kn_r x j)))))) := fun S => by unfold sX; simp only [ht]
  rw [hs] at hq0
  obtain ⟨g1, g2⟩ := hR.1 y r hr
  obtain ⟨qk, hqk⟩ := va_pl_get (X := []) (f := f) g1
  have he : sE E S y r = .inr (kn_c y, (List.range (kn_n y)).map (sV S y r)) := by unfold sE; rw [hya]; rfl
  rw [g2, he] at hqk
  refine va_astq hX.1 hX.2.1 hX.2.2.2.2.2.1.1 hP hD hS q0 c0 qk (kn_c y) (r := rw0) hq0 (by rw [hc]; exact hE E) hqk hcl (vp_in_nI hj hN) hd (fun H1 locs1 hP1 hD1 hS1 => kk ls H1 locs1 hl ⟨L, va_up f (sA S x i) (.inl (E (kn_c x), sN S x i, .inr (.inr (.inr (.inr (va_up (fun j => (sR S x i j).map (sA S (kn_r x j))) j (some (sA S y r)))))))), ?_, ?_, ?_⟩ hS1)
  · refine hR.upd hi rfl rfl (fun _ _ h => sE_otherR h) ?_ (Rp_refs hR (fun r' e => by cases e; rw [hy]; exact hr))
    unfold sE
    rw [hx, hs]
    have e1 : (fun j_1 => (sR (pR S x i j (some r)) x i j_1).map (sA (pR S x i j (some r)) (kn_r x j_1))) = va_up (fun j => (sR S x i j).map (sA S (kn_r x j))) j (some (sA S y r)) := by
      funext z
      show (u3 (sR S) x i j (some r) x i z).map (sA S (kn_r x z)) = _
      rw [u3_row]
      by_cases hz : z = j
      · subst hz
        simp [va_up, hy]
      · simp [va_up, hz]
    rw [e1]
    rfl
  · rw [nI_clamp (Nat.lt_trans hj hN), va_pl_set hD h1 hq1] at hP1
    exact hP1
  · rw [nI_clamp (Nat.lt_trans hj hN), va_pl_set hD h1 hq1] at hD1
    exact hD1
end SA
end
section
theorem ra_uniq {s : State} {a b : ClassId} {ty : FieldType} (h1 : va_RA s a ty) (h2 : va_RA s b ty) : a = b := by
  cases ty with
  | object C =>
    obtain ⟨_, _, _, _, _, e1⟩ := h1
    obtain ⟨_, _, _, _, _, e2⟩ := h2
    exact Option.some.inj (e1.symm.trans e2)
  | _ =>
    have e1 : s.vm.findClass _ = some a := h1
    have e2 : s.vm.findClass _ = some b := h2
    exact Option.some.inj (e1.symm.trans e2)
theorem sC_nO {S : St} {x a z k : Nat} : sC (nO S x a z) k = if k = x then sC S x + 1 else sC S k := by
  show va_up (sC S) x (sC S x + 1) k = _
  unfold va_up
  rfl
/-- a store with one more cell -/
theorem Rp.new {E : Nat → ClassId} {S : St} {L : List Nat} {f : Nat → va_E} {x a z : Nat} {e : va_E} (h : Rp E S L f) (ha : a ∉ L) (he : e = sE E (nO S x a z) x (sC S x)) : Rp E (nO S x a z) (L ++ [a]) (va_up f a e) := by
  subst he
  have old : ∀ k i, i < sC (nO S x a z) k → (k = x ∧ i = sC S x) ∨ (i < sC S k ∧ ¬ (k = x ∧ i = sC S x)) := by
    intro k i hi
    rw [sC_nO] at hi
    by_cases hk : k = x
    · rw [if_pos hk] at hi
      by_cases hi2 : i = sC S x
      · exact Or.inl ⟨hk, hi2⟩
      · exact Or.inr ⟨by rw [hk]; omega, fun q => hi2 q.2⟩
    · rw [if_neg hk] at hi
      exact Or.inr ⟨hi, fun q => hk q.1⟩
  have hA : ∀ k i, i < sC S k → sA (nO S x a z) k i = sA S k i := by
    intro k i hi
    show u2 (sA S) x (sC S x) a k i = _
    exact u2_ne (fun q => by rw [q.1, q.2] at hi; exact Nat.lt_irrefl _ hi)
  have hA0 : sA (nO S x a z) x (sC S x) = a := u2_self
  refine ⟨fun k i hi => ?_, fun k i k' i' hi hi' hq => ?_, fun k i j r hi hr => ?_⟩
  · rcases old k i hi with ⟨rfl, rfl⟩ | ⟨h1, h2⟩
    · rw [hA0]
      exact ⟨List.mem_append_right _ List.mem_cons_self, by rw [va_up_self]⟩
    · obtain ⟨g1, g2⟩ := h.1 k i h1
      rw [hA k i h1]
      refine ⟨List.mem_append_left _ g1, ?_⟩
      rw [va_up_ne _ _ (fun q => ha (by rw [← q]; exact g1)), g2]
      refine (sE_congr ?_ ?_ ?_ ?_ (fun j => ?_)).symm
      · exact u2_ne h2
      · exact u2_ne h2
      · exact u2_ne h2
      · exact u2_ne h2
      · rw [show sR (nO S x a z) k i = sR S k i from u2_ne h2]
        cases hr : sR S k i j with
        | none => rfl
        | some r => exact congrArg some (hA _ _ (h.2.2 k i j r h1 hr))
  · rcases old k i hi with ⟨rfl, rfl⟩ | ⟨h1, h2⟩ <;> rcases old k' i' hi' with ⟨e1, e2⟩ | ⟨h3, h4⟩
    · exact ⟨e1.symm, e2.symm⟩
    · rw [hA0, hA k' i' h3] at hq
      exact absurd (hq ▸ (h.1 k' i' h3).1) ha
    · subst e1
      subst e2
      rw [hA0, hA k i h1] at hq
      exact absurd (hq ▸ (h.1 k i h1).1) ha
    · rw [hA k i h1, hA k' i' h3] at hq
      exact h.2.1 k i k' i' h1 h3 hq
  · have hle : ∀ y, sC S y ≤ sC (nO S x a z) y := by
      intro y
      rw [sC_nO]
      split
      · rename_i hy
        rw [hy]
        omega
      · exact Nat.le_refl _
    rcases old k i hi with ⟨rfl, rfl⟩ | ⟨h1, h2⟩
    · rw [show sR (nO S k a z) k (sC S k) = (fun _ => none) from u2_self] at hr
      cases hr
    · rw [show sR (nO S x a z) k i = sR S k i from u2_ne h2] at hr
      exact Nat.lt_of_lt_of_le (h.2.2 k i j r h1 hr) (hle _)
def dv (t : Nat) : Value := match t with
  | 0 => .int 0
  | 1 => .long 0
  | 2 => .double 0
  | 3 => .null
  | _ => .int 0
theorem sV_new {S : St} {x a z j : Nat} : sV (nO S x a z) x (sC S x) j = dv (kn_t x j) := by
  unfold sV
  rw [show sI (nO S x a z) x (sC S x) = (fun _ => 0) from u2_self, show sJ (nO S x a z) x (sC S x) = (fun _ => 0) from u2_self, show sD (nO S x a z) x (sC S x) = (fun _ => 0) from u2_self, show sR (nO S x a z) x (sC S x) = (fun _ => none) from u2_self]
  unfold dv
  generalize kn_t x j = t
  match t with
  | 0 => rfl
  | 1 => rfl
  | 2 => rfl
  | 3 => rfl
  | _ + 4 => rfl
section SN
variable {X : Cx} {k n : Nat} {S : St} {pc q : Nat} {lv : List (Nat × Value)} {st : List Value} {cc : ByteArray} {own : String} {C : String} {T : u_T} {N x ix : Nat} {ty : Nat → FieldType} {w : Int32}
theorem j_new (hX : Ok X cc own) (hK : CK (kn_c x) C T N ty) (hd : decode cc pc = .ok (.new ix, 3)) (hq : pc + 3 = q) (hcl : Cond.classLink own ix C ∈ BIG) (hins : Cond.instantiable C N ∈ BIG) (hini : Cond.initialized C ∈ BIG) (hx : kn_a x = false) (hN : kn_n x = N) (hdv : ∀ j, j < N → defaultValue (ty j) = dv (kn_t x j)) (hR : k + 1 ≤ (rx X).cells ∧ n + N ≤ (rx X).slots) (kk : ∀ a : Nat, Jg X (k + 1) (n + N) (nO S x a 0) q lv (.ref a :: st)) : Jg X k n S pc lv st := by
  obtain ⟨p, l, e, R, s, m, args, below, meth, c, Q, D, E, sz, nL⟩ := X
  subst hq
  intro ls H locs hl hW hS
  obtain ⟨L, f, hR0, hP, hD⟩ := hW
  refine va_new (fs := (List.range N).map (fun j => dv (kn_t x j))) hX.1 hX.2.1 hX.2.2.2.2.1 hK.2.1 ty hK.2.2.1 hX.2.2.2.1 (hX.2.2.2.2.1 _ hcl) (hX.2.2.2.2.1 _ hins) (hX.2.2.2.2.1 _ hini) hX.2.2.2.2.2.1.1 hP hD hS (fun q h => Nat.le_trans hX.2.2.2.2.2.2.1 h) hK.1 (fun j hj => by rw [hdv j hj]; unfold vp_V; rw [List.getD_eq_getElem?_getD, rng_get hj]; rfl) hR.1 hR.2 hd (fun a H1 hP1 hD1 hS1 => ?_)
  have ha : a ∉ L := va_pl_fresh2 (X := []) hD1
  have e0 : ([] ++ va_pl L f) ++ [(a, (.inr (kn_c x, (List.range N).map (fun j => dv (kn_t x j))) : va_E))] = [] ++ va_pl (L ++ [a]) (va_up f a (.inr (kn_c x, (List.range N).map (fun j => dv (kn_t x j))))) := va_pl_push ha
  rw [e0] at hP1 hD1
  refine kk a ls H1 locs hl ⟨_, _, hR0.new ha ?_, hP1, hD1⟩ hS1
  unfold sE
  rw [hx, hN, show sV (nO S x a 0) x (sC S x) = (fun j => dv (kn_t x j)) from funext fun j => sV_new]
  rfl
theorem j_newa {z c0 : Nat} {atype : ArrayType} {fty : FieldType} {row : sXt} (hX : Ok X cc own) (hd : decode cc pc = .ok (.newarray atype, 2)) (hq : pc + 2 = q) (harr : Cond.arrayClass (newarray.typeOf atype) ∈ BIG) (hty : newarray.typeOf atype = fty) (hx : kn_a x = true) (hc : kn_c x = c0) (hE : ∀ E : Nat → ClassId, (tyE E)[c0]? = some (E c0, fty)) (hrow : ∀ a, sX (nO S x a z) x (sC S x) = row) (hcell : ∀ cA : ClassId, vp_cell cA (z, row) = arrV cA z (fun _ => defaultValue fty)) (hw : w = nI z) (hz : z < 65536) (hbytes : componentBytes fty ≤ 8) (hR : k + 1 ≤ (rx X).cells ∧ n + z ≤ (rx X).slots) (kk : ∀ a : Nat, Jg X (k + 1) (n + z) (nO S x a z) q lv (.ref a :: st)) : Jg X k n S pc lv (.int w :: st) := by
  obtain ⟨p, l, e, R, s, m, args, below, meth, c, Q, D, E, sz, nL⟩ := X
  subst hq
  subst hw
  intro ls H locs hl hW hS
  obtain ⟨L, f, hR0, hP, hD⟩ := hW
  have hz31 : z < 2 ^ 31 := Nat.lt_trans hz (by decide)
  refine va_newa (a0 := (z, row)) hX.1 hX.2.1 (hX.2.2.2.2.1 _ harr) hty hX.2.2.2.2.2.1.1 hP hD hS (fun q h => Nat.le_trans hX.2.2.2.2.2.2.1 h) hcell (nI_pos hz31) (nI_clamp hz31) (by have := Nat.mul_le_mul (Nat.le_of_lt hz) hbytes; omega) hR.1 hR.2 hd (fun a cA H1 hK1 hP1 hD1 hS1 => ?_)
  have hcA : cA = E c0 := by
    have h1 := (hK1.2 (tyE E).length (cA, fty) (by rw [List.getElem?_append_right (Nat.le_refl _)]; simp)).2
    exact ra_uniq h1 (hX.2.2.2.2.2.1.1.2 c0 _ (hE E)).2
  subst hcA
  have ha : a ∉ L := va_pl_fresh2 (X := []) hD1
  have e0 : ([] ++ va_pl L f) ++ [(a, (.inl (E c0, z, row) : va_E))] = [] ++ va_pl (L ++ [a]) (va_up f a (.inl (E c0, z, row))) := va_pl_push ha
  rw [e0] at hP1 hD1
  refine kk a ls H1 locs hl ⟨_, _, hR0.new ha ?_, hP1, hD1⟩ hS1
  unfold sE
  rw [hx, hrow a, hc, show sN (nO S x a z) x (sC S x) = z from u2_self]
  rfl
theorem j_newq {z c0 : Nat} {C : String} (hX : Ok X cc own) (hd : decode cc pc = .ok (.anewarray ix, 3)) (hq : pc + 3 = q) (hcl : Cond.classLink own ix C ∈ BIG) (hAO : ∀ D E U, Kw D E U → va_AO C U) (hx : kn_a x = true) (hc : kn_c x = c0) (hE : ∀ E : Nat → ClassId, (tyE E)[c0]? = some (E c0, .object C)) (ht : kn_t x 0 = 3) (hw : w = nI z) (hz : z < 65536) (hR : k + 1 ≤ (rx X).cells ∧ n + z ≤ (rx X).slots) (kk : ∀ a : Nat, Jg X (k + 1) (n + z) (nO S x a z) q lv (.ref a :: st)) : Jg X k n S pc lv (.int w :: st) := by
  obtain ⟨p, l, e, R, s, m, args, below, meth, c, Q, D, E, sz, nL⟩ := X
  subst hq
  subst hw
  intro ls H locs hl hW hS
  obtain ⟨L, f, hR0, hP, hD⟩ := hW
  have hz31 : z < 2 ^ 31 := Nat.lt_trans hz (by decide)
  refine va_newq hX.1 hX.2.1 hX.2.2.2.1 (hX.2.2.2.2.1 _ hcl) (hAO _ _ _ hX.2.2.2.2.2.1) hX.2.2.2.2.2.1.1 hP hD hS (fun q h => Nat.le_trans hX.2.2.2.2.2.2.1 h) (nI_pos hz31) (nI_clamp hz31) (by omega) hR.1 hR.2 hd (fun a cA H1 hK1 hP1 hD1 hS1 => ?_)
  have hcA : cA = E c0 := by
    have h1 := (hK1.2 (tyE E).length (cA, .object C) (by rw [List.getElem?_append_right (Nat.le_refl _)]; simp)).2
    exact ra_uniq h1 (hX.2.2.2.2.2.1.1.2 c0 _ (hE E)).2
  subst hcA
  have ha : a ∉ L := va_pl_fresh2 (X := []) hD1
  have e0 : ([] ++ va_pl L f) ++ [(a, (.inl (E c0, z, .inr (.inr (.inr (.inr (fun _ => none))))) : va_E))] = [] ++ va_pl (L ++ [a]) (va_up f a (.inl (E c0, z, .inr (.inr (.inr (.inr (fun _ => none))))))) := va_pl_push ha
  rw [e0] at hP1 hD1
  refine kk a ls H1 locs hl ⟨_, _, hR0.new ha ?_, hP1, hD1⟩ hS1
  unfold sE
  rw [hx, hc, show sN (nO S x a z) x (sC S x) = z from u2_self, show sX (nO S x a z) x (sC S x) = .inr (.inr (.inr (.inr (fun _ => none)))) from by unfold sX; simp only [ht]; rw [show sR (nO S x a z) x (sC S x) = (fun _ => none) from u2_self]; rfl]
  rfl
end SN
/-! contracts over the store -/
def QcP (D : va_G) (E : Nat → ClassId) (sz : Nat) (Post : Option Value → St → Prop) : Array Value → State → Outcome → State → Prop := fun _ st oc t => ∃ (v : Option Value) (S' : St), oc = .returned v ∧ Post v S' ∧ Wd D E sz S' t.heap ∧ va_F (fun q => sz ≤ q) st t
def PcP (D : va_G) (E : Nat → ClassId) (sz : Nat) (as : List Value) (S : St) : Array Value → State → Prop := va_Pc as (fun U => Wd D E sz S U.heap ∧ Kw D E U ∧ sz ≤ U.heap.size)
def wM (y : MethodName) (cc : ByteArray) (maxL : Nat) (ret : Option FieldType) : List Cond := Cond.code y cc maxL ret :: BIG
def Ct (l : Launch) (y : MethodName) (cc : ByteArray) (maxL : Nat) (ret : Option FieldType) (rm : Room) (as : List Value) (S : St) (Post : Option Value → St → Prop) : Prop := ∀ (D : va_G) (E : Nat → ClassId) (sz : Nat), Met l y (wM y cc maxL ret) rm (PcP D E sz as S) (QcP D E sz Post) rm.cells rm.slots (fun q => sz ≤ q)
theorem PcP.blind {D : va_G} {E : Nat → ClassId} {sz : Nat} {as : List Value} {S : St} : FrameBlind (PcP D E sz as S) := by
  intro a U g mk h
  obtain ⟨h1, h2, h3, h4⟩ := h
  exact ⟨h1, h2, h3.same rfl, h4⟩
theorem wM_good {y : MethodName} {cc : ByteArray} {maxL : Nat} {ret : Option FieldType} (h : Cond.code y cc maxL ret ∈ BIG) : GoodIn BIG (wM y cc maxL ret) := by
  intro w hw
  rcases List.mem_cons.mp hw with rfl | hw
  · exact big_good _ h
  · exact big_good _ hw
theorem run_call {p : Program} {l : Launch} {e : Env} {R : Room} {s : State} {m : MethodId} {args : Array Value} {below : List Frame} {meth : Method} {c : Code} {H : Heap} {locs : List Loc} {cells slots mc ms : Nat} {Q : State → Prop} {pc : Nat} {ls : Array Slot} {rest st0 : List Value} {a : Array Value} {H0 : Heap} {D : va_G} {E : Nat → ClassId} {sz : Nat} {Post : Option Value → St → Prop}
    (hr : va_Run p l e R s m args below meth c H locs cells slots mc ms (F0 m pc ls st0) rest (QcP D E sz Post a) (fun q => sz ≤ q)) (hS : va_S (fun q => sz ≤ q) H0 H locs)
    (kk : ∀ (v : Option Value) (S' : St) (H1 : Heap) (locs1 : List Loc), Post v S' → Wd D E sz S' H1 → va_S (fun q => sz ≤ q) H0 H1 locs1 → W p l e R s m args below meth c H1 locs1 (cells + mc) (slots + ms) Q (F0 m (pc + 3) ls (v.toList ++ rest))) : W p l e R s m args below meth c H locs cells slots Q (F0 m pc ls st0) := by
  intro T hT X
  obtain ⟨v, st₀, t, T', L, h0, X', hL, e1, e2, ⟨v', S', hv, hp, hw, hz, hk⟩, st⟩ := hr T hT X
  cases hv
  rw [h0] at hz hk
  obtain ⟨t2, a1, b1⟩ := kk v S' T'.heap (locs ++ L) hp (by rw [e1]; exact hw)
    ⟨Nat.le_trans hS.1 (by rw [e1]; exact hz), fun q h1 h2 => by rw [e1, hk q (Nat.lt_of_lt_of_le h1 hS.1) h2]; exact hS.2.1 q h1 h2, fun q hq => by
      rcases List.mem_append.mp hq with h | h
      · exact hS.2.2 q h
      · exact hL q h⟩ T' rfl X'
  exact ⟨t2, st t2 a1, b1⟩
/-- what the tables say of a method of objects -/
def MV (y : MethodName) (cc : ByteArray) (maxL : Nat) (ret : Option FieldType) (np : Nat) : Prop := Cond.code y cc maxL ret ∈ BIG ∧ Cond.instanceMethod y ∈ BIG ∧ Cond.selects y.cls y y ∈ BIG ∧ Cond.initialized y.cls ∈ BIG ∧ (y.cls ≠ "java/lang/invoke/MethodHandle" ∧ y.cls ≠ "java/lang/invoke/VarHandle" ∧ (parseMethodDescriptor y.desc).map (fun d => d.parameters.length) = some np)
def MS (y : MethodName) (cc : ByteArray) (maxL : Nat) (ret : Option FieldType) (np : Nat) : Prop := Cond.code y cc maxL ret ∈ BIG ∧ Cond.static y ∈ BIG ∧ Cond.initialized y.cls ∈ BIG ∧ (y.cls ≠ "java/lang/invoke/MethodHandle" ∧ y.cls ≠ "java/lang/invoke/VarHandle" ∧ (parseMethodDescriptor y.desc).map (fun d => d.parameters.length) = some np)
def MI (y : MethodName) (cc : ByteArray) (maxL : Nat) (np : Nat) : Prop := Cond.code y cc maxL none ∈ BIG ∧ Cond.instanceMethod y ∈ BIG ∧ Cond.initialized y.cls ∈ BIG ∧ y.name = "<init>" ∧ (y.cls ≠ "java/lang/invoke/MethodHandle" ∧ y.cls ≠ "java/lang/invoke/VarHandle" ∧ (parseMethodDescriptor y.desc).map (fun d => d.parameters.length) = some np)
def roomy (X : Cx) (k n : Nat) (rm : Room) (maxL : Nat) (rest : List Value) : Prop := (rm.frames + 1 ≤ (rx X).frames ∧ 8 + (maxL + 11) + rm.locals ≤ (rx X).locals) ∧ (k + rm.cells ≤ (rx X).cells ∧ n + rm.slots ≤ (rx X).slots) ∧ (rest.map fun v => v.category).sum ≤ 8
section SCall
variable {X : Cx} {k n : Nat} {S : St} {pc q : Nat} {lv : List (Nat × Value)} {rest : List Value} {cc cc' : ByteArray} {own : String} {T : u_T} {N x i ix maxL np b : Nat} {ty : Nat → FieldType} {y : MethodName} {ret : Option FieldType} {rm : Room} {As st : List Value} {Post : Option Value → St → Prop}
theorem j_callV (hX : Ok X cc own) (hC : Ct (lx X) y cc' maxL ret rm (.ref b :: As) S Post) (hM : MV y cc' maxL ret np) (hl : Cond.methodLink own ix y ∈ BIG) (hK : CK (kn_c x) y.cls T N ty) (hb : b = sA S x i) (hi : i < sC S x) (hx : kn_a x = false) (hn : As.length = np) (hst : st = As.reverse ++ .ref b :: rest) (hR : roomy X k n rm maxL rest) (hd : decode cc pc = .ok (.invokevirtual ix, 3)) (hq : pc + 3 = q) (kk : ∀ v S', Post v S' → Jg X (k + rm.cells) (n + rm.slots) S' q lv (v.toList ++ rest)) : Jg X k n S pc lv st := by
  obtain ⟨p, l, e, R, s, m, args, below, meth, c, Q, D, E, sz, nL⟩ := X
  subst hq
  subst hst
  intro ls H locs hl0 hW hS
  obtain ⟨hx1, hb1, hml, hown, hts, hKw, hsz, hlk⟩ := hX
  have hcw : CallW R s args own y.cls ix y cc' maxL ret (wM y cc' maxL ret) rm rm.cells rm.slots np := ⟨callB_of np hts (wM_good hM.1) rfl rfl rfl (hts _ hM.2.2.2.1) (hts _ hl) hM.2.2.2.2 hR.1, hts _ hM.2.1, hts _ hM.2.2.1⟩
  have hrecv : ∃ cellB : Cell, H[b]? = some cellB ∧ cellB.vm.isStatics = false ∧ s.vm.findClass y.cls = some cellB.cls := by
    obtain ⟨L, f, hR0, hP, hD⟩ := id hW
    obtain ⟨h1, h2⟩ := hR0.1 x i hi
    obtain ⟨q0, hq0⟩ := va_pl_get (X := []) (f := f) h1
    have he : sE E S x i = .inr (kn_c x, (List.range (kn_n x)).map (sV S x i)) := by unfold sE; rw [hx]; rfl
    rw [h2, he] at hq0
    rw [hb]
    exact va_recv hKw.1 hP hK.1 hq0
  refine run_call (va_runV (As := As) (rest := rest) ⟨hx1, hb1, hml, hown, hts⟩ (hC D E sz) hcw ⟨PcP.blind, hrecv, fun U hU hWm => ⟨rfl, by rw [hU]; exact hW, hKw.warm hWm, by rw [hU]; exact Nat.le_trans hsz hS.1⟩⟩ rfl hn hl0.1 rfl (lv_room hR.2.2) hd hR.2.1) hS (fun v S' H1 locs1 hp hw hs => kk v S' hp ls H1 locs1 hl0 hw hs)
theorem j_callS (hX : Ok X cc own) (hC : Ct (lx X) y cc' maxL ret rm As S Post) (hM : MS y cc' maxL ret np) (hl : Cond.methodLink own ix y ∈ BIG) (hn : As.length = np) (hst : st = As.reverse ++ rest) (hR : roomy X k n rm maxL rest) (hd : decode cc pc = .ok (.invokestatic ix, 3)) (hq : pc + 3 = q) (kk : ∀ v S', Post v S' → Jg X (k + rm.cells) (n + rm.slots) S' q lv (v.toList ++ rest)) : Jg X k n S pc lv st := by
  obtain ⟨p, l, e, R, s, m, args, below, meth, c, Q, D, E, sz, nL⟩ := X
  subst hq
  subst hst
  intro ls H locs hl0 hW hS
  obtain ⟨hx1, hb1, hml, hown, hts, hKw, hsz, hlk⟩ := hX
  have hcw : CallB R s args own ix y cc' maxL ret (wM y cc' maxL ret) rm rm.cells rm.slots np ∧ (Cond.static y).before args s = true := ⟨callB_of np hts (wM_good hM.1) rfl rfl rfl (hts _ hM.2.2.1) (hts _ hl) hM.2.2.2 hR.1, hts _ hM.2.1⟩
  refine run_call (va_runS (As := As) (rest := rest) ⟨hx1, hb1, hml, hown, hts⟩ (hC D E sz) hcw ⟨PcP.blind, fun U hU hWm => ⟨rfl, by rw [hU]; exact hW, hKw.warm hWm, by rw [hU]; exact Nat.le_trans hsz hS.1⟩⟩ rfl hn hl0.1 rfl (lv_room hR.2.2) hd hR.2.1) hS (fun v S' H1 locs1 hp hw hs => kk v S' hp ls H1 locs1 hl0 hw hs)
theorem j_callI (hX : Ok X cc own) (hC : Ct (lx X) y cc' maxL none rm (.ref b :: As) S Post) (hM : MI y cc' maxL np) (hl : Cond.methodLink own ix y ∈ BIG) (hn : As.length = np) (hst : st = As.reverse ++ .ref b :: rest) (hR : roomy X k n rm maxL rest) (hd : decode cc pc = .ok (.invokespecial ix, 3)) (hq : pc + 3 = q) (kk : ∀ v S', Post v S' → Jg X (k + rm.cells) (n + rm.slots) S' q lv (v.toList ++ rest)) : Jg X k n S pc lv st := by
  obtain ⟨p, l, e, R, s, m, args, below, meth, c, Q, D, E, sz, nL⟩ := X
  subst hq
  subst hst
  intro ls H locs hl0 hW hS
  obtain ⟨hx1, hb1, hml, hown, hts, hKw, hsz, hlk⟩ := hX
  have hcw : CallB R s args own ix y cc' maxL none (wM y cc' maxL none) rm rm.cells rm.slots np ∧ y.name = "<init>" ∧ (Cond.instanceMethod y).before args s = true := ⟨callB_of np hts (wM_good hM.1) rfl rfl rfl (hts _ hM.2.2.1) (hts _ hl) hM.2.2.2.2 hR.1, hM.2.2.2.1, hts _ hM.2.1⟩
  refine run_call (va_runI (As := As) (rest := rest) ⟨hx1, hb1, hml, hown, hts⟩ (hC D E sz) hcw ⟨PcP.blind, fun U hU hWm => ⟨rfl, by rw [hU]; exact hW, hKw.warm hWm, by rw [hU]; exact Nat.le_trans hsz hS.1⟩⟩ rfl hn hl0.1 rfl (lv_room hR.2.2) hd hR.2.1) hS (fun v S' H1 locs1 hp hw hs => kk v S' hp ls H1 locs1 hl0 hw hs)
/-- a nest mate's private constructor -/
theorem j_callN {host : String} (hX : Ok X cc own) (hC : Ct (lx X) y cc' maxL none rm (.ref b :: As) S Post) (hM : MI y cc' maxL np) (hl : ∀ D E U, Kw D E U → va_Nw (.methodLinkNest own ix y host) U) (hn : As.length = np) (hst : st = As.reverse ++ .ref b :: rest) (hR : roomy X k n rm maxL rest) (hd : decode cc pc = .ok (.invokespecial ix, 3)) (hq : pc + 3 = q) (kk : ∀ v S', Post v S' → Jg X (k + rm.cells) (n + rm.slots) S' q lv (v.toList ++ rest)) : Jg X k n S pc lv st := by
  obtain ⟨p, l, e, R, s, m, args, below, meth, c, Q, D, E, sz, nL⟩ := X
  subst hq
  subst hst
  intro ls H locs hl0 hW hS
  obtain ⟨hx1, hb1, hml, hown, hts, hKw, hsz, hlk⟩ := hX
  have hcw : va_CN R s args own ix y host cc' maxL none (wM y cc' maxL none) rm rm.cells rm.slots np ∧ y.name = "<init>" ∧ (Cond.instanceMethod y).before args s = true := ⟨va_cnB np hts (wM_good hM.1) rfl rfl rfl (hl _ _ _ hKw) (hts _ hM.2.2.1) hM.2.2.2.2 hR.1, hM.2.2.2.1, hts _ hM.2.1⟩
  refine run_call (va_runIN (As := As) (rest := rest) ⟨hx1, hb1, hml, hown, hts⟩ (hC D E sz) hcw ⟨PcP.blind, fun U hU hWm => ⟨rfl, by rw [hU]; exact hW, hKw.warm hWm, by rw [hU]; exact Nat.le_trans hsz hS.1⟩⟩ rfl hn hl0.1 rfl (lv_room hR.2.2) hd hR.2.1) hS (fun v S' H1 locs1 hp hw hs => kk v S' hp ls H1 locs1 hl0 hw hs)
/-- Object's own constructor -/
theorem j_obj {a : Nat} (hX : Ok X cc own) (hl : Cond.methodLink own ix Lib.objectInit ∈ BIG) (hi : Cond.instanceMethod Lib.objectInit ∈ BIG) (hc : Cond.code Lib.objectInit ⟨#[0xb1]⟩ 1 none ∈ BIG) (hd : decode cc pc = .ok (.invokespecial ix, 3)) (hq : pc + 3 = q) (hR : 1 ≤ (rx X).frames ∧ (rest.map fun v => v.category).sum + 12 ≤ (rx X).locals) (kk : Jg X k n S q lv rest) : Jg X k n S pc lv (.ref a :: rest) := by
  obtain ⟨p, l, e, R, s, m, args, below, meth, c, Q, D, E, sz, nL⟩ := X
  subst hq
  intro ls H locs hl0 hW hS
  obtain ⟨hx1, hb1, hml, hown, hts, hKw, hsz, hlk⟩ := hX
  exact W.objInit hx1 hb1 hown (hts _ hl) (hts _ hi) (hts _ hc) rfl (by rw [hml]; exact hl0.1) rfl hd hR.1 (by show 2 * 0 + _ + 12 ≤ _; have := hR.2; show 2 * 0 + (rest.map fun v => v.category).sum + 12 ≤ R.locals; have h9 : (rest.map fun v => v.category).sum + 12 ≤ R.locals := hR.2; omega) (kk ls H locs hl0 hW hS)
end SCall
/-- a method's own surroundings, and its end -/
def OkM (X : Cx) (cc : ByteArray) (own : String) (l : Launch) (rm : Room) (maxL : Nat) (ret : Option FieldType) (nm : String) (Post : Option Value → St → Prop) : Prop := Ok X cc own ∧ match X with
  | (_, l', _, R, s, _, args, below, meth, _, Q, D, E, sz, nL) => l' = l ∧ R = rm ∧ nL = maxL ∧ meth.sig.returnType = ret ∧ meth.name = nm ∧ Q = MQ below (QcP D E sz Post) args s rm.cells rm.slots (fun q => sz ≤ q)
theorem OkM.l {X : Cx} {cc : ByteArray} {own : String} {l : Launch} {rm : Room} {maxL : Nat} {ret : Option FieldType} {nm : String} {Post : Option Value → St → Prop} (h : OkM X cc own l rm maxL ret nm Post) : lx X = l := by
  obtain ⟨p, l', e, R, s, m, args, below, meth, c, Q, D, E, sz, nL⟩ := X
  exact h.2.1
theorem OkM.R {X : Cx} {cc : ByteArray} {own : String} {l : Launch} {rm : Room} {maxL : Nat} {ret : Option FieldType} {nm : String} {Post : Option Value → St → Prop} (h : OkM X cc own l rm maxL ret nm Post) : rx X = rm := by
  obtain ⟨p, l', e, R, s, m, args, below, meth, c, Q, D, E, sz, nL⟩ := X
  exact h.2.2.1
theorem OkM.nL {X : Cx} {cc : ByteArray} {own : String} {l : Launch} {rm : Room} {maxL : Nat} {ret : Option FieldType} {nm : String} {Post : Option Value → St → Prop} (h : OkM X cc own l rm maxL ret nm Post) : nLx X = maxL := by
  obtain ⟨p, l', e, R, s, m, args, below, meth, c, Q, D, E, sz, nL⟩ := X
  exact h.2.2.2.1
theorem OkM.nm {X : Cx} {cc : ByteArray} {own : String} {l : Launch} {rm : Room} {maxL : Nat} {ret : Option FieldType} {Post : Option Value → St → Prop} (h : OkM X cc own l rm maxL ret "<init>" Post) : inX X := by
  obtain ⟨p, l', e, R, s, m, args, below, meth, c, Q, D, E, sz, nL⟩ := X
  exact h.2.2.2.2.2.1
theorem Ct.of {l : Launch} {y : MethodName} {cc : ByteArray} {maxL : Nat} {ret : Option FieldType} {rm : Room} {as : List Value} {S : St} {Post : Option Value → St → Prop} (hy : plainName y.cls = true) (hlen : (lg_sl as).length ≤ maxL) (body : ∀ X : Cx, OkM X cc y.cls l rm maxL ret y.name Post → Jg X 0 0 S 0 (lv_args 0 as) []) : Ct l y cc maxL ret rm as S Post := by
  intro D E sz
  refine Met.ofW (cc := cc) (maxL := maxL) (ret := ret) hy rfl ?_
  intro p e s m args below meth c s₁ B hml hv
  obtain ⟨rfl, hW, hKw, hsz⟩ := hv
  have hts := atoms_spec (ws := wM y cc maxL ret) B.pre
  have h := body (p, l, e, (headSpec (wM y cc maxL ret) rm).room, s, m, as.toArray, below, meth, c, MQ below (QcP D E sz Post) as.toArray s rm.cells rm.slots (fun q => sz ≤ q), D, E, sz, maxL) ⟨⟨B.exec, B.bytes, hml, findClass_of_methodNamed B.named, fun w hw => hts w (List.mem_cons_of_mem _ hw), hKw, hsz, B.notSynchronized⟩, rfl, rfl, rfl, B.returns, (name_of_methodNamed B.named B.method).1, rfl⟩
  rw [lg_entry_eq]
  exact h _ s.heap [] (lv_entry as hlen) hW va_S.rf
section SRet
variable {X : Cx} {k n : Nat} {S : St} {pc : Nat} {lv : List (Nat × Value)} {cc : ByteArray} {own nm : String} {l : Launch} {rm : Room} {maxL : Nat} {Post : Option Value → St → Prop}
theorem j_iret {v : Int32} (hX : OkM X cc own l rm maxL (some .int) nm Post) (hd : decode cc pc = .ok (.ireturn, 1)) (h1 : k ≤ rm.cells) (h2 : n ≤ rm.slots) (hp : Post (some (.int v)) S) : Jg X k n S pc lv [.int v] := by
  obtain ⟨p, l', e, R, s, m, args, below, meth, c, Q, D, E, sz, nL⟩ := X
  obtain ⟨⟨hx1, hb1, hml, hown, hts, hKw, hsz, hlk⟩, rfl, rfl, rfl, hr, hnm, rfl⟩ := hX
  intro ls H locs hl hW hS
  exact W.widen h1 h2 (W.iret hx1 hb1 hr (fun t ht hWm => ⟨_, S, rfl, hp, by rw [ht]; exact hW, hS.F ht⟩) hS.2.2 hd hlk)
theorem j_zret {v : Int32} (hX : OkM X cc own l rm maxL (some .boolean) nm Post) (hd : decode cc pc = .ok (.ireturn, 1)) (h1 : k ≤ rm.cells) (h2 : n ≤ rm.slots) (hb : v = 0 ∨ v = 1) (hp : Post (some (.int v)) S) : Jg X k n S pc lv [.int v] := by
  obtain ⟨p, l', e, R, s, m, args, below, meth, c, Q, D, E, sz, nL⟩ := X
  obtain ⟨⟨hx1, hb1, hml, hown, hts, hKw, hsz, hlk⟩, rfl, rfl, rfl, hr, hnm, rfl⟩ := hX
  intro ls H locs hl hW hS
  exact W.widen h1 h2 (W.zret hx1 hb1 hr (by rcases hb with h | h <;> (rw [h]; rfl)) (fun t ht hWm => ⟨_, S, rfl, hp, by rw [ht]; exact hW, hS.F ht⟩) hS.2.2 hd hlk)
theorem j_lret {v : Int64} (hX : OkM X cc own l rm maxL (some .long) nm Post) (hd : decode cc pc = .ok (.lreturn, 1)) (h1 : k ≤ rm.cells) (h2 : n ≤ rm.slots) (hp : Post (some (.long v)) S) : Jg X k n S pc lv [.long v] := by
  obtain ⟨p, l', e, R, s, m, args, below, meth, c, Q, D, E, sz, nL⟩ := X
  obtain ⟨⟨hx1, hb1, hml, hown, hts, hKw, hsz, hlk⟩, rfl, rfl, rfl, hr, hnm, rfl⟩ := hX
  intro ls H locs hl hW hS
  exact W.widen h1 h2 (W.lret hx1 hb1 hr (fun t ht hWm => ⟨_, S, rfl, hp, by rw [ht]; exact hW, hS.F ht⟩) hS.2.2 hd hlk)
theorem j_dret {v : UInt64} (hX : OkM X cc own l rm maxL (some .double) nm Post) (hd : decode cc pc = .ok (.dreturn, 1)) (h1 : k ≤ rm.cells) (h2 : n ≤ rm.slots) (hp : Post (some (.double v)) S) : Jg X k n S pc lv [.double v] := by
  obtain ⟨p, l', e, R, s, m, args, below, meth, c, Q, D, E, sz, nL⟩ := X
  obtain ⟨⟨hx1, hb1, hml, hown, hts, hKw, hsz, hlk⟩, rfl, rfl, rfl, hr, hnm, rfl⟩ := hX
  intro ls H locs hl hW hS
  exact W.widen h1 h2 (W.dret hx1 hb1 hr (fun t ht hWm => ⟨_, S, rfl, hp, by rw [ht]; exact hW, hS.F ht⟩) hS.2.2 hd hlk)
theorem j_aret {v : Value} {C : String} (hX : OkM X cc own l rm maxL (some (.object C)) nm Post) (hd : decode cc pc = .ok (.areturn, 1)) (h1 : k ≤ rm.cells) (h2 : n ≤ rm.slots) (hv : v = .null ∨ ∃ a, v = .ref a) (hp : Post (some v) S) : Jg X k n S pc lv [v] := by
  obtain ⟨p, l', e, R, s, m, args, below, meth, c, Q, D, E, sz, nL⟩ := X
  obtain ⟨⟨hx1, hb1, hml, hown, hts, hKw, hsz, hlk⟩, rfl, rfl, rfl, hr, hnm, rfl⟩ := hX
  intro ls H locs hl hW hS
  exact W.widen h1 h2 (W.aret hx1 hb1 hr (Or.inl ⟨_, rfl⟩) hv (fun t ht hWm => ⟨_, S, rfl, hp, by rw [ht]; exact hW, hS.F ht⟩) hS.2.2 hd hlk)
theorem j_vret (hX : OkM X cc own l rm maxL none nm Post) (hd : decode cc pc = .ok (.return_, 1)) (h1 : k ≤ rm.cells) (h2 : n ≤ rm.slots) (hp : Post none S) : Jg X k n S pc lv [] := by
  obtain ⟨p, l', e, R, s, m, args, below, meth, c, Q, D, E, sz, nL⟩ := X
  obtain ⟨⟨hx1, hb1, hml, hown, hts, hKw, hsz, hlk⟩, rfl, rfl, rfl, hr, hnm, rfl⟩ := hX
  intro ls H locs hl hW hS
  exact W.widen h1 h2 (W.vret hx1 hb1 hr (fun t ht hWm => ⟨_, S, rfl, hp, by rw [ht]; exact hW, hS.F ht⟩) hS.2.2 hd hlk)
end SRet
end
section
set_option maxRecDepth 100000 in
theorem CK_0 : CK 0 RX0 TX0 10 tyX0 := ⟨rfl, by decide +kernel, tyX0_ok, nmX0⟩
theorem dv_0 : ∀ j, j < 10 → defaultValue (tyX0 j) = dv (kn_t 0 j) := by decide +kernel
set_option maxRecDepth 100000 in
theorem CK_1 : CK 1 RX1 TX1 3 tyX1 := ⟨rfl, by decide +kernel, tyX1_ok, nmX1⟩
theorem dv_1 : ∀ j, j < 3 → defaultValue (tyX1 j) = dv (kn_t 1 j) := by decide +kernel
set_option maxRecDepth 100000 in
theorem CK_2 : CK 2 RX2 TX2 3 tyX2 := ⟨rfl, by decide +kernel, tyX2_ok, nmX2⟩
theorem dv_2 : ∀ j, j < 3 → defaultValue (tyX2 j) = dv (kn_t 2 j) := by decide +kernel
set_option maxRecDepth 100000 in
theorem CK_3 : CK 3 RX3 TX3 2 tyX3 := ⟨rfl, by decide +kernel, tyX3_ok, nmX3⟩
theorem dv_3 : ∀ j, j < 2 → defaultValue (tyX3 j) = dv (kn_t 3 j) := by decide +kernel
set_option maxRecDepth 100000 in
theorem CK_4 : CK 4 RX4 TX4 4 tyX4 := ⟨rfl, by decide +kernel, tyX4_ok, nmX4⟩
theorem dv_4 : ∀ j, j < 4 → defaultValue (tyX4 j) = dv (kn_t 4 j) := by decide +kernel
set_option maxRecDepth 100000 in
theorem CK_5 : CK 5 RX5 TX5 5 tyX5 := ⟨rfl, by decide +kernel, tyX5_ok, nmX5⟩
theorem dv_5 : ∀ j, j < 5 → defaultValue (tyX5 j) = dv (kn_t 5 j) := by decide +kernel
set_option maxRecDepth 100000 in
theorem CK_6 : CK 6 RX6 TX6 8 tyX6 := ⟨rfl, by decide +kernel, tyX6_ok, nmX6⟩
theorem dv_6 : ∀ j, j < 8 → defaultValue (tyX6 j) = dv (kn_t 6 j) := by decide +kernel
set_option maxRecDepth 100000 in
theorem CK_7 : CK 7 RX7 TX7 3 tyX7 := ⟨rfl, by decide +kernel, tyX7_ok, nmX7⟩
theorem dv_7 : ∀ j, j < 3 → defaultValue (tyX7 j) = dv (kn_t 7 j) := by decide +kernel
set_option maxRecDepth 100000 in
theorem CK_8 : CK 8 RX8 TX8 4 tyX8 := ⟨rfl, by decide +kernel, tyX8_ok, nmX8⟩
theorem dv_8 : ∀ j, j < 4 → defaultValue (tyX8 j) = dv (kn_t 8 j) := by decide +kernel
set_option maxRecDepth 100000 in
theorem CK_9 : CK 9 RX9 TX9 17 tyX9 := ⟨rfl, by decide +kernel, tyX9_ok, nmX9⟩
theorem dv_9 : ∀ j, j < 17 → defaultValue (tyX9 j) = dv (kn_t 9 j) := by decide +kernel
set_option maxRecDepth 100000 in
theorem CK_10 : CK 10 RX10 TX10 45 tyX10 := ⟨rfl, by decide +kernel, tyX10_ok, nmX10⟩
theorem dv_10 : ∀ j, j < 45 → defaultValue (tyX10 j) = dv (kn_t 10 j) := by decide +kernel
theorem M_0_init : MI yX0_init cX0_init 6 3 := ⟨mw_140, mw_139, mw_5, rfl, by decide +kernel⟩
theorem M_0_placeOf : MV yX0_placeOf cX0_placeOf 3 (some .int) 1 := ⟨mw_213, mw_211, mw_212, mw_5, by decide +kernel⟩
theorem M_0_movesAt : MV yX0_movesAt cX0_movesAt 2 (some .boolean) 1 := ⟨mw_378, mw_376, mw_377, mw_5, by decide +kernel⟩
theorem M_0_refusesAt : MV yX0_refusesAt cX0_refusesAt 2 (some .boolean) 1 := ⟨mw_390, mw_388, mw_389, mw_5, by decide +kernel⟩
theorem M_1_init : MI yX1_init cX1_init 4 2 := ⟨mw_239, mw_238, mw_8, rfl, by decide +kernel⟩
theorem M_2_init : MI yX2_init cX2_init 5 3 := ⟨mw_216, mw_215, mw_7, rfl, by decide +kernel⟩
theorem M_3_init : MI yX3_init cX3_init 2 1 := ⟨mw_37, mw_36, mw_2, rfl, by decide +kernel⟩
theorem M_3_add : MV yX3_add cX3_add 5 (none : Option Jvm.ClassFile.FieldType) 4 := ⟨mw_394, mw_392, mw_393, mw_2, by decide +kernel⟩
theorem M_3_part : MV yX3_part cX3_part 4 (some .int) 2 := ⟨mw_454, mw_452, mw_453, mw_2, by decide +kernel⟩
theorem M_4_init : MI yX4_init cX4_init 1 0 := ⟨mw_147, mw_146, mw_6, rfl, by decide +kernel⟩
theorem M_4_add : MV yX4_add cX4_add 3 (none : Option Jvm.ClassFile.FieldType) 1 := ⟨mw_440, mw_438, mw_439, mw_6, by decide +kernel⟩
theorem M_5_init : MI yX5_init cX5_init 6 3 := ⟨mw_275, mw_274, mw_9, rfl, by decide +kernel⟩
theorem M_5_take : MV yX5_take cX5_take 2 (none : Option Jvm.ClassFile.FieldType) 1 := ⟨mw_431, mw_429, mw_430, mw_9, by decide +kernel⟩
theorem M_6_init : MI yX6_init cX6_init 7 5 := ⟨mw_327, mw_326, mw_11, rfl, by decide +kernel⟩
theorem M_7_init : MI yX7_init cX7_init 6 3 := ⟨mw_302, mw_301, mw_10, rfl, by decide +kernel⟩
theorem M_8_init : MI yX8_init cX8_init 1 0 := ⟨mw_52, mw_51, mw_3, rfl, by decide +kernel⟩
theorem M_8_atRest : MV yX8_atRest cX8_atRest 1 (some .long) 0 := ⟨mw_366, mw_364, mw_365, mw_3, by decide +kernel⟩
theorem M_9_init : MI yX9_init cX9_init 3 1 := ⟨mw_17, mw_16, mw_1, rfl, by decide +kernel⟩
theorem M_9_belt : MV yX9_belt cX9_belt 5 (some .int) 2 := ⟨mw_127, mw_125, mw_126, mw_1, by decide +kernel⟩
theorem M_9_head : MV yX9_head cX9_head 8 (some .int) 3 := ⟨mw_204, mw_202, mw_203, mw_1, by decide +kernel⟩
theorem M_9_bunker : MV yX9_bunker cX9_bunker 4 (some .int) 1 := ⟨mw_234, mw_232, mw_233, mw_1, by decide +kernel⟩
theorem M_9_joinTo : MV yX9_joinTo cX9_joinTo 6 (some .boolean) 2 := ⟨mw_256, mw_254, mw_255, mw_1, by decide +kernel⟩
theorem M_9_rule : MV yX9_rule cX9_rule 6 (some .boolean) 3 := ⟨mw_264, mw_262, mw_263, mw_1, by decide +kernel⟩
theorem M_9_picker : MV yX9_picker cX9_picker 8 (some .int) 3 := ⟨mw_268, mw_266, mw_267, mw_1, by decide +kernel⟩
theorem M_9_robot : MV yX9_robot cX9_robot 8 (some .int) 3 := ⟨mw_298, mw_296, mw_297, mw_1, by decide +kernel⟩
theorem M_9_feed : MV yX9_feed cX9_feed 7 (some .boolean) 4 := ⟨mw_320, mw_318, mw_319, mw_1, by decide +kernel⟩
theorem M_9_run : MV yX9_run cX9_run 3 (some .int) 1 := ⟨mw_362, mw_360, mw_361, mw_1, by decide +kernel⟩
theorem M_9_event : MV yX9_event cX9_event 3 (some .int) 2 := ⟨mw_450, mw_448, mw_449, mw_1, by decide +kernel⟩
theorem M_9_out : MV yX9_out cX9_out 4 (some .long) 2 := ⟨mw_458, mw_456, mw_457, mw_1, by decide +kernel⟩
theorem M_9_inside : MV yX9_inside cX9_inside 1 (some .long) 0 := ⟨mw_463, mw_461, mw_462, mw_1, by decide +kernel⟩
theorem M_9_jam : MV yX9_jam cX9_jam 3 (some .int) 2 := ⟨mw_471, mw_469, mw_470, mw_1, by decide +kernel⟩
theorem M_9_lost : MV yX9_lost cX9_lost 2 (some .long) 1 := ⟨mw_475, mw_473, mw_474, mw_1, by decide +kernel⟩
theorem M_9_interval : MV yX9_interval cX9_interval 6 (some .double) 3 := ⟨mw_479, mw_477, mw_478, mw_1, by decide +kernel⟩
theorem M_9_same : MV yX9_same cX9_same 3 (some .boolean) 0 := ⟨mw_484, mw_482, mw_483, mw_1, by decide +kernel⟩
theorem M_9_pieceKind : MV yX9_pieceKind cX9_pieceKind 3 (some .int) 1 := ⟨mw_488, mw_486, mw_487, mw_1, by decide +kernel⟩
theorem M_9_isClosed : MV yX9_isClosed cX9_isClosed 1 (some .boolean) 0 := ⟨mw_131, mw_130, mp_0, mw_1, by decide +kernel⟩
theorem M_9_within : MS yX9_within cX9_within 6 (some .boolean) 3 := ⟨mw_135, mw_134, mw_1, by decide +kernel⟩
theorem M_9_isKind : MS yX9_isKind cX9_isKind 1 (some .boolean) 1 := ⟨mw_323, mw_322, mw_1, by decide +kernel⟩
theorem M_9_beltNumbered : MV yX9_beltNumbered cX9_beltNumbered 2 (some (.object "SortLineEvents$Belt")) 1 := ⟨mw_208, mw_207, mp_1, mw_1, by decide +kernel⟩
theorem M_9_bunkerJoinedBy : MV yX9_bunkerJoinedBy cX9_bunkerJoinedBy 3 (some (.object "SortLineEvents$Bunker")) 1 := ⟨mw_260, mw_259, mp_2, mw_1, by decide +kernel⟩
theorem M_9_onBelts : MV yX9_onBelts cX9_onBelts 3 (some .int) 0 := ⟨mw_467, mw_466, mp_15, mw_1, by decide +kernel⟩
theorem M_9_passOneTenth : MV yX9_passOneTenth cX9_passOneTenth 2 (none : Option Jvm.ClassFile.FieldType) 0 := ⟨mw_370, mw_369, mp_3, mw_1, by decide +kernel⟩
theorem M_9_comeOn : MV yX9_comeOn cX9_comeOn 3 (none : Option Jvm.ClassFile.FieldType) 1 := ⟨mw_374, mw_373, mp_4, mw_1, by decide +kernel⟩
theorem M_9_act : MV yX9_act cX9_act 3 (none : Option Jvm.ClassFile.FieldType) 1 := ⟨mw_382, mw_381, mp_5, mw_1, by decide +kernel⟩
theorem M_9_enter : MV yX9_enter cX9_enter 3 (none : Option Jvm.ClassFile.FieldType) 2 := ⟨mw_386, mw_385, mp_6, mw_1, by decide +kernel⟩
theorem M_9_loadWith : MV yX9_loadWith cX9_loadWith 7 (some .double) 2 := ⟨mw_398, mw_397, mp_7, mw_1, by decide +kernel⟩
theorem M_9_jamBy : MV yX9_jamBy cX9_jamBy 5 (none : Option Jvm.ClassFile.FieldType) 2 := ⟨mw_402, mw_401, mp_8, mw_1, by decide +kernel⟩
theorem M_9_passHeads : MV yX9_passHeads cX9_passHeads 6 (none : Option Jvm.ClassFile.FieldType) 2 := ⟨mw_406, mw_405, mp_9, mw_1, by decide +kernel⟩
theorem M_9_leave : MV yX9_leave cX9_leave 3 (none : Option Jvm.ClassFile.FieldType) 2 := ⟨mw_419, mw_418, mp_11, mw_1, by decide +kernel⟩
theorem M_9_takenByRobot : MV yX9_takenByRobot cX9_takenByRobot 5 (some .boolean) 2 := ⟨mw_423, mw_422, mp_12, mw_1, by decide +kernel⟩
theorem M_9_takenByPicker : MV yX9_takenByPicker cX9_takenByPicker 5 (some .boolean) 2 := ⟨mw_427, mw_426, mp_13, mw_1, by decide +kernel⟩
theorem M_9_fill : MV yX9_fill cX9_fill 5 (none : Option Jvm.ClassFile.FieldType) 2 := ⟨mw_436, mw_435, mp_14, mw_1, by decide +kernel⟩
theorem M_9_chance : MV yX9_chance cX9_chance 5 (some .double) 2 := ⟨mw_410, mw_409, mp_10, mw_1, by decide +kernel⟩
theorem M_10_init : MI yX10_init cX10_init 3 1 := ⟨mw_496, mw_495, mw_4, rfl, by decide +kernel⟩
theorem M_10_isIn : MS yX10_isIn cX10_isIn 6 (some .boolean) 3 := ⟨mw_644, mw_643, mw_4, by decide +kernel⟩
theorem M_10_isBelt : MV yX10_isBelt cX10_isBelt 2 (some .boolean) 1 := ⟨mw_656, mw_655, mp_17, mw_4, by decide +kernel⟩
theorem M_10_isOpen : MV yX10_isOpen cX10_isOpen 1 (some .boolean) 0 := ⟨mw_648, mw_647, mp_16, mw_4, by decide +kernel⟩
theorem M_10_belt : MV yX10_belt cX10_belt 4 (some .int) 2 := ⟨mw_639, mw_637, mw_638, mw_4, by decide +kernel⟩
theorem M_10_head : MV yX10_head cX10_head 6 (some .int) 3 := ⟨mw_652, mw_650, mw_651, mw_4, by decide +kernel⟩
theorem M_10_bunker : MV yX10_bunker cX10_bunker 3 (some .int) 1 := ⟨mw_660, mw_658, mw_659, mw_4, by decide +kernel⟩
theorem M_10_joinTo : MV yX10_joinTo cX10_joinTo 4 (some .boolean) 2 := ⟨mw_665, mw_663, mw_664, mw_4, by decide +kernel⟩
theorem M_10_rule : MV yX10_rule cX10_rule 5 (some .boolean) 3 := ⟨mw_669, mw_667, mw_668, mw_4, by decide +kernel⟩
theorem M_10_picker : MV yX10_picker cX10_picker 6 (some .int) 3 := ⟨mw_673, mw_671, mw_672, mw_4, by decide +kernel⟩
theorem M_10_robot : MV yX10_robot cX10_robot 6 (some .int) 3 := ⟨mw_680, mw_678, mw_679, mw_4, by decide +kernel⟩
theorem M_10_feed : MV yX10_feed cX10_feed 6 (some .boolean) 4 := ⟨mw_684, mw_682, mw_683, mw_4, by decide +kernel⟩
theorem M_10_chance : MV yX10_chance cX10_chance 5 (some .double) 2 := ⟨mw_720, mw_719, mp_25, mw_4, by decide +kernel⟩
theorem M_10_note : MV yX10_note cX10_note 4 (none : Option Jvm.ClassFile.FieldType) 3 := ⟨mw_704, mw_703, mp_21, mw_4, by decide +kernel⟩
theorem M_10_lose : MV yX10_lose cX10_lose 5 (none : Option Jvm.ClassFile.FieldType) 4 := ⟨mw_700, mw_699, mp_20, mw_4, by decide +kernel⟩
theorem M_10_sizesOn : MV yX10_sizesOn cX10_sizesOn 6 (some .double) 2 := ⟨mw_708, mw_707, mp_22, mw_4, by decide +kernel⟩
theorem M_10_piecesOn : MV yX10_piecesOn cX10_piecesOn 4 (some .int) 1 := ⟨mw_712, mw_711, mp_23, mw_4, by decide +kernel⟩
theorem M_10_enter : MV yX10_enter cX10_enter 3 (none : Option Jvm.ClassFile.FieldType) 2 := ⟨mw_696, mw_695, mp_19, mw_4, by decide +kernel⟩
theorem M_10_pass : MV yX10_pass cX10_pass 3 (none : Option Jvm.ClassFile.FieldType) 1 := ⟨mw_716, mw_715, mp_24, mw_4, by decide +kernel⟩
theorem M_10_isTaken : MV yX10_isTaken cX10_isTaken 4 (some .boolean) 1 := ⟨mw_729, mw_728, mp_26, mw_4, by decide +kernel⟩
theorem M_10_goOn : MV yX10_goOn cX10_goOn 4 (none : Option Jvm.ClassFile.FieldType) 1 := ⟨mw_733, mw_732, mp_27, mw_4, by decide +kernel⟩
theorem M_10_goOut : MV yX10_goOut cX10_goOut 4 (none : Option Jvm.ClassFile.FieldType) 1 := ⟨mw_737, mw_736, mp_28, mw_4, by decide +kernel⟩
theorem M_10_tenth : MV yX10_tenth cX10_tenth 2 (none : Option Jvm.ClassFile.FieldType) 0 := ⟨mw_692, mw_691, mp_18, mw_4, by decide +kernel⟩
theorem M_10_run : MV yX10_run cX10_run 2 (some .int) 1 := ⟨mw_688, mw_686, mw_687, mw_4, by decide +kernel⟩
theorem M_10_event : MV yX10_event cX10_event 3 (some .int) 2 := ⟨mw_741, mw_739, mw_740, mw_4, by decide +kernel⟩
theorem M_10_isKind : MV yX10_isKind cX10_isKind 3 (some .boolean) 2 := ⟨mw_749, mw_748, mp_29, mw_4, by decide +kernel⟩
theorem M_10_out : MV yX10_out cX10_out 3 (some .long) 2 := ⟨mw_745, mw_743, mw_744, mw_4, by decide +kernel⟩
theorem M_10_count : MV yX10_count cX10_count 4 (some .int) 1 := ⟨mw_758, mw_757, mp_30, mw_4, by decide +kernel⟩
theorem M_10_inside : MV yX10_inside cX10_inside 1 (some .long) 0 := ⟨mw_754, mw_752, mw_753, mw_4, by decide +kernel⟩
theorem M_10_jam : MV yX10_jam cX10_jam 3 (some .int) 2 := ⟨mw_762, mw_760, mw_761, mw_4, by decide +kernel⟩
theorem M_10_lost : MV yX10_lost cX10_lost 2 (some .long) 1 := ⟨mw_766, mw_764, mw_765, mw_4, by decide +kernel⟩
theorem M_10_interval : MV yX10_interval cX10_interval 4 (some .double) 3 := ⟨mw_770, mw_768, mw_769, mw_4, by decide +kernel⟩
theorem M_10_same : MV yX10_same cX10_same 3 (some .boolean) 0 := ⟨mw_775, mw_773, mw_774, mw_4, by decide +kernel⟩
theorem M_10_pieceKind : MV yX10_pieceKind cX10_pieceKind 3 (some .int) 1 := ⟨mw_780, mw_778, mw_779, mw_4, by decide +kernel⟩
theorem M_L_cell : MS yL_cell cL_cell 2 (some .int) 2 := ⟨mw_491, mw_490, mw_0, by decide +kernel⟩
end
section
/-! THE ABSTRACT STATE: the reference's own numbers. Its place 0: the reference's fields (1 belts, 9 heads, 13 bunkers, 16 robots, 20 pickers, 26 pieces, 35 now, 36 total, 38 jams; the long 0: the seed); its places 1 .. 35: the reference's arrays in their order (kind 20 is place 1) -/
abbrev Al : Type := (Nat → Nat → Int32) × (Nat → Nat → Int64) × (Nat → Nat → UInt64)
def aI (α : Al) : Nat → Nat → Int32 := α.1
def aJ (α : Al) : Nat → Nat → Int64 := α.2.1
def aD (α : Al) : Nat → Nat → UInt64 := α.2.2
def qI (α : Al) (a j : Nat) (v : Int32) : Al := (u2 (aI α) a j v, aJ α, aD α)
def qJ (α : Al) (a j : Nat) (v : Int64) : Al := (aI α, u2 (aJ α) a j v, aD α)
def qD (α : Al) (a j : Nat) (v : UInt64) : Al := (aI α, aJ α, u2 (aD α) a j v)
def mkb (k : Nat) : Bool := Nat.ble 20 k || Nat.beq k 10
def km (k : Nat) : Nat := k - 19
def mk (a : Nat) : Nat := match a with
  | 0 => 10
  | a + 1 => a + 20
def rd (S : St) : Al := (fun a j => sI S (mk a) 0 j, fun a j => sJ S (mk a) 0 j, fun a j => sD S (mk a) 0 j)
def wr (S : St) (α : Al) : St := (sC S, sA S, sN S, fun k i j => bif mkb k && Nat.beq i 0 then aI α (km k) j else sI S k i j, fun k i j => bif mkb k && Nat.beq i 0 then aJ α (km k) j else sJ S k i j, fun k i j => bif mkb k && Nat.beq i 0 then aD α (km k) j else sD S k i j, sR S)
theorem mkb_mk (a : Nat) : mkb (mk a) = true := by
  cases a with
  | zero => rfl
  | succ a => unfold mkb mk; simp [Nat.ble_eq]
theorem km_mk (a : Nat) : km (mk a) = a := by
  cases a with
  | zero => rfl
  | succ a => unfold km mk; simp
theorem mk_km {k : Nat} (h : mkb k = true) : mk (km k) = k := by
  unfold mkb at h
  rcases Bool.or_eq_true _ _ |>.mp h with h | h
  · have h : 20 ≤ k := Nat.le_of_ble_eq_true h
    obtain ⟨d, rfl⟩ := Nat.exists_eq_add_of_le h
    have : km (20 + d) = d + 1 := by unfold km; omega
    rw [this]
    show d + 20 = 20 + d
    omega
  · have h : k = 10 := Nat.eq_of_beq_eq_true h
    subst h
    rfl
theorem wr_rd (S : St) : wr S (rd S) = S := by
  obtain ⟨C, A, N, I, J, D, R⟩ := S
  have h : ∀ {β : Type} (F : Nat → Nat → Nat → β), (fun k i j => bif mkb k && Nat.beq i 0 then F (mk (km k)) 0 j else F k i j) = F := by
    intro β F
    funext k i j
    by_cases hk : mkb k = true
    · rw [mk_km hk, hk]
      cases i with
      | zero => rfl
      | succ i => rfl
    · rw [Bool.not_eq_true] at hk
      rw [hk]
      rfl
  show (C, A, N, (fun k i j => bif mkb k && Nat.beq i 0 then I (mk (km k)) 0 j else I k i j), (fun k i j => bif mkb k && Nat.beq i 0 then J (mk (km k)) 0 j else J k i j), (fun k i j => bif mkb k && Nat.beq i 0 then D (mk (km k)) 0 j else D k i j), R) = (C, A, N, I, J, D, R)
  rw [h I, h J, h D]
theorem rd_wr (S : St) (α : Al) : rd (wr S α) = α := by
  obtain ⟨I, J, D⟩ := α
  have h : ∀ {β : Type} (F : Nat → Nat → β) (G : Nat → Nat → Nat → β), (fun a j => bif mkb (mk a) && Nat.beq 0 0 then F (km (mk a)) j else G (mk a) 0 j) = F := by
    intro β F G
    funext a j
    rw [mkb_mk, km_mk]
    rfl
  show ((fun a j => bif mkb (mk a) && Nat.beq 0 0 then I (km (mk a)) j else sI S (mk a) 0 j), (fun a j => bif mkb (mk a) && Nat.beq 0 0 then J (km (mk a)) j else sJ S (mk a) 0 j), (fun a j => bif mkb (mk a) && Nat.beq 0 0 then D (km (mk a)) j else sD S (mk a) 0 j)) = (I, J, D)
  rw [h I, h J, h D]
theorem wr_wr (S : St) (α β : Al) : wr (wr S α) β = wr S β := by
  have h : ∀ {γ : Type} (F G : Nat → Nat → γ) (Z : Nat → Nat → Nat → γ), (fun k i j => bif mkb k && Nat.beq i 0 then F (km k) j else bif mkb k && Nat.beq i 0 then G (km k) j else Z k i j) = (fun k i j => bif mkb k && Nat.beq i 0 then F (km k) j else Z k i j) := by
    intro γ F G Z
    funext k i j
    cases mkb k && Nat.beq i 0 <;> rfl
  show (sC S, sA S, sN S, (fun k i j => bif mkb k && Nat.beq i 0 then aI β (km k) j else bif mkb k && Nat.beq i 0 then aI α (km k) j else sI S k i j), (fun k i j => bif mkb k && Nat.beq i 0 then aJ β (km k) j else bif mkb k && Nat.beq i 0 then aJ α (km k) j else sJ S k i j), (fun k i j => bif mkb k && Nat.beq i 0 then aD β (km k) j else bif mkb k && Nat.beq i 0 then aD α (km k) j else sD S k i j), sR S) = _
  rw [h, h, h]
  rfl
theorem wr_u3 {β : Type} {F : Nat → Nat → β} {Z : Nat → Nat → Nat → β} {x j : Nat} {v : β} (hx : mkb x = true) : u3 (fun k i j => bif mkb k && Nat.beq i 0 then F (km k) j else Z k i j) x 0 j v = fun k i j_1 => bif mkb k && Nat.beq i 0 then u2 F (km x) j v (km k) j_1 else Z k i j_1 := by
  funext k i z
  unfold u3 u2
  by_cases hk : mkb k = true
  · have hkk : km k = km x ↔ k = x := ⟨fun e => by rw [← mk_km hk, ← mk_km hx, e], fun e => by rw [e]⟩
    cases i with
    | zero =>
      simp only [hk, Nat.beq_refl, Bool.and_self, cond_true, true_and, hkk, Bool.true_and]
    | succ i =>
      simp [hk, Nat.beq]
  · have hne : k ≠ x := fun e => hk (e ▸ hx)
    rw [Bool.not_eq_true] at hk
    simp [hk, hne]
theorem wr_pI {S : St} {α : Al} {x j : Nat} {v : Int32} (hx : mkb x = true) : pI (wr S α) x 0 j v = wr S (qI α (km x) j v) := by
  show (sC S, sA S, sN S, u3 (fun k i j => bif mkb k && Nat.beq i 0 then aI α (km k) j else sI S k i j) x 0 j v, _) = _
  rw [wr_u3 hx]
  rfl
theorem wr_pJ {S : St} {α : Al} {x j : Nat} {v : Int64} (hx : mkb x = true) : pJ (wr S α) x 0 j v = wr S (qJ α (km x) j v) := by
  show (sC S, sA S, sN S, _, u3 (fun k i j => bif mkb k && Nat.beq i 0 then aJ α (km k) j else sJ S k i j) x 0 j v, _) = _
  rw [wr_u3 hx]
  rfl
theorem wr_pD {S : St} {α : Al} {x j : Nat} {v : UInt64} (hx : mkb x = true) : pD (wr S α) x 0 j v = wr S (qD α (km x) j v) := by
  show (sC S, sA S, sN S, _, _, u3 (fun k i j => bif mkb k && Nat.beq i 0 then aD α (km k) j else sD S k i j) x 0 j v, _) = _
  rw [wr_u3 hx]
  rfl
/-- the lengths of the reference's arrays -/
def ln (k : Nat) : Nat := match k with
  | 20 => 6
  | 21 => 6
  | 22 => 6
  | 23 => 6
  | 24 => 6
  | 25 => 6
  | 26 => 6
  | 27 => 8
  | 28 => 8
  | 29 => 8
  | 30 => 4
  | 31 => 4
  | 32 => 4
  | 33 => 4
  | 34 => 4
  | 35 => 4
  | 36 => 4
  | 37 => 4
  | 38 => 4
  | 39 => 4
  | 40 => 60
  | 41 => 60
  | 42 => 60
  | 43 => 60
  | 44 => 60
  | 45 => 60
  | 46 => 60
  | 47 => 60
  | 48 => 8000
  | 49 => 240
  | 50 => 4
  | 51 => 30
  | 52 => 30
  | 53 => 30
  | 54 => 30
  | _ => 0
/-- the reference's cells stand -/
def MSh (S : St) : Prop := 0 < sC S 10 ∧ (∀ k, 20 ≤ k → k < 55 → 0 < sC S k) ∧ (∀ j, kn_t 10 j = 3 → sR S 10 0 j = some 0) ∧ ∀ k, 20 ≤ k → k < 55 → sN S k 0 = ln k
def MK (x c t L : Nat) : Prop := (20 ≤ x ∧ x < 55) ∧ kn_a x = true ∧ kn_c x = c ∧ kn_t x 0 = t ∧ ln x = L ∧ L < 2 ^ 31 ∧ mkb x = true
section MR
variable {X : Cx} {k n : Nat} {S : St} {α : Al} {pc q : Nat} {lv : List (Nat × Value)} {st : List Value} {cc : ByteArray} {own : String} {x j ix L a : Nat} {w : Int32}
theorem m_getI (hX : Ok X cc own) (hm : MSh S) (hd : decode cc pc = .ok (.getfield ix, 3)) (hq : pc + 3 = q) (hf : Cond.fieldLink own ix (TX10 j).1 (TX10 j).2.1 (TX10 j).2.2.1 ∈ BIG) (hj : j < 45) (ht : kn_t 10 j = 0) (kk : Jg X k n (wr S α) q lv (.int (aI α 0 j) :: st)) : Jg X k n (wr S α) pc lv (.ref (sA S 10 0) :: st) :=
  j_getI (x := 10) hX CK_10 hd hq hf rfl hm.1 rfl rfl hj (Or.inl ht) kk
theorem m_getJ (hX : Ok X cc own) (hm : MSh S) (hd : decode cc pc = .ok (.getfield ix, 3)) (hq : pc + 3 = q) (hf : Cond.fieldLink own ix (TX10 j).1 (TX10 j).2.1 (TX10 j).2.2.1 ∈ BIG) (hj : j < 45) (ht : kn_t 10 j = 1) (kk : Jg X k n (wr S α) q lv (.long (aJ α 0 j) :: st)) : Jg X k n (wr S α) pc lv (.ref (sA S 10 0) :: st) :=
  j_getJ (x := 10) hX CK_10 hd hq hf rfl hm.1 rfl rfl hj ht kk
theorem m_getA (hX : Ok X cc own) (hm : MSh S) (hd : decode cc pc = .ok (.getfield ix, 3)) (hq : pc + 3 = q) (hf : Cond.fieldLink own ix (TX10 j).1 (TX10 j).2.1 (TX10 j).2.2.1 ∈ BIG) (hj : j < 45) (ht : kn_t 10 j = 3) (hr : kn_r 10 j = x) (kk : Jg X k n (wr S α) q lv (.ref (sA S x 0) :: st)) : Jg X k n (wr S α) pc lv (.ref (sA S 10 0) :: st) :=
  j_getRs (x := 10) (r := 0) hX CK_10 hd hq hf rfl hm.1 rfl rfl hj ht (hm.2.2.1 j ht) (by rw [hr]; exact kk)
theorem m_putI {v : Int32} (hX : Ok X cc own) (hm : MSh S) (hd : decode cc pc = .ok (.putfield ix, 3)) (hq : pc + 3 = q) (hf : Cond.fieldLink own ix (TX10 j).1 (TX10 j).2.1 (TX10 j).2.2.1 ∈ BIG) (hj : j < 45) (ht : kn_t 10 j = 0) (hfin : (TX10 j).2.2.2 = false) (hd2 : parseFieldDescriptor (TX10 j).2.2.1 = some .int) (kk : Jg X k n (wr S (qI α 0 j v)) q lv st) : Jg X k n (wr S α) pc lv (.int v :: .ref (sA S 10 0) :: st) :=
  j_putI (x := 10) hX CK_10 hd hq hf rfl hm.1 rfl rfl hj hfin hd2 ht (by rw [wr_pI rfl]; exact kk)
theorem wr_sI (hx : mkb x = true) : sI (wr S α) x 0 j = aI α (km x) j := by
  show (bif mkb x && Nat.beq 0 0 then aI α (km x) j else sI S x 0 j) = _
  rw [hx]
  rfl
theorem wr_sJ (hx : mkb x = true) : sJ (wr S α) x 0 j = aJ α (km x) j := by
  show (bif mkb x && Nat.beq 0 0 then aJ α (km x) j else sJ S x 0 j) = _
  rw [hx]
  rfl
theorem wr_sD (hx : mkb x = true) : sD (wr S α) x 0 j = aD α (km x) j := by
  show (bif mkb x && Nat.beq 0 0 then aD α (km x) j else sD S x 0 j) = _
  rw [hx]
  rfl
theorem m_iald (hX : Ok X cc own) (hm : MSh S) (hx : MK x 0 0 L) (hd : decode cc pc = .ok (.iaload, 1)) (hq : pc + 1 = q) (ha : km x = a) (hw : w = nI j) (hj : j < L) (kk : Jg X k n (wr S α) q lv (.int (aI α a j) :: st)) : Jg X k n (wr S α) pc lv (.int w :: .ref (sA S x 0) :: st) := by
  obtain ⟨⟨h1, h2⟩, h3, h4, h5, h6, h7, h8⟩ := hx
  have hN : sN (wr S α) x 0 = L := (hm.2.2.2 x h1 h2).trans h6
  refine j_iald (x := x) (i := 0) hX hd hq rfl (hm.2.1 x h1 h2) h3 h4 h5 hw (by rw [hN]; exact hj) (by rw [hN]; exact h7) ?_
  rw [wr_sI h8, ha]
  exact kk
theorem m_zald (hX : Ok X cc own) (hm : MSh S) (hx : MK x 3 4 L) (hd : decode cc pc = .ok (.baload, 1)) (hq : pc + 1 = q) (ha : km x = a) (hw : w = nI j) (hj : j < L) (kk : Jg X k n (wr S α) q lv (.int (aI α a j) :: st)) : Jg X k n (wr S α) pc lv (.int w :: .ref (sA S x 0) :: st) := by
  obtain ⟨⟨h1, h2⟩, h3, h4, h5, h6, h7, h8⟩ := hx
  have hN : sN (wr S α) x 0 = L := (hm.2.2.2 x h1 h2).trans h6
  refine j_zald (x := x) (i := 0) hX hd hq rfl (hm.2.1 x h1 h2) h3 h4 h5 hw (by rw [hN]; exact hj) (by rw [hN]; exact h7) ?_
  rw [wr_sI h8, ha]
  exact kk
theorem m_lald (hX : Ok X cc own) (hm : MSh S) (hx : MK x 1 1 L) (hd : decode cc pc = .ok (.laload, 1)) (hq : pc + 1 = q) (ha : km x = a) (hw : w = nI j) (hj : j < L) (kk : Jg X k n (wr S α) q lv (.long (aJ α a j) :: st)) : Jg X k n (wr S α) pc lv (.int w :: .ref (sA S x 0) :: st) := by
  obtain ⟨⟨h1, h2⟩, h3, h4, h5, h6, h7, h8⟩ := hx
  have hN : sN (wr S α) x 0 = L := (hm.2.2.2 x h1 h2).trans h6
  refine j_lald (x := x) (i := 0) hX hd hq rfl (hm.2.1 x h1 h2) h3 h4 h5 hw (by rw [hN]; exact hj) (by rw [hN]; exact h7) ?_
  rw [wr_sJ h8, ha]
  exact kk
theorem m_dald (hX : Ok X cc own) (hm : MSh S) (hx : MK x 2 2 L) (hd : decode cc pc = .ok (.daload, 1)) (hq : pc + 1 = q) (ha : km x = a) (hw : w = nI j) (hj : j < L) (kk : Jg X k n (wr S α) q lv (.double (aD α a j) :: st)) : Jg X k n (wr S α) pc lv (.int w :: .ref (sA S x 0) :: st) := by
  obtain ⟨⟨h1, h2⟩, h3, h4, h5, h6, h7, h8⟩ := hx
  have hN : sN (wr S α) x 0 = L := (hm.2.2.2 x h1 h2).trans h6
  refine j_dald (x := x) (i := 0) hX hd hq rfl (hm.2.1 x h1 h2) h3 h4 h5 hw (by rw [hN]; exact hj) (by rw [hN]; exact h7) ?_
  rw [wr_sD h8, ha]
  exact kk
theorem m_iast {v : Int32} (hX : Ok X cc own) (hm : MSh S) (hx : MK x 0 0 L) (hd : decode cc pc = .ok (.iastore, 1)) (hq : pc + 1 = q) (ha : km x = a) (hw : w = nI j) (hj : j < L) (kk : Jg X k n (wr S (qI α a j v)) q lv st) : Jg X k n (wr S α) pc lv (.int v :: .int w :: .ref (sA S x 0) :: st) := by
  obtain ⟨⟨h1, h2⟩, h3, h4, h5, h6, h7, h8⟩ := hx
  have hN : sN (wr S α) x 0 = L := (hm.2.2.2 x h1 h2).trans h6
  refine j_iast (x := x) (i := 0) hX hd hq rfl (hm.2.1 x h1 h2) h3 h4 h5 hw (by rw [hN]; exact hj) (by rw [hN]; exact h7) ?_
  rw [wr_pI h8, ha]
  exact kk
theorem m_zast {v : Int32} (hX : Ok X cc own) (hm : MSh S) (hx : MK x 3 4 L) (hd : decode cc pc = .ok (.bastore, 1)) (hq : pc + 1 = q) (ha : km x = a) (hb : v = 0 ∨ v = 1) (hw : w = nI j) (hj : j < L) (kk : Jg X k n (wr S (qI α a j v)) q lv st) : Jg X k n (wr S α) pc lv (.int v :: .int w :: .ref (sA S x 0) :: st) := by
  obtain ⟨⟨h1, h2⟩, h3, h4, h5, h6, h7, h8⟩ := hx
  have hN : sN (wr S α) x 0 = L := (hm.2.2.2 x h1 h2).trans h6
  refine j_zast (x := x) (i := 0) hX hd hq rfl (hm.2.1 x h1 h2) h3 h4 h5 hb hw (by rw [hN]; exact hj) (by rw [hN]; exact h7) ?_
  rw [wr_pI h8, ha]
  exact kk
theorem m_last {v : Int64} (hX : Ok X cc own) (hm : MSh S) (hx : MK x 1 1 L) (hd : decode cc pc = .ok (.lastore, 1)) (hq : pc + 1 = q) (ha : km x = a) (hw : w = nI j) (hj : j < L) (kk : Jg X k n (wr S (qJ α a j v)) q lv st) : Jg X k n (wr S α) pc lv (.long v :: .int w :: .ref (sA S x 0) :: st) := by
  obtain ⟨⟨h1, h2⟩, h3, h4, h5, h6, h7, h8⟩ := hx
  have hN : sN (wr S α) x 0 = L := (hm.2.2.2 x h1 h2).trans h6
  refine j_last (x := x) (i := 0) hX hd hq rfl (hm.2.1 x h1 h2) h3 h4 h5 hw (by rw [hN]; exact hj) (by rw [hN]; exact h7) ?_
  rw [wr_pJ h8, ha]
  exact kk
theorem m_dast {v : UInt64} (hX : Ok X cc own) (hm : MSh S) (hx : MK x 2 2 L) (hd : decode cc pc = .ok (.dastore, 1)) (hq : pc + 1 = q) (ha : km x = a) (hw : w = nI j) (hj : j < L) (kk : Jg X k n (wr S (qD α a j v)) q lv st) : Jg X k n (wr S α) pc lv (.double v :: .int w :: .ref (sA S x 0) :: st) := by
  obtain ⟨⟨h1, h2⟩, h3, h4, h5, h6, h7, h8⟩ := hx
  have hN : sN (wr S α) x 0 = L := (hm.2.2.2 x h1 h2).trans h6
  refine j_dast (x := x) (i := 0) hX hd hq rfl (hm.2.1 x h1 h2) h3 h4 h5 hw (by rw [hN]; exact hj) (by rw [hN]; exact h7) ?_
  rw [wr_pD h8, ha]
  exact kk
end MR
theorem MK_20 : MK 20 0 0 6 := ⟨⟨by decide, by decide⟩, rfl, rfl, rfl, rfl, by decide, rfl⟩
theorem MK_21 : MK 21 2 2 6 := ⟨⟨by decide, by decide⟩, rfl, rfl, rfl, rfl, by decide, rfl⟩
theorem MK_22 : MK 22 0 0 6 := ⟨⟨by decide, by decide⟩, rfl, rfl, rfl, rfl, by decide, rfl⟩
theorem MK_23 : MK 23 3 4 6 := ⟨⟨by decide, by decide⟩, rfl, rfl, rfl, rfl, by decide, rfl⟩
theorem MK_24 : MK 24 2 2 6 := ⟨⟨by decide, by decide⟩, rfl, rfl, rfl, rfl, by decide, rfl⟩
theorem MK_25 : MK 25 0 0 6 := ⟨⟨by decide, by decide⟩, rfl, rfl, rfl, rfl, by decide, rfl⟩
theorem MK_26 : MK 26 0 0 6 := ⟨⟨by decide, by decide⟩, rfl, rfl, rfl, rfl, by decide, rfl⟩
theorem MK_27 : MK 27 0 0 8 := ⟨⟨by decide, by decide⟩, rfl, rfl, rfl, rfl, by decide, rfl⟩
theorem MK_28 : MK 28 0 0 8 := ⟨⟨by decide, by decide⟩, rfl, rfl, rfl, rfl, by decide, rfl⟩
theorem MK_29 : MK 29 2 2 8 := ⟨⟨by decide, by decide⟩, rfl, rfl, rfl, rfl, by decide, rfl⟩
theorem MK_30 : MK 30 2 2 4 := ⟨⟨by decide, by decide⟩, rfl, rfl, rfl, rfl, by decide, rfl⟩
theorem MK_31 : MK 31 2 2 4 := ⟨⟨by decide, by decide⟩, rfl, rfl, rfl, rfl, by decide, rfl⟩
theorem MK_32 : MK 32 0 0 4 := ⟨⟨by decide, by decide⟩, rfl, rfl, rfl, rfl, by decide, rfl⟩
theorem MK_33 : MK 33 2 2 4 := ⟨⟨by decide, by decide⟩, rfl, rfl, rfl, rfl, by decide, rfl⟩
theorem MK_34 : MK 34 2 2 4 := ⟨⟨by decide, by decide⟩, rfl, rfl, rfl, rfl, by decide, rfl⟩
theorem MK_35 : MK 35 0 0 4 := ⟨⟨by decide, by decide⟩, rfl, rfl, rfl, rfl, by decide, rfl⟩
theorem MK_36 : MK 36 2 2 4 := ⟨⟨by decide, by decide⟩, rfl, rfl, rfl, rfl, by decide, rfl⟩
theorem MK_37 : MK 37 2 2 4 := ⟨⟨by decide, by decide⟩, rfl, rfl, rfl, rfl, by decide, rfl⟩
theorem MK_38 : MK 38 0 0 4 := ⟨⟨by decide, by decide⟩, rfl, rfl, rfl, rfl, by decide, rfl⟩
theorem MK_39 : MK 39 0 0 4 := ⟨⟨by decide, by decide⟩, rfl, rfl, rfl, rfl, by decide, rfl⟩
theorem MK_40 : MK 40 0 0 60 := ⟨⟨by decide, by decide⟩, rfl, rfl, rfl, rfl, by decide, rfl⟩
theorem MK_41 : MK 41 2 2 60 := ⟨⟨by decide, by decide⟩, rfl, rfl, rfl, rfl, by decide, rfl⟩
theorem MK_42 : MK 42 0 0 60 := ⟨⟨by decide, by decide⟩, rfl, rfl, rfl, rfl, by decide, rfl⟩
theorem MK_43 : MK 43 0 0 60 := ⟨⟨by decide, by decide⟩, rfl, rfl, rfl, rfl, by decide, rfl⟩
theorem MK_44 : MK 44 0 0 60 := ⟨⟨by decide, by decide⟩, rfl, rfl, rfl, rfl, by decide, rfl⟩
theorem MK_45 : MK 45 0 0 60 := ⟨⟨by decide, by decide⟩, rfl, rfl, rfl, rfl, by decide, rfl⟩
theorem MK_46 : MK 46 0 0 60 := ⟨⟨by decide, by decide⟩, rfl, rfl, rfl, rfl, by decide, rfl⟩
theorem MK_47 : MK 47 3 4 60 := ⟨⟨by decide, by decide⟩, rfl, rfl, rfl, rfl, by decide, rfl⟩
theorem MK_48 : MK 48 0 0 8000 := ⟨⟨by decide, by decide⟩, rfl, rfl, rfl, rfl, by decide, rfl⟩
theorem MK_49 : MK 49 0 0 240 := ⟨⟨by decide, by decide⟩, rfl, rfl, rfl, rfl, by decide, rfl⟩
theorem MK_50 : MK 50 1 1 4 := ⟨⟨by decide, by decide⟩, rfl, rfl, rfl, rfl, by decide, rfl⟩
theorem MK_51 : MK 51 0 0 30 := ⟨⟨by decide, by decide⟩, rfl, rfl, rfl, rfl, by decide, rfl⟩
theorem MK_52 : MK 52 0 0 30 := ⟨⟨by decide, by decide⟩, rfl, rfl, rfl, rfl, by decide, rfl⟩
theorem MK_53 : MK 53 0 0 30 := ⟨⟨by decide, by decide⟩, rfl, rfl, rfl, rfl, by decide, rfl⟩
theorem MK_54 : MK 54 0 0 30 := ⟨⟨by decide, by decide⟩, rfl, rfl, rfl, rfl, by decide, rfl⟩
end
section
/-! doubles that are no NaN -/
theorem n64_of {r : UInt64} (h : FP.Core.val64 r ≠ .nan) : vf_n64 r := by
  unfold vf_n64
  rw [UInt64.le_iff_toNat_le, UInt64.toNat_and]
  rw [show (0x7fffffffffffffff : UInt64).toNat = 2 ^ 63 - 1 from rfl, Nat.and_two_pow_sub_one_eq_mod, show (0x7ff0000000000000 : UInt64).toNat = 9218868437227405312 from rfl]
  apply Decidable.byContradiction
  intro hc
  apply h
  have hlt := r.toNat_lt
  unfold FP.Core.val64 FP.Core.decode
  have e1 : FP.Core.fieldE FP.Core.b64 r.toNat = r.toNat / 4503599627370496 % 2048 := rfl
  have e2 : FP.Core.fieldT FP.Core.b64 r.toNat = r.toNat % 4503599627370496 := rfl
  have e3 : FP.Core.b64.exps - 1 = 2047 := rfl
  rw [e1, e2, e3, if_pos (by omega), if_neg (by omega)]
/-- no NaN -/
def dOk (x : UInt64) : Prop := FP.Core.val64 x ≠ .nan
/-- a number, and one that isn't zero -/
def dFin (x : UInt64) : Prop := ∃ s c q, FP.Core.val64 x = .fin s c q
def dNz (x : UInt64) : Prop := ∃ s c q, FP.Core.val64 x = .fin s c q ∧ c ≠ 0
/-- not below zero: a number or an infinity -/
def dNn (x : UInt64) : Prop := FP.Core.val64 x = .inf false ∨ ∃ s c q, FP.Core.val64 x = .fin s c q ∧ (s = false ∨ c = 0)
/-- a number that isn't below zero -/
def dFn (x : UInt64) : Prop := ∃ s c q, FP.Core.val64 x = .fin s c q ∧ (s = false ∨ c = 0)
theorem dFin.ok {x : UInt64} (h : dFin x) : dOk x := by
  obtain ⟨s, c, q, e⟩ := h
  unfold dOk
  rw [e]
  intro h
  cases h
theorem dNz.fin {x : UInt64} (h : dNz x) : dFin x := by
  obtain ⟨s, c, q, e, -⟩ := h
  exact ⟨s, c, q, e⟩
theorem dFn.fin {x : UInt64} (h : dFn x) : dFin x := by
  obtain ⟨s, c, q, e, -⟩ := h
  exact ⟨s, c, q, e⟩
theorem dFn.nn {x : UInt64} (h : dFn x) : dNn x := Or.inr h
theorem dNn.ok {x : UInt64} (h : dNn x) : dOk x := by
  unfold dOk
  rcases h with e | ⟨s, c, q, e, -⟩ <;> (rw [e]; intro h; cases h)
theorem rr_cases (s : Bool) (A B : Nat) (e : Int) : FP.Core.roundRatio FP.Core.b64 s A B e = .inf s ∨ ∃ c q, FP.Core.roundRatio FP.Core.b64 s A B e = .fin s c q ∧ (A = 0 → c = 0) := by
  unfold FP.Core.roundRatio
  split
  · rename_i h
    exact Or.inr ⟨_, _, rfl, fun _ => rfl⟩
  · rename_i h
    unfold FP.Core.roundAt FP.Core.settle FP.Core.bound
    split <;> split
    · exact Or.inr ⟨_, _, rfl, fun z => absurd z h⟩
    · exact Or.inl rfl
    · exact Or.inr ⟨_, _, rfl, fun z => absurd z h⟩
    · exact Or.inl rfl
theorem dadd_nn {x y : UInt64} (hx : dNn x) (hy : dNn y) : dNn (FP.dadd x y) := by
  have e := FP.Core.val64_dadd x y
  unfold dNn
  show FP.Core.val64 (FP.Core.dadd x y) = _ ∨ ∃ s c q, FP.Core.val64 (FP.Core.dadd x y) = _ ∧ _
  rw [e]
  rcases hx with ex | ⟨s, c, q, ex, hs⟩ <;> rcases hy with ey | ⟨t, d, r, ey, ht⟩ <;> rw [ex, ey]
  · exact Or.inl rfl
  · exact Or.inl rfl
  · exact Or.inl rfl
  · show FP.Core.roundRatio FP.Core.b64 _ _ 1 _ = _ ∨ ∃ s' c' q', FP.Core.roundRatio FP.Core.b64 _ _ 1 _ = _ ∧ _
    have hs0 : 0 ≤ FP.Core.signed s (FP.Core.inUnits c q (min q r)) := by
      rcases hs with rfl | rfl
      · exact Int.natCast_nonneg _
      · unfold FP.Core.inUnits; rw [Nat.zero_mul]; cases s <;> exact Int.le_refl _
    have ht0 : 0 ≤ FP.Core.signed t (FP.Core.inUnits d r (min q r)) := by
      rcases ht with rfl | rfl
      · exact Int.natCast_nonneg _
      · unfold FP.Core.inUnits; rw [Nat.zero_mul]; cases t <;> exact Int.le_refl _
    have hv : 0 ≤ FP.Core.sumUnits s c q t d r (min q r) := Int.add_nonneg hs0 ht0
    generalize FP.Core.sumUnits s c q t d r (min q r) = v at hv ⊢
    by_cases hz : v = 0
    · subst hz
      refine Or.inr ⟨FP.Core.sumSign s t 0, 0, FP.Core.b64.qmin, ?_, Or.inr rfl⟩
      unfold FP.Core.roundRatio
      rw [if_pos (show Int.natAbs 0 = 0 from rfl)]
    · have hsg : FP.Core.sumSign s t v = false := by
        unfold FP.Core.sumSign
        rw [if_neg hz]
        exact decide_eq_false (Int.not_lt.mpr hv)
      rw [hsg]
      rcases rr_cases false v.natAbs 1 (min q r) with h | ⟨c', q', h, -⟩
      · exact Or.inl h
      · exact Or.inr ⟨_, _, _, h, Or.inl rfl⟩
theorem ddiv_ok {x y : UInt64} (hx : dOk x) (hy : dNz y) : dOk (FP.ddiv x y) := by
  unfold dOk at *
  show FP.Core.val64 (FP.Core.ddiv x y) ≠ _
  rw [FP.Core.val64_ddiv]
  obtain ⟨t, d, r, ey, hd⟩ := hy
  rw [ey]
  cases hx0 : FP.Core.val64 x with
  | nan => exact absurd hx0 hx
  | inf s => intro h; cases h
  | fin s c q =>
    show (if d = 0 then _ else FP.Core.roundRatio FP.Core.b64 (s != t) c d (q - r)) ≠ _
    rw [if_neg hd]
    rcases rr_cases (s != t) c d (q - r) with h | ⟨c', q', h, -⟩ <;> (rw [h]; intro h; cases h)
theorem dmul_okz {x y : UInt64} (hx : dOk x) (hy : dNz y) : dOk (FP.dmul x y) := by
  unfold dOk at *
  show FP.Core.val64 (FP.Core.dmul x y) ≠ _
  rw [FP.Core.val64_dmul]
  obtain ⟨t, d, r, ey, hd⟩ := hy
  rw [ey]
  cases hx0 : FP.Core.val64 x with
  | nan => exact absurd hx0 hx
  | inf s =>
    show FP.Core.round FP.Core.b64 (if d = 0 then _ else _) ≠ _
    rw [if_neg hd]
    intro h
    cases h
  | fin s c q =>
    show FP.Core.roundRatio FP.Core.b64 _ _ 1 _ ≠ _
    rcases rr_cases (s != t) (c * d) 1 (q + r) with h | ⟨c', q', h, -⟩ <;> (rw [h]; intro h; cases h)
theorem dmul_okf {x y : UInt64} (hx : dFin x) (hy : dFin y) : dOk (FP.dmul x y) := by
  unfold dOk
  show FP.Core.val64 (FP.Core.dmul x y) ≠ _
  rw [FP.Core.val64_dmul]
  obtain ⟨s, c, q, ex⟩ := hx
  obtain ⟨t, d, r, ey⟩ := hy
  rw [ex, ey]
  show FP.Core.roundRatio FP.Core.b64 _ _ 1 _ ≠ _
  rcases rr_cases (s != t) (c * d) 1 (q + r) with h | ⟨c', q', h, -⟩ <;> (rw [h]; intro h; cases h)
theorem dmul_nn {x y : UInt64} (hx : dFn x) (hy : dFn y) : dNn (FP.dmul x y) := by
  unfold dNn
  show FP.Core.val64 (FP.Core.dmul x y) = _ ∨ ∃ s c q, FP.Core.val64 (FP.Core.dmul x y) = _ ∧ _
  rw [FP.Core.val64_dmul]
  obtain ⟨s, c, q, ex, hs⟩ := hx
  obtain ⟨t, d, r, ey, ht⟩ := hy
  rw [ex, ey]
  show FP.Core.roundRatio FP.Core.b64 _ _ 1 _ = _ ∨ ∃ s' c' q', FP.Core.roundRatio FP.Core.b64 _ _ 1 _ = _ ∧ _
  by_cases hz : c * d = 0
  · rcases rr_cases (s != t) (c * d) 1 (q + r) with h | ⟨c', q', h, h0⟩
    · exfalso
      rw [hz] at h
      unfold FP.Core.roundRatio at h
      rw [if_pos rfl] at h
      cases h
    · exact Or.inr ⟨_, _, _, h, Or.inr (h0 hz)⟩
  · have hs' : s = false := by
      rcases hs with h | h
      · exact h
      · exact absurd (by rw [h, Nat.zero_mul]) hz
    have ht' : t = false := by
      rcases ht with h | h
      · exact h
      · exact absurd (by rw [h, Nat.mul_zero]) hz
    subst hs'
    subst ht'
    rcases rr_cases (false != false) (c * d) 1 (q + r) with h | ⟨c', q', h, -⟩
    · exact Or.inl h
    · exact Or.inr ⟨_, _, _, h, Or.inl rfl⟩
theorem i2d_ok (a : Int32) : dOk (FP.i2d a) := by
  unfold dOk
  show FP.Core.val64 (FP.Core.i2d a) ≠ _
  rw [FP.Core.val64_i2d]
  show FP.Core.roundRatio FP.Core.b64 _ _ 1 _ ≠ _
  rcases rr_cases (decide (a.toInt < 0)) a.toInt.natAbs 1 0 with h | ⟨c', q', h, -⟩ <;> (rw [h]; intro h; cases h)
theorem l2d_ok (a : Int64) : dOk (FP.l2d a) := by
  unfold dOk
  show FP.Core.val64 (FP.Core.l2d a) ≠ _
  rw [FP.Core.val64_l2d]
  show FP.Core.roundRatio FP.Core.b64 _ _ 1 _ ≠ _
  rcases rr_cases (decide (a.toInt < 0)) a.toInt.natAbs 1 0 with h | ⟨c', q', h, -⟩ <;> (rw [h]; intro h; cases h)
/-- by a look at the bits -/
def zB (x : UInt64) : Bool := match FP.Core.val64 x with
  | .fin _ c _ => !(c == 0)
  | _ => false
theorem dNz_of {x : UInt64} (h : zB x = true) : dNz x := by
  unfold zB at h
  unfold dNz
  cases e : FP.Core.val64 x with
  | nan => rw [e] at h; cases h
  | inf s => rw [e] at h; cases h
  | fin s c q =>
    rw [e] at h
    exact ⟨s, c, q, rfl, by simpa using h⟩
theorem nn_0 : dNn FP.dconst0 := Or.inr ⟨_, _, _, FP.Core.val64_dconst0, Or.inl rfl⟩
theorem nz_1 : dNz FP.dconst1 := dNz_of (by decide +kernel)
theorem i2d_nz : ∀ t, t < 1001 → 0 < t → dNz (FP.i2d (nI t)) := by
  have h : (List.range 1001).all (fun t => t == 0 || zB (FP.i2d (nI t))) = true := by decide +kernel
  intro t h1 h2
  have h3 := List.all_eq_true.mp h t (List.mem_range.mpr h1)
  rcases Bool.or_eq_true _ _ |>.mp h3 with h4 | h4
  · have : t = 0 := by simpa using h4
    omega
  · exact dNz_of h4
/-- adding 0.0 to what isn't below zero, and isn't -0.0 -/
def dPz (x : UInt64) : Prop := dNn x ∧ x ≠ FP.Core.dzeroNeg
theorem dadd_0 {x : UInt64} (h : dPz x) : FP.dadd x FP.dconst0 = x := FP.Core.dadd_zero h.1.ok h.2
theorem pz_0 : dPz FP.dconst0 := ⟨nn_0, by decide +kernel⟩
theorem dadd_pz {x y : UInt64} (hx : dPz x) (hy : dNn y) : dPz (FP.dadd x y) := by
  refine ⟨dadd_nn hx.1 hy, fun h => ?_⟩
  have e := FP.Core.val64_dadd x y
  have h' : FP.Core.dadd x y = FP.Core.dzeroNeg := h
  rw [h', FP.Core.val64_dzeroNeg] at e
  rcases hx.1 with ex | ⟨s, c, q, ex, hs⟩ <;> rcases hy with ey | ⟨t, d, r, ey, ht⟩ <;> rw [ex, ey] at e
  · cases e
  · cases e
  · cases e
  · have e : FP.Core.Datum.fin true 0 FP.Core.b64.qmin = FP.Core.roundRatio FP.Core.b64 (FP.Core.sumSign s t (FP.Core.sumUnits s c q t d r (min q r))) (FP.Core.sumUnits s c q t d r (min q r)).natAbs 1 (min q r) := e
    have hs0 : 0 ≤ FP.Core.signed s (FP.Core.inUnits c q (min q r)) := by
      rcases hs with rfl | rfl
      · exact Int.natCast_nonneg _
      · unfold FP.Core.inUnits; rw [Nat.zero_mul]; cases s <;> exact Int.le_refl _
    have ht0 : 0 ≤ FP.Core.signed t (FP.Core.inUnits d r (min q r)) := by
      rcases ht with rfl | rfl
      · exact Int.natCast_nonneg _
      · unfold FP.Core.inUnits; rw [Nat.zero_mul]; cases t <;> exact Int.le_refl _
    have hsgn : FP.Core.sumSign s t (FP.Core.sumUnits s c q t d r (min q r)) = true := by
      rcases rr_cases (FP.Core.sumSign s t (FP.Core.sumUnits s c q t d r (min q r))) (FP.Core.sumUnits s c q t d r (min q r)).natAbs 1 (min q r) with h1 | ⟨c', q', h1, -⟩
      · rw [h1] at e
        cases e
      · rw [h1] at e
        injection e with e1 e2 e3
        exact e1.symm
    have hv : 0 ≤ FP.Core.sumUnits s c q t d r (min q r) := Int.add_nonneg hs0 ht0
    unfold FP.Core.sumSign at hsgn
    split at hsgn
    · rename_i hz
      have hst := hsgn
      simp only [Bool.and_eq_true] at hst
      obtain ⟨rfl, rfl⟩ := hst
      have hc : c = 0 := by
        rcases hs with h1 | h1
        · cases h1
        · exact h1
      subst hc
      have hq : q = FP.Core.b64.qmin := FP.Core.fits_zero_q FP.Core.good_b64 (s := true) (by rw [← ex]; exact FP.Core.val64_fits x)
      subst hq
      exact hx.2 (FP.Core.val64_inj (by rw [ex]; intro h; cases h) (by rw [ex, FP.Core.val64_dzeroNeg]))
    · have := of_decide_eq_true hsgn
      omega
end
section
abbrev rm (f c s w : Nat) : Room := { frames := f, cells := c, slots := s, locals := w }
/-- a double within its bounds, as both sides ask it -/
def wi (v a b : UInt64) : Int32 := if Op.cmpValue (FP.dcmp v a) .l < 0 then 0 else if 0 < Op.cmpValue (FP.dcmp v b) .g then 0 else 1
set_option maxHeartbeats 4000000 in
set_option maxRecDepth 100000 in
theorem c_9_within (l : Launch) (S : St) (v a b : UInt64)  : Ct l yX9_within cX9_within 6 (some .boolean) (rm 0 0 0 0) [.double v, .double a, .double b] S (fun r S' => r = some (.int (wi v a b)) ∧ S' = S) := by
  refine Ct.of (by decide) (Nat.le_of_ble_eq_true rfl) (fun X hM => ?_)
  have hO := hM.1
  obtain rfl := hM.l
  show Jg X 0 0 S 0 [(0, .double v), (2, .double a), (4, .double b)] []
  refine j_dload_n (q := 1) hO dX9_within_0 rfl rfl ?_
  refine j_dload_n (q := 2) hO dX9_within_1 rfl rfl ?_
  refine j_dcmp (q := 3) hO dX9_within_2 rfl ?_
  refine j_if_lt (tgt := 17) (q := 6) hO dX9_within_3 rfl (by decide) (fun c_3_0 => ?_) (fun c_3_0 => ?_)
  · refine j_iconst (v := 0) (q := 18) hO dX9_within_17 rfl (by decide) ?_
    exact j_zret hM dX9_within_18 (Nat.le_of_ble_eq_true rfl) (Nat.le_of_ble_eq_true rfl) (by decide) ⟨by unfold wi; simp [*], rfl⟩
  · refine j_dload_n (q := 7) hO dX9_within_6 rfl rfl ?_
    refine j_dload (q := 9) hO dX9_within_7 rfl rfl ?_
    refine j_dcmp (q := 10) hO dX9_within_9 rfl ?_
    refine j_if_gt (tgt := 17) (q := 13) hO dX9_within_10 rfl (by decide) (fun c_10_1 => ?_) (fun c_10_1 => ?_)
    · refine j_iconst (v := 0) (q := 18) hO dX9_within_17 rfl (by decide) ?_
      exact j_zret hM dX9_within_18 (Nat.le_of_ble_eq_true rfl) (Nat.le_of_ble_eq_true rfl) (by decide) ⟨by unfold wi; simp [*], rfl⟩
    · refine j_iconst (v := 1) (q := 14) hO dX9_within_13 rfl (by decide) ?_
      refine j_goto (tgt := 18) hO dX9_within_14 (by decide) ?_
      exact j_zret hM dX9_within_18 (Nat.le_of_ble_eq_true rfl) (Nat.le_of_ble_eq_true rfl) (by decide) ⟨by unfold wi; simp [*], rfl⟩
set_option maxHeartbeats 4000000 in
set_option maxRecDepth 100000 in
theorem c_10_isIn (l : Launch) (S : St) (v a b : UInt64)  : Ct l yX10_isIn cX10_isIn 6 (some .boolean) (rm 0 0 0 0) [.double v, .double a, .double b] S (fun r S' => r = some (.int (wi v a b)) ∧ S' = S) := by
  refine Ct.of (by decide) (Nat.le_of_ble_eq_true rfl) (fun X hM => ?_)
  have hO := hM.1
  obtain rfl := hM.l
  show Jg X 0 0 S 0 [(0, .double v), (2, .double a), (4, .double b)] []
  refine j_dload_n (q := 1) hO dX10_isIn_0 rfl rfl ?_
  refine j_dload_n (q := 2) hO dX10_isIn_1 rfl rfl ?_
  refine j_dcmp (q := 3) hO dX10_isIn_2 rfl ?_
  refine j_if_lt (tgt := 17) (q := 6) hO dX10_isIn_3 rfl (by decide) (fun c_3_0 => ?_) (fun c_3_0 => ?_)
  · refine j_iconst (v := 0) (q := 18) hO dX10_isIn_17 rfl (by decide) ?_
    exact j_zret hM dX10_isIn_18 (Nat.le_of_ble_eq_true rfl) (Nat.le_of_ble_eq_true rfl) (by decide) ⟨by unfold wi; simp [*], rfl⟩
  · refine j_dload_n (q := 7) hO dX10_isIn_6 rfl rfl ?_
    refine j_dload (q := 9) hO dX10_isIn_7 rfl rfl ?_
    refine j_dcmp (q := 10) hO dX10_isIn_9 rfl ?_
    refine j_if_gt (tgt := 17) (q := 13) hO dX10_isIn_10 rfl (by decide) (fun c_10_1 => ?_) (fun c_10_1 => ?_)
    · refine j_iconst (v := 0) (q := 18) hO dX10_isIn_17 rfl (by decide) ?_
      exact j_zret hM dX10_isIn_18 (Nat.le_of_ble_eq_true rfl) (Nat.le_of_ble_eq_true rfl) (by decide) ⟨by unfold wi; simp [*], rfl⟩
    · refine j_iconst (v := 1) (q := 14) hO dX10_isIn_13 rfl (by decide) ?_
      refine j_goto (tgt := 18) hO dX10_isIn_14 (by decide) ?_
      exact j_zret hM dX10_isIn_18 (Nat.le_of_ble_eq_true rfl) (Nat.le_of_ble_eq_true rfl) (by decide) ⟨by unfold wi; simp [*], rfl⟩
def ik (x : Int32) : Int32 := if x < 0 then 0 else if 5 ≤ x then 0 else 1
set_option maxHeartbeats 4000000 in
set_option maxRecDepth 100000 in
theorem c_9_isKind (l : Launch) (S : St) (x : Int32)  : Ct l yX9_isKind cX9_isKind 1 (some .boolean) (rm 0 0 0 0) [.int x] S (fun r S' => r = some (.int (ik x)) ∧ S' = S) := by
  refine Ct.of (by decide) (Nat.le_of_ble_eq_true rfl) (fun X hM => ?_)
  have hO := hM.1
  obtain rfl := hM.l
  show Jg X 0 0 S 0 [(0, .int x)] []
  refine j_iload_n (q := 1) hO dX9_isKind_0 rfl rfl ?_
  refine j_if_lt (tgt := 13) (q := 4) hO dX9_isKind_1 rfl (by decide) (fun c_1_0 => ?_) (fun c_1_0 => ?_)
  · refine j_iconst (v := 0) (q := 14) hO dX9_isKind_13 rfl (by decide) ?_
    exact j_zret hM dX9_isKind_14 (Nat.le_of_ble_eq_true rfl) (Nat.le_of_ble_eq_true rfl) (by decide) ⟨by unfold ik; simp [*], rfl⟩
  · refine j_iload_n (q := 5) hO dX9_isKind_4 rfl rfl ?_
    refine j_iconst (v := 5) (q := 6) hO dX9_isKind_5 rfl (by decide) ?_
    refine j_icmp_ge (tgt := 13) (q := 9) hO dX9_isKind_6 rfl (by decide) (fun c_6_1 => ?_) (fun c_6_1 => ?_)
    · refine j_iconst (v := 0) (q := 14) hO dX9_isKind_13 rfl (by decide) ?_
      exact j_zret hM dX9_isKind_14 (Nat.le_of_ble_eq_true rfl) (Nat.le_of_ble_eq_true rfl) (by decide) ⟨by unfold ik; simp [*], rfl⟩
    · refine j_iconst (v := 1) (q := 10) hO dX9_isKind_9 rfl (by decide) ?_
      refine j_goto (tgt := 14) hO dX9_isKind_10 (by decide) ?_
      exact j_zret hM dX9_isKind_14 (Nat.le_of_ble_eq_true rfl) (Nat.le_of_ble_eq_true rfl) (by decide) ⟨by unfold ik; simp [*], rfl⟩
set_option maxHeartbeats 4000000 in
set_option maxRecDepth 100000 in
theorem c_9_isClosed (l : Launch) (S : St)  (h9 : 0 < sC S 9) : Ct l yX9_isClosed cX9_isClosed 1 (some .boolean) (rm 0 0 0 0) [.ref (sA S 9 0)] S (fun r S' => r = some (.int (if sI S 9 0 15 ≤ 0 then 0 else 1)) ∧ S' = S) := by
  refine Ct.of (by decide) (Nat.le_of_ble_eq_true rfl) (fun X hM => ?_)
  have hO := hM.1
  obtain rfl := hM.l
  show Jg X 0 0 S 0 [(0, .ref (sA S 9 0))] []
  refine j_aload_n (q := 1) hO dX9_isClosed_0 rfl rfl ?_
  refine j_getI (x := 9) (j := 15) (q := 4) hO CK_9 dX9_isClosed_1 rfl mw_87 rfl (by assumption) rfl rfl (by decide) (Or.inl rfl) ?_
  refine j_if_le (tgt := 11) (q := 7) hO dX9_isClosed_4 rfl (by decide) (fun c_4_0 => ?_) (fun c_4_0 => ?_)
  · refine j_iconst (v := 0) (q := 12) hO dX9_isClosed_11 rfl (by decide) ?_
    exact j_zret hM dX9_isClosed_12 (Nat.le_of_ble_eq_true rfl) (Nat.le_of_ble_eq_true rfl) (by decide) ⟨by simp [*], rfl⟩
  · refine j_iconst (v := 1) (q := 8) hO dX9_isClosed_7 rfl (by decide) ?_
    refine j_goto (tgt := 12) hO dX9_isClosed_8 (by decide) ?_
    exact j_zret hM dX9_isClosed_12 (Nat.le_of_ble_eq_true rfl) (Nat.le_of_ble_eq_true rfl) (by decide) ⟨by simp [*], rfl⟩
set_option maxHeartbeats 4000000 in
set_option maxRecDepth 100000 in
theorem c_10_isOpen (l : Launch) (S : St)  (h10 : 0 < sC S 10) : Ct l yX10_isOpen cX10_isOpen 1 (some .boolean) (rm 0 0 0 0) [.ref (sA S 10 0)] S (fun r S' => r = some (.int (if sI S 10 0 26 = 0 then 1 else 0)) ∧ S' = S) := by
  refine Ct.of (by decide) (Nat.le_of_ble_eq_true rfl) (fun X hM => ?_)
  have hO := hM.1
  obtain rfl := hM.l
  show Jg X 0 0 S 0 [(0, .ref (sA S 10 0))] []
  refine j_aload_n (q := 1) hO dX10_isOpen_0 rfl rfl ?_
  refine j_getI (x := 10) (j := 26) (q := 4) hO CK_10 dX10_isOpen_1 rfl mw_524 rfl (by assumption) rfl rfl (by decide) (Or.inl rfl) ?_
  refine j_if_ne (tgt := 11) (q := 7) hO dX10_isOpen_4 rfl (by decide) (fun c_4_0 => ?_) (fun c_4_0 => ?_)
  · refine j_iconst (v := 0) (q := 12) hO dX10_isOpen_11 rfl (by decide) ?_
    exact j_zret hM dX10_isOpen_12 (Nat.le_of_ble_eq_true rfl) (Nat.le_of_ble_eq_true rfl) (by decide) ⟨by simp [*], rfl⟩
  · refine j_iconst (v := 1) (q := 8) hO dX10_isOpen_7 rfl (by decide) ?_
    refine j_goto (tgt := 12) hO dX10_isOpen_8 (by decide) ?_
    exact j_zret hM dX10_isOpen_12 (Nat.le_of_ble_eq_true rfl) (Nat.le_of_ble_eq_true rfl) (by decide) ⟨by simp [*], rfl⟩
set_option maxHeartbeats 4000000 in
set_option maxRecDepth 100000 in
theorem c_10_isBelt (l : Launch) (S : St) (b : Int32) (h10 : 0 < sC S 10) : Ct l yX10_isBelt cX10_isBelt 2 (some .boolean) (rm 0 0 0 0) [.ref (sA S 10 0), .int b] S (fun r S' => r = some (.int (if b < 0 then 0 else if sI S 10 0 1 ≤ b then 0 else 1)) ∧ S' = S) := by
  refine Ct.of (by decide) (Nat.le_of_ble_eq_true rfl) (fun X hM => ?_)
  have hO := hM.1
  obtain rfl := hM.l
  show Jg X 0 0 S 0 [(0, .ref (sA S 10 0)), (1, .int b)] []
  refine j_iload_n (q := 1) hO dX10_isBelt_0 rfl rfl ?_
  refine j_if_lt (tgt := 16) (q := 4) hO dX10_isBelt_1 rfl (by decide) (fun c_1_0 => ?_) (fun c_1_0 => ?_)
  · refine j_iconst (v := 0) (q := 17) hO dX10_isBelt_16 rfl (by decide) ?_
    exact j_zret hM dX10_isBelt_17 (Nat.le_of_ble_eq_true rfl) (Nat.le_of_ble_eq_true rfl) (by decide) ⟨by simp [*], rfl⟩
  · refine j_iload_n (q := 5) hO dX10_isBelt_4 rfl rfl ?_
    refine j_aload_n (q := 6) hO dX10_isBelt_5 rfl rfl ?_
    refine j_getI (x := 10) (j := 1) (q := 9) hO CK_10 dX10_isBelt_6 rfl mw_499 rfl (by assumption) rfl rfl (by decide) (Or.inl rfl) ?_
    refine j_icmp_ge (tgt := 16) (q := 12) hO dX10_isBelt_9 rfl (by decide) (fun c_9_1 => ?_) (fun c_9_1 => ?_)
    · refine j_iconst (v := 0) (q := 17) hO dX10_isBelt_16 rfl (by decide) ?_
      exact j_zret hM dX10_isBelt_17 (Nat.le_of_ble_eq_true rfl) (Nat.le_of_ble_eq_true rfl) (by decide) ⟨by simp [*], rfl⟩
    · refine j_iconst (v := 1) (q := 13) hO dX10_isBelt_12 rfl (by decide) ?_
      refine j_goto (tgt := 17) hO dX10_isBelt_13 (by decide) ?_
      exact j_zret hM dX10_isBelt_17 (Nat.le_of_ble_eq_true rfl) (Nat.le_of_ble_eq_true rfl) (by decide) ⟨by simp [*], rfl⟩
end
section
/-! WHAT THE LINE DOES, on the abstract state -/
def us (x : Int64) (k : Int32) : Int64 := (x.toUInt64 >>> (k.toInt64.toUInt64 &&& Int64.toUInt64 63)).toInt64
def ch0 (z : Int64) (p d : Int32) : Int64 := z * 6364136223846793005 + p.toInt64 * 1442695040888963407 + d.toInt64 * 2862933555777941757
def ch1 (x : Int64) : Int64 := (x ^^^ us x 29) * (-4658895280553007687)
def ch2 (x : Int64) : Int64 := x ^^^ us x 32
/-- the chance of a piece at a device -/
def chF (z : Int64) (p d : Int32) : UInt64 := FP.ddiv (FP.l2d (us (ch2 (ch1 (ch0 z p d))) 11)) 4845873199050653696
def nn (x : Int32) : Nat := x.toNatClampNeg
/-- an event is noted -/
def noteF (α : Al) (p w h : Int32) : Al :=
  if 2000 ≤ aI α 0 36 then qI α 0 36 (aI α 0 36 + 1)
  else qI (qI (qI (qI (qI α 29 (4 * nn (aI α 0 36)) (aI α 0 35)) 29 (4 * nn (aI α 0 36) + 1) p) 29 (4 * nn (aI α 0 36) + 2) w) 29 (4 * nn (aI α 0 36) + 3) h) 0 36 (aI α 0 36 + 1)
def loseF (α : Al) (p c : Nat) (w h : Int32) : Al := noteF (qJ (qI α 25 p 5) 31 c (aJ α 31 c + 1)) (nI p) w h
/-- on a belt -/
def onB (α : Al) (b : Int32) (j : Nat) : Prop := aI α 25 j = 1 ∧ aI α 26 j = b
theorem onB_dec (α : Al) (b : Int32) (j : Nat) : onB α b j ∨ ¬ onB α b j := Classical.em _
/-- the sizes on a belt, and one more piece's, added up by numbers -/
def szF (α : Al) (b w : Int32) : Nat → UInt64
  | 0 => FP.dconst0
  | j + 1 => FP.dadd (szF α b w j) (if nI j = w ∨ (aI α 25 j = 1 ∧ aI α 26 j = b) then aD α 22 j else FP.dconst0)
def pcF (α : Al) (b : Int32) : Nat → Nat
  | 0 => 0
  | j + 1 => pcF α b j + (if aI α 25 j = 1 ∧ aI α 26 j = b then 1 else 0)
/-- how many pieces are in a state -/
def ctF (α : Al) (s : Int32) : Nat → Nat
  | 0 => 0
  | j + 1 => ctF α s j + (if aI α 25 j = s then 1 else 0)
/-- the first h heads, for a piece -/
def passL (α : Al) (p : Nat) : Nat → Al
  | 0 => α
  | h + 1 => if aI (passL α p h) 8 h = aI (passL α p h) 26 p ∧ aI (passL α p h) 9 h = aI (passL α p h) 27 p then noteF (passL α p h) (nI p) (if 0 ≤ Op.cmpValue (FP.dcmp (chF (aJ (passL α p h) 0 0) (nI p) (nI h)) (aD (passL α p h) 10 h)) .g then 1 else 2) (nI h) else passL α p h
def passF (α : Al) (p : Nat) : Al := passL α p (nn (aI α 0 9))
theorem qI_I {α : Al} {a j b z : Nat} {v : Int32} (h : ¬ (b = a ∧ z = j)) : aI (qI α a j v) b z = aI α b z := u2_ne h
theorem qI_s {α : Al} {a j : Nat} {v : Int32} : aI (qI α a j v) a j = v := u2_self
theorem qJ_J {α : Al} {a j b z : Nat} {v : Int64} (h : ¬ (b = a ∧ z = j)) : aJ (qJ α a j v) b z = aJ α b z := u2_ne h
theorem qJ_s {α : Al} {a j : Nat} {v : Int64} : aJ (qJ α a j v) a j = v := u2_self
theorem qD_D {α : Al} {a j b z : Nat} {v : UInt64} (h : ¬ (b = a ∧ z = j)) : aD (qD α a j v) b z = aD α b z := u2_ne h
theorem qD_s {α : Al} {a j : Nat} {v : UInt64} : aD (qD α a j v) a j = v := u2_self
theorem noteF_I {α : Al} {p w h : Int32} {k j : Nat} (h1 : k ≠ 29) (h2 : ¬ (k = 0 ∧ j = 36)) : aI (noteF α p w h) k j = aI α k j := by
  unfold noteF
  split
  · exact qI_I h2
  · rw [qI_I h2, qI_I (fun q => h1 q.1), qI_I (fun q => h1 q.1), qI_I (fun q => h1 q.1), qI_I (fun q => h1 q.1)]
theorem noteF_J {α : Al} {p w h : Int32} : aJ (noteF α p w h) = aJ α := by
  unfold noteF
  split <;> rfl
theorem noteF_D {α : Al} {p w h : Int32} : aD (noteF α p w h) = aD α := by
  unfold noteF
  split <;> rfl
theorem noteF_t {α : Al} {p w h : Int32} : aI (noteF α p w h) 0 36 = aI α 0 36 + 1 := by
  unfold noteF
  split <;> exact qI_s
/-- at most n events so far -/
def TT (α : Al) (n : Nat) : Prop := ∃ t, aI α 0 36 = nI t ∧ t ≤ n
theorem TT.note {α : Al} {n : Nat} {p w h : Int32} (H : TT α n) : TT (noteF α p w h) (n + 1) := by
  obtain ⟨t, h1, h2⟩ := H
  exact ⟨t + 1, by rw [noteF_t, h1]; exact nI_1 t, by omega⟩
theorem TT.mono {α : Al} {n m : Nat} (H : TT α n) (h : n ≤ m) : TT α m := by
  obtain ⟨t, h1, h2⟩ := H
  exact ⟨t, h1, Nat.le_trans h2 h⟩
theorem TT.same {α β : Al} {n : Nat} (H : TT α n) (h : aI β 0 36 = aI α 0 36) : TT β n := by
  obtain ⟨t, h1, h2⟩ := H
  exact ⟨t, h.trans h1, h2⟩
theorem passL_I {α : Al} {p k j : Nat} (h1 : k ≠ 29) (h2 : ¬ (k = 0 ∧ j = 36)) : ∀ h, aI (passL α p h) k j = aI α k j
  | 0 => rfl
  | h + 1 => by
    unfold passL
    split
    · rw [noteF_I h1 h2, passL_I h1 h2 h]
    · exact passL_I h1 h2 h
theorem passL_J {α : Al} {p : Nat} : ∀ h, aJ (passL α p h) = aJ α
  | 0 => rfl
  | h + 1 => by
    unfold passL
    split
    · rw [noteF_J, passL_J h]
    · exact passL_J h
theorem passL_D {α : Al} {p : Nat} : ∀ h, aD (passL α p h) = aD α
  | 0 => rfl
  | h + 1 => by
    unfold passL
    split
    · rw [noteF_D, passL_D h]
    · exact passL_D h
theorem passL_T {α : Al} {p n : Nat} (H : TT α n) : ∀ h, TT (passL α p h) (n + h)
  | 0 => H
  | h + 1 => by
    unfold passL
    split
    · exact (passL_T H h).note
    · exact (passL_T H h).mono (by omega)
theorem ix4 (t i : Nat) : (4 : Int32) * nI t + nI i = nI (4 * t + i) := by
  rw [show (4 : Int32) = nI 4 from rfl, pk_mul, nI_add]
theorem ix40 (t : Nat) : (4 : Int32) * nI t = nI (4 * t) := pk_mul 4 t
theorem nI_S (h : Nat) : nI h + Int32.ofInt 1 = nI (h + 1) := nI_1 h
theorem szF_pz {α : Al} {b w : Int32} {n : Nat} (h : ∀ j, j < n → dNn (aD α 22 j)) : ∀ j, j ≤ n → dPz (szF α b w j)
  | 0, _ => pz_0
  | j + 1, hj => by
    unfold szF
    refine dadd_pz (szF_pz h j (by omega)) ?_
    split
    · exact h j (by omega)
    · exact nn_0
theorem pcF_le {α : Al} {b : Int32} : ∀ j, pcF α b j ≤ j
  | 0 => Nat.le_refl _
  | j + 1 => by
    unfold pcF
    have := pcF_le (α := α) (b := b) j
    split <;> omega
theorem ctF_le {α : Al} {s : Int32} : ∀ j, ctF α s j ≤ j
  | 0 => Nat.le_refl _
  | j + 1 => by
    unfold ctF
    have := ctF_le (α := α) (s := s) j
    split <;> omega
/-- a loop's own test: h against a count -/
theorem lt_of_nge {h n : Nat} {v : Int32} (hv : v = nI n) (hh : h < 2 ^ 31) (c : ¬ v ≤ nI h) : h < n := by
  rcases Nat.lt_or_ge h n with q | q
  · exact q
  · exact absurd (by rw [hv]; exact nI_le q hh) c
theorem ge_of_le {h n : Nat} {v : Int32} (hv : v = nI n) (hn : n < 2 ^ 31) (c : v ≤ nI h) (hle : h ≤ n) : h = n := by
  rcases Nat.lt_or_ge h n with q | q
  · exact absurd (by rw [hv] at c; exact c) (nI_ge q hn)
  · omega
theorem ct_s1 {α : Al} {s : Int32} {h : Nat} (c : aI α 25 h = s) : nI (ctF α s h) + 1 = nI (ctF α s (h + 1)) := by
  rw [show ctF α s (h + 1) = ctF α s h + 1 from by rw [ctF, if_pos c]]
  exact nI_1 _
theorem ct_s0 {α : Al} {s : Int32} {h : Nat} (c : ¬ aI α 25 h = s) : nI (ctF α s h) + 0 = nI (ctF α s (h + 1)) := by
  rw [show ctF α s (h + 1) = ctF α s h + 0 from by rw [ctF, if_neg c]]
  exact nI_add _ 0
theorem pc_s1 {α : Al} {b : Int32} {h : Nat} (c : aI α 25 h = 1 ∧ aI α 26 h = b) : nI (pcF α b h) + 1 = nI (pcF α b (h + 1)) := by
  rw [show pcF α b (h + 1) = pcF α b h + 1 from by rw [pcF, if_pos c]]
  exact nI_1 _
theorem pc_s0 {α : Al} {b : Int32} {h : Nat} (c : ¬ (aI α 25 h = 1 ∧ aI α 26 h = b)) : nI (pcF α b h) + 0 = nI (pcF α b (h + 1)) := by
  rw [show pcF α b (h + 1) = pcF α b h + 0 from by rw [pcF, if_neg c]]
  exact nI_add _ 0
theorem sz_s1 {α : Al} {b w : Int32} {h : Nat} (c : nI h = w ∨ (aI α 25 h = 1 ∧ aI α 26 h = b)) : FP.dadd (szF α b w h) (aD α 22 h) = szF α b w (h + 1) := by
  rw [szF, if_pos c]
theorem sz_s0 {α : Al} {b w : Int32} {h : Nat} (c1 : ¬ nI h = w) (c2 : ¬ (aI α 25 h = 1 ∧ aI α 26 h = b)) : FP.dadd (szF α b w h) FP.dconst0 = szF α b w (h + 1) := by
  rw [szF, if_neg (fun z => z.elim c1 c2)]
theorem pass_y {α : Al} {p h : Nat} (c1 : aI (passL α p h) 8 h = aI (passL α p h) 26 p) (c2 : aI (passL α p h) 9 h = aI (passL α p h) 27 p) : passL α p (h + 1) = noteF (passL α p h) (nI p) (if 0 ≤ Op.cmpValue (FP.dcmp (chF (aJ (passL α p h) 0 0) (nI p) (nI h)) (aD (passL α p h) 10 h)) .g then 1 else 2) (nI h) := by
  rw [passL, if_pos ⟨c1, c2⟩]
theorem pass_s {α : Al} {p h : Nat} (c : ¬ (aI (passL α p h) 8 h = aI (passL α p h) 26 p ∧ aI (passL α p h) 9 h = aI (passL α p h) 27 p)) : passL α p (h + 1) = passL α p h := by
  rw [passL, if_neg c]
theorem pass_y1 {α : Al} {p h : Nat} (c1 : aI (passL α p h) 8 h = aI (passL α p h) 26 p) (c2 : aI (passL α p h) 9 h = aI (passL α p h) 27 p) (c3 : 0 ≤ Op.cmpValue (FP.dcmp (chF (aJ (passL α p h) 0 0) (nI p) (nI h)) (aD (passL α p h) 10 h)) .g) : passL α p (h + 1) = noteF (passL α p h) (nI p) 1 (nI h) := by
  rw [pass_y c1 c2, if_pos c3]
theorem pass_y2 {α : Al} {p h : Nat} (c1 : aI (passL α p h) 8 h = aI (passL α p h) 26 p) (c2 : aI (passL α p h) 9 h = aI (passL α p h) 27 p) (c3 : ¬ 0 ≤ Op.cmpValue (FP.dcmp (chF (aJ (passL α p h) 0 0) (nI p) (nI h)) (aD (passL α p h) 10 h)) .g) : passL α p (h + 1) = noteF (passL α p h) (nI p) 2 (nI h) := by
  rw [pass_y c1 c2, if_neg c3]
end
section
set_option maxHeartbeats 4000000 in
set_option maxRecDepth 100000 in
theorem c_10_chance (l : Launch) (S : St) (α : Al) (p d : Int32) (hm : MSh S) : Ct l yX10_chance cX10_chance 5 (some .double) (rm 0 0 0 0) [.ref (sA S 10 0), .int p, .int d] (wr S α) (fun r S' => r = some (.double (chF (aJ α 0 0) p d)) ∧ S' = wr S α) := by
  refine Ct.of (by decide) (Nat.le_of_ble_eq_true rfl) (fun X hM => ?_)
  have hO := hM.1
  obtain rfl := hM.l
  show Jg X 0 0 (wr S α) 0 [(0, .ref (sA S 10 0)), (1, .int p), (2, .int d)] []
  refine j_aload_n (q := 1) hO dX10_chance_0 rfl rfl ?_
  refine m_getJ (j := 0) (q := 4) hO hm dX10_chance_1 rfl mw_498 (by decide) rfl ?_
  refine j_ldc2 (q := 7) hO dX10_chance_4 rfl mw_721 ?_
  refine j_lmul (q := 8) hO dX10_chance_7 rfl ?_
  refine j_iload_n (q := 9) hO dX10_chance_8 rfl rfl ?_
  refine j_i2l (q := 10) hO dX10_chance_9 rfl ?_
  refine j_ldc2 (q := 13) hO dX10_chance_10 rfl mw_722 ?_
  refine j_lmul (q := 14) hO dX10_chance_13 rfl ?_
  refine j_ladd (q := 15) hO dX10_chance_14 rfl ?_
  refine j_iload_n (q := 16) hO dX10_chance_15 rfl rfl ?_
  refine j_i2l (q := 17) hO dX10_chance_16 rfl ?_
  refine j_ldc2 (q := 20) hO dX10_chance_17 rfl mw_723 ?_
  refine j_lmul (q := 21) hO dX10_chance_20 rfl ?_
  refine j_ladd (q := 22) hO dX10_chance_21 rfl ?_
  refine j_lstore_n (q := 23) hO dX10_chance_22 rfl (by rw [hM.nL]; decide) rfl ?_
  refine j_lload_n (q := 24) hO dX10_chance_23 rfl rfl ?_
  refine j_lload_n (q := 25) hO dX10_chance_24 rfl rfl ?_
  refine j_bipush (v := 29) (q := 27) hO dX10_chance_25 rfl (by decide) ?_
  refine j_lushr (q := 28) hO dX10_chance_27 rfl ?_
  refine j_lxor (q := 29) hO dX10_chance_28 rfl ?_
  refine j_ldc2 (q := 32) hO dX10_chance_29 rfl mw_724 ?_
  refine j_lmul (q := 33) hO dX10_chance_32 rfl ?_
  refine j_lstore_n (q := 34) hO dX10_chance_33 rfl (by rw [hM.nL]; decide) rfl ?_
  refine j_lload_n (q := 35) hO dX10_chance_34 rfl rfl ?_
  refine j_lload_n (q := 36) hO dX10_chance_35 rfl rfl ?_
  refine j_bipush (v := 32) (q := 38) hO dX10_chance_36 rfl (by decide) ?_
  refine j_lushr (q := 39) hO dX10_chance_38 rfl ?_
  refine j_lxor (q := 40) hO dX10_chance_39 rfl ?_
  refine j_lstore_n (q := 41) hO dX10_chance_40 rfl (by rw [hM.nL]; decide) rfl ?_
  refine j_lload_n (q := 42) hO dX10_chance_41 rfl rfl ?_
  refine j_bipush (v := 11) (q := 44) hO dX10_chance_42 rfl (by decide) ?_
  refine j_lushr (q := 45) hO dX10_chance_44 rfl ?_
  refine j_l2d (q := 46) hO dX10_chance_45 rfl ?_
  refine j_ldc2d (q := 49) hO dX10_chance_46 rfl mw_725 ?_
  refine j_ddiv (q := 50) hO dX10_chance_49 rfl (n64_of (ddiv_ok (l2d_ok _) (dNz_of (by decide +kernel)))) ?_
  exact j_dret hM dX10_chance_50 (Nat.le_of_ble_eq_true rfl) (Nat.le_of_ble_eq_true rfl) ⟨rfl, rfl⟩
set_option maxHeartbeats 4000000 in
set_option maxRecDepth 100000 in
theorem c_10_note (l : Launch) (S : St) (α : Al) (n : Nat) (p w h : Int32) (hm : MSh S) (hT : TT α n) (hn : n < 2 ^ 30) : Ct l yX10_note cX10_note 4 (none : Option Jvm.ClassFile.FieldType) (rm 0 0 0 0) [.ref (sA S 10 0), .int p, .int w, .int h] (wr S α) (fun r S' => r = none ∧ S' = wr S (noteF α p w h)) := by
  refine Ct.of (by decide) (Nat.le_of_ble_eq_true rfl) (fun X hM => ?_)
  have hO := hM.1
  obtain rfl := hM.l
  obtain ⟨t, ht, htn⟩ := hT
  show Jg X 0 0 (wr S α) 0 [(0, .ref (sA S 10 0)), (1, .int p), (2, .int w), (3, .int h)] []
  refine j_aload_n (q := 1) hO dX10_note_0 rfl rfl ?_
  refine m_getI (j := 36) (q := 4) hO hm dX10_note_1 rfl mw_534 (by decide) rfl ?_
  refine j_sipush (v := 2000) (q := 7) hO dX10_note_4 rfl (by decide) ?_
  refine j_icmp_ge (tgt := 67) (q := 10) hO dX10_note_7 rfl (by decide) (fun c7 => ?_) (fun c7 => ?_)
  · refine j_aload_n (q := 68) hO dX10_note_67 rfl rfl ?_
    refine j_dup (q := 69) hO dX10_note_68 rfl rfl ?_
    refine m_getI (j := 36) (q := 72) hO hm dX10_note_69 rfl mw_534 (by decide) rfl ?_
    refine j_iconst (v := 1) (q := 73) hO dX10_note_72 rfl (by decide) ?_
    refine j_iadd (q := 74) hO dX10_note_73 rfl ?_
    refine m_putI (j := 36) (q := 77) hO hm dX10_note_74 rfl mw_534 (by decide) rfl rfl (by decide +kernel) ?_
    exact j_vret hM dX10_note_77 (Nat.le_of_ble_eq_true rfl) (Nat.le_of_ble_eq_true rfl) ⟨rfl, by unfold noteF; first | (rw [if_pos c7]; done) | (rw [if_neg c7, show nn (aI α 0 36) = t from by rw [ht]; exact nI_clamp (by omega)]; rfl)⟩
  · have hlt : t < 2000 := by
      rcases Nat.lt_or_ge t 2000 with h | h
      · exact h
      · exact absurd (by rw [ht]; exact nI_le h (by omega)) c7
    refine j_aload_n (q := 11) hO dX10_note_10 rfl rfl ?_
    refine m_getA (j := 37) (x := 48) (q := 14) hO hm dX10_note_11 rfl mw_535 (by decide) rfl rfl ?_
    refine j_iconst (v := 4) (q := 15) hO dX10_note_14 rfl (by decide) ?_
    refine j_aload_n (q := 16) hO dX10_note_15 rfl rfl ?_
    refine m_getI (j := 36) (q := 19) hO hm dX10_note_16 rfl mw_534 (by decide) rfl ?_
    refine j_imul (q := 20) hO dX10_note_19 rfl ?_
    refine j_aload_n (q := 21) hO dX10_note_20 rfl rfl ?_
    refine m_getI (j := 35) (q := 24) hO hm dX10_note_21 rfl mw_533 (by decide) rfl ?_
    refine m_iast (x := 48) (q := 25) hO hm MK_48 dX10_note_24 rfl rfl (j := 4 * t) (by show (4 : Int32) * aI α 0 36 = _; rw [ht]; exact ix40 t) (by omega) ?_
    refine j_aload_n (q := 26) hO dX10_note_25 rfl rfl ?_
    refine m_getA (j := 37) (x := 48) (q := 29) hO hm dX10_note_26 rfl mw_535 (by decide) rfl rfl ?_
    refine j_iconst (v := 4) (q := 30) hO dX10_note_29 rfl (by decide) ?_
    refine j_aload_n (q := 31) hO dX10_note_30 rfl rfl ?_
    refine m_getI (j := 36) (q := 34) hO hm dX10_note_31 rfl mw_534 (by decide) rfl ?_
    refine j_imul (q := 35) hO dX10_note_34 rfl ?_
    refine j_iconst (v := 1) (q := 36) hO dX10_note_35 rfl (by decide) ?_
    refine j_iadd (q := 37) hO dX10_note_36 rfl ?_
    refine j_iload_n (q := 38) hO dX10_note_37 rfl rfl ?_
    refine m_iast (x := 48) (q := 39) hO hm MK_48 dX10_note_38 rfl rfl (j := 4 * t + 1) (by show (4 : Int32) * aI α 0 36 + nI 1 = _; rw [ht]; exact ix4 t 1) (by omega) ?_
    refine j_aload_n (q := 40) hO dX10_note_39 rfl rfl ?_
    refine m_getA (j := 37) (x := 48) (q := 43) hO hm dX10_note_40 rfl mw_535 (by decide) rfl rfl ?_
    refine j_iconst (v := 4) (q := 44) hO dX10_note_43 rfl (by decide) ?_
    refine j_aload_n (q := 45) hO dX10_note_44 rfl rfl ?_
    refine m_getI (j := 36) (q := 48) hO hm dX10_note_45 rfl mw_534 (by decide) rfl ?_
    refine j_imul (q := 49) hO dX10_note_48 rfl ?_
    refine j_iconst (v := 2) (q := 50) hO dX10_note_49 rfl (by decide) ?_
    refine j_iadd (q := 51) hO dX10_note_50 rfl ?_
    refine j_iload_n (q := 52) hO dX10_note_51 rfl rfl ?_
    refine m_iast (x := 48) (q := 53) hO hm MK_48 dX10_note_52 rfl rfl (j := 4 * t + 2) (by show (4 : Int32) * aI α 0 36 + nI 2 = _; rw [ht]; exact ix4 t 2) (by omega) ?_
    refine j_aload_n (q := 54) hO dX10_note_53 rfl rfl ?_
    refine m_getA (j := 37) (x := 48) (q := 57) hO hm dX10_note_54 rfl mw_535 (by decide) rfl rfl ?_
    refine j_iconst (v := 4) (q := 58) hO dX10_note_57 rfl (by decide) ?_
    refine j_aload_n (q := 59) hO dX10_note_58 rfl rfl ?_
    refine m_getI (j := 36) (q := 62) hO hm dX10_note_59 rfl mw_534 (by decide) rfl ?_
    refine j_imul (q := 63) hO dX10_note_62 rfl ?_
    refine j_iconst (v := 3) (q := 64) hO dX10_note_63 rfl (by decide) ?_
    refine j_iadd (q := 65) hO dX10_note_64 rfl ?_
    refine j_iload_n (q := 66) hO dX10_note_65 rfl rfl ?_
    refine m_iast (x := 48) (q := 67) hO hm MK_48 dX10_note_66 rfl rfl (j := 4 * t + 3) (by show (4 : Int32) * aI α 0 36 + nI 3 = _; rw [ht]; exact ix4 t 3) (by omega) ?_
    refine j_aload_n (q := 68) hO dX10_note_67 rfl rfl ?_
    refine j_dup (q := 69) hO dX10_note_68 rfl rfl ?_
    refine m_getI (j := 36) (q := 72) hO hm dX10_note_69 rfl mw_534 (by decide) rfl ?_
    refine j_iconst (v := 1) (q := 73) hO dX10_note_72 rfl (by decide) ?_
    refine j_iadd (q := 74) hO dX10_note_73 rfl ?_
    refine m_putI (j := 36) (q := 77) hO hm dX10_note_74 rfl mw_534 (by decide) rfl rfl (by decide +kernel) ?_
    exact j_vret hM dX10_note_77 (Nat.le_of_ble_eq_true rfl) (Nat.le_of_ble_eq_true rfl) ⟨rfl, by unfold noteF; first | (rw [if_pos c7]; done) | (rw [if_neg c7, show nn (aI α 0 36) = t from by rw [ht]; exact nI_clamp (by omega)]; rfl)⟩
set_option maxHeartbeats 4000000 in
set_option maxRecDepth 100000 in
theorem c_10_lose (l : Launch) (S : St) (α : Al) (n p c : Nat) (w h : Int32) (hm : MSh S) (hT : TT α n) (hn : n < 2 ^ 30) (hp : p < 60) (hc : c < 4) : Ct l yX10_lose cX10_lose 5 (none : Option Jvm.ClassFile.FieldType) (rm 1 0 0 24) [.ref (sA S 10 0), .int (nI p), .int (nI c), .int w, .int h] (wr S α) (fun r S' => r = none ∧ S' = wr S (loseF α p c w h)) := by
  refine Ct.of (by decide) (Nat.le_of_ble_eq_true rfl) (fun X hM => ?_)
  have hO := hM.1
  obtain rfl := hM.l
  show Jg X 0 0 (wr S α) 0 [(0, .ref (sA S 10 0)), (1, .int (nI p)), (2, .int (nI c)), (3, .int w), (4, .int h)] []
  refine j_aload_n (q := 1) hO dX10_lose_0 rfl rfl ?_
  refine m_getA (j := 31) (x := 44) (q := 4) hO hm dX10_lose_1 rfl mw_529 (by decide) rfl rfl ?_
  refine j_iload_n (q := 5) hO dX10_lose_4 rfl rfl ?_
  refine j_iconst (v := 5) (q := 6) hO dX10_lose_5 rfl (by decide) ?_
  refine m_iast (x := 44) (q := 7) hO hm MK_44 dX10_lose_6 rfl rfl rfl (by omega) ?_
  refine j_aload_n (q := 8) hO dX10_lose_7 rfl rfl ?_
  refine m_getA (j := 40) (x := 50) (q := 11) hO hm dX10_lose_8 rfl mw_538 (by decide) rfl rfl ?_
  refine j_iload_n (q := 12) hO dX10_lose_11 rfl rfl ?_
  refine j_dup2_11 (q := 13) hO dX10_lose_12 rfl rfl rfl ?_
  refine m_lald (x := 50) (q := 14) hO hm MK_50 dX10_lose_13 rfl rfl rfl (by omega) ?_
  refine j_lconst (v := 1) (q := 15) hO dX10_lose_14 rfl (by decide) ?_
  refine j_ladd (q := 16) hO dX10_lose_15 rfl ?_
  refine m_last (x := 50) (q := 17) hO hm MK_50 dX10_lose_16 rfl rfl rfl (by omega) ?_
  refine j_aload_n (q := 18) hO dX10_lose_17 rfl rfl ?_
  refine j_iload_n (q := 19) hO dX10_lose_18 rfl rfl ?_
  refine j_iload_n (q := 20) hO dX10_lose_19 rfl rfl ?_
  refine j_iload (q := 22) hO dX10_lose_20 rfl rfl ?_
  refine j_callV (x := 10) (q := 25) hO (c_10_note (lx X) S _ n _ _ _ hm (hT.same rfl) hn) M_10_note mw_701 CK_10 rfl hm.1 rfl rfl rfl (by unfold roomy; rw [hM.R]; exact ⟨⟨Nat.le_of_ble_eq_true rfl, Nat.le_of_ble_eq_true rfl⟩, ⟨Nat.le_of_ble_eq_true rfl, Nat.le_of_ble_eq_true rfl⟩, Nat.le_of_ble_eq_true rfl⟩) dX10_lose_22 rfl (fun v_22 S_22 hp_22 => ?_)
  obtain ⟨rfl, rfl⟩ := hp_22
  exact j_vret hM dX10_lose_25 (Nat.le_of_ble_eq_true rfl) (Nat.le_of_ble_eq_true rfl) ⟨rfl, rfl⟩
end
section
set_option maxHeartbeats 4000000 in
set_option maxRecDepth 100000 in
theorem c_10_count (l : Launch) (S : St) (α : Al) (np : Nat) (s : Int32) (hm : MSh S) (hnp : aI α 0 26 = nI np) (hn60 : np ≤ 60) : Ct l yX10_count cX10_count 4 (some .int) (rm 0 0 0 0) [.ref (sA S 10 0), .int s] (wr S α) (fun r S' => r = some (.int (nI (ctF α s np))) ∧ S' = wr S α) := by
  refine Ct.of (by decide) (Nat.le_of_ble_eq_true rfl) (fun X hM => ?_)
  have hO := hM.1
  obtain rfl := hM.l
  show Jg X 0 0 (wr S α) 0 [(0, .ref (sA S 10 0)), (1, .int s)] []
  have loop : ∀ m h, h + m = np → Jg X 0 0 (wr S α) 4 [(0, .ref (sA S 10 0)), (1, .int s), (2, .int (nI (ctF α s h))), (3, .int (nI h))] [] := by
    intro m
    induction m with
    | zero =>
      intro h hz
      obtain rfl : h = np := by omega
      refine j_iload_n (q := 5) hO dX10_count_4 rfl rfl ?_
      refine j_aload_n (q := 6) hO dX10_count_5 rfl rfl ?_
      refine m_getI (j := 26) (q := 9) hO hm dX10_count_6 rfl mw_524 (by decide) rfl ?_
      refine j_icmp_ge (tgt := 36) (q := 12) hO dX10_count_9 rfl (by decide) (fun ct => ?_) (fun ct => ?_)
      · refine j_iload_n (q := 37) hO dX10_count_36 rfl rfl ?_
        exact j_iret hM dX10_count_37 (Nat.le_of_ble_eq_true rfl) (Nat.le_of_ble_eq_true rfl) ⟨rfl, rfl⟩
      · exact absurd (by first | (rw [hnp]; exact nI_le (Nat.le_refl _) (by omega)) | exact Int32.le_refl _) ct
    | succ m ih =>
      intro h hz
      refine j_iload_n (q := 5) hO dX10_count_4 rfl rfl ?_
      refine j_aload_n (q := 6) hO dX10_count_5 rfl rfl ?_
      refine m_getI (j := 26) (q := 9) hO hm dX10_count_6 rfl mw_524 (by decide) rfl ?_
      refine j_icmp_ge (tgt := 36) (q := 12) hO dX10_count_9 rfl (by decide) (fun ct => ?_) (fun ct => ?_)
      · exact absurd ct (by first | (rw [hnp]; exact nI_ge (by omega) (by omega)) | exact nI_ge (by omega) (by omega))
      · refine j_iload_n (q := 13) hO dX10_count_12 rfl rfl ?_
        refine j_aload_n (q := 14) hO dX10_count_13 rfl rfl ?_
        refine m_getA (j := 31) (x := 44) (q := 17) hO hm dX10_count_14 rfl mw_529 (by decide) rfl rfl ?_
        refine j_iload_n (q := 18) hO dX10_count_17 rfl rfl ?_
        refine m_iald (x := 44) (a := 25) (q := 19) hO hm MK_44 dX10_count_18 rfl rfl rfl (by omega) ?_
        refine j_iload_n (q := 20) hO dX10_count_19 rfl rfl ?_
        refine j_icmp_ne (tgt := 27) (q := 23) hO dX10_count_20 rfl (by decide) (fun c20 => ?_) (fun c20 => ?_)
        · refine j_iconst (v := 0) (q := 28) hO dX10_count_27 rfl (by decide) ?_
          refine j_iadd (q := 29) hO dX10_count_28 rfl ?_
          refine j_istore_n (q := 30) hO dX10_count_29 rfl (by rw [hM.nL]; decide) rfl ?_
          refine j_iinc (v := nI (h + 1)) (q := 33) hO dX10_count_30 rfl rfl (nI_S h) (by rw [hM.nL]; decide) rfl ?_
          refine j_goto (tgt := 4) hO dX10_count_33 (by decide) ?_
          refine Jg.lv (lv' := [(0, .ref (sA S 10 0)), (1, .int s), (2, .int (nI (ctF α s (h + 1)))), (3, .int (nI (h + 1)))]) ⟨rfl, rfl, (congrArg (fun z => some (Value.int z)) (ct_s0 c20)), rfl, trivial⟩ ?_
          exact ih (h + 1) (by omega)
        · refine j_iconst (v := 1) (q := 24) hO dX10_count_23 rfl (by decide) ?_
          refine j_goto (tgt := 28) hO dX10_count_24 (by decide) ?_
          refine j_iadd (q := 29) hO dX10_count_28 rfl ?_
          refine j_istore_n (q := 30) hO dX10_count_29 rfl (by rw [hM.nL]; decide) rfl ?_
          refine j_iinc (v := nI (h + 1)) (q := 33) hO dX10_count_30 rfl rfl (nI_S h) (by rw [hM.nL]; decide) rfl ?_
          refine j_goto (tgt := 4) hO dX10_count_33 (by decide) ?_
          refine Jg.lv (lv' := [(0, .ref (sA S 10 0)), (1, .int s), (2, .int (nI (ctF α s (h + 1)))), (3, .int (nI (h + 1)))]) ⟨rfl, rfl, (congrArg (fun z => some (Value.int z)) (ct_s1 c20)), rfl, trivial⟩ ?_
          exact ih (h + 1) (by omega)
  refine j_iconst (v := 0) (q := 1) hO dX10_count_0 rfl (by decide) ?_
  refine j_istore_n (q := 2) hO dX10_count_1 rfl (by rw [hM.nL]; decide) rfl ?_
  refine j_iconst (v := 0) (q := 3) hO dX10_count_2 rfl (by decide) ?_
  refine j_istore_n (q := 4) hO dX10_count_3 rfl (by rw [hM.nL]; decide) rfl ?_
  refine Jg.lv (lv' := [(0, .ref (sA S 10 0)), (1, .int s), (2, .int (nI (ctF α s 0))), (3, .int (nI 0))]) ⟨rfl, rfl, rfl, rfl, trivial⟩ ?_
  exact loop np 0 (by omega)
set_option maxHeartbeats 4000000 in
set_option maxRecDepth 100000 in
theorem c_10_piecesOn (l : Launch) (S : St) (α : Al) (np : Nat) (b : Int32) (hm : MSh S) (hnp : aI α 0 26 = nI np) (hn60 : np ≤ 60) : Ct l yX10_piecesOn cX10_piecesOn 4 (some .int) (rm 0 0 0 0) [.ref (sA S 10 0), .int b] (wr S α) (fun r S' => r = some (.int (nI (pcF α b np))) ∧ S' = wr S α) := by
  refine Ct.of (by decide) (Nat.le_of_ble_eq_true rfl) (fun X hM => ?_)
  have hO := hM.1
  obtain rfl := hM.l
  show Jg X 0 0 (wr S α) 0 [(0, .ref (sA S 10 0)), (1, .int b)] []
  have loop : ∀ m h, h + m = np → Jg X 0 0 (wr S α) 4 [(0, .ref (sA S 10 0)), (1, .int b), (2, .int (nI (pcF α b h))), (3, .int (nI h))] [] := by
    intro m
    induction m with
    | zero =>
      intro h hz
      obtain rfl : h = np := by omega
      refine j_iload_n (q := 5) hO dX10_piecesOn_4 rfl rfl ?_
      refine j_aload_n (q := 6) hO dX10_piecesOn_5 rfl rfl ?_
      refine m_getI (j := 26) (q := 9) hO hm dX10_piecesOn_6 rfl mw_524 (by decide) rfl ?_
      refine j_icmp_ge (tgt := 46) (q := 12) hO dX10_piecesOn_9 rfl (by decide) (fun ct => ?_) (fun ct => ?_)
      · refine j_iload_n (q := 47) hO dX10_piecesOn_46 rfl rfl ?_
        exact j_iret hM dX10_piecesOn_47 (Nat.le_of_ble_eq_true rfl) (Nat.le_of_ble_eq_true rfl) ⟨rfl, rfl⟩
      · exact absurd (by first | (rw [hnp]; exact nI_le (Nat.le_refl _) (by omega)) | exact Int32.le_refl _) ct
    | succ m ih =>
      intro h hz
      refine j_iload_n (q := 5) hO dX10_piecesOn_4 rfl rfl ?_
      refine j_aload_n (q := 6) hO dX10_piecesOn_5 rfl rfl ?_
      refine m_getI (j := 26) (q := 9) hO hm dX10_piecesOn_6 rfl mw_524 (by decide) rfl ?_
      refine j_icmp_ge (tgt := 46) (q := 12) hO dX10_piecesOn_9 rfl (by decide) (fun ct => ?_) (fun ct => ?_)
      · exact absurd ct (by first | (rw [hnp]; exact nI_ge (by omega) (by omega)) | exact nI_ge (by omega) (by omega))
      · refine j_iload_n (q := 13) hO dX10_piecesOn_12 rfl rfl ?_
        refine j_aload_n (q := 14) hO dX10_piecesOn_13 rfl rfl ?_
        refine m_getA (j := 31) (x := 44) (q := 17) hO hm dX10_piecesOn_14 rfl mw_529 (by decide) rfl rfl ?_
        refine j_iload_n (q := 18) hO dX10_piecesOn_17 rfl rfl ?_
        refine m_iald (x := 44) (a := 25) (q := 19) hO hm MK_44 dX10_piecesOn_18 rfl rfl rfl (by omega) ?_
        refine j_iconst (v := 1) (q := 20) hO dX10_piecesOn_19 rfl (by decide) ?_
        refine j_icmp_ne (tgt := 37) (q := 23) hO dX10_piecesOn_20 rfl (by decide) (fun c20 => ?_) (fun c20 => ?_)
        · refine j_iconst (v := 0) (q := 38) hO dX10_piecesOn_37 rfl (by decide) ?_
          refine j_iadd (q := 39) hO dX10_piecesOn_38 rfl ?_
          refine j_istore_n (q := 40) hO dX10_piecesOn_39 rfl (by rw [hM.nL]; decide) rfl ?_
          refine j_iinc (v := nI (h + 1)) (q := 43) hO dX10_piecesOn_40 rfl rfl (nI_S h) (by rw [hM.nL]; decide) rfl ?_
          refine j_goto (tgt := 4) hO dX10_piecesOn_43 (by decide) ?_
          refine Jg.lv (lv' := [(0, .ref (sA S 10 0)), (1, .int b), (2, .int (nI (pcF α b (h + 1)))), (3, .int (nI (h + 1)))]) ⟨rfl, rfl, (congrArg (fun z => some (Value.int z)) (pc_s0 (fun z => c20 z.1))), rfl, trivial⟩ ?_
          exact ih (h + 1) (by omega)
        · refine j_aload_n (q := 24) hO dX10_piecesOn_23 rfl rfl ?_
          refine m_getA (j := 32) (x := 45) (q := 27) hO hm dX10_piecesOn_24 rfl mw_530 (by decide) rfl rfl ?_
          refine j_iload_n (q := 28) hO dX10_piecesOn_27 rfl rfl ?_
          refine m_iald (x := 45) (a := 26) (q := 29) hO hm MK_45 dX10_piecesOn_28 rfl rfl rfl (by omega) ?_
          refine j_iload_n (q := 30) hO dX10_piecesOn_29 rfl rfl ?_
          refine j_icmp_ne (tgt := 37) (q := 33) hO dX10_piecesOn_30 rfl (by decide) (fun c30 => ?_) (fun c30 => ?_)
          · refine j_iconst (v := 0) (q := 38) hO dX10_piecesOn_37 rfl (by decide) ?_
            refine j_iadd (q := 39) hO dX10_piecesOn_38 rfl ?_
            refine j_istore_n (q := 40) hO dX10_piecesOn_39 rfl (by rw [hM.nL]; decide) rfl ?_
            refine j_iinc (v := nI (h + 1)) (q := 43) hO dX10_piecesOn_40 rfl rfl (nI_S h) (by rw [hM.nL]; decide) rfl ?_
            refine j_goto (tgt := 4) hO dX10_piecesOn_43 (by decide) ?_
            refine Jg.lv (lv' := [(0, .ref (sA S 10 0)), (1, .int b), (2, .int (nI (pcF α b (h + 1)))), (3, .int (nI (h + 1)))]) ⟨rfl, rfl, (congrArg (fun z => some (Value.int z)) (pc_s0 (fun z => c30 z.2))), rfl, trivial⟩ ?_
            exact ih (h + 1) (by omega)
          · refine j_iconst (v := 1) (q := 34) hO dX10_piecesOn_33 rfl (by decide) ?_
            refine j_goto (tgt := 38) hO dX10_piecesOn_34 (by decide) ?_
            refine j_iadd (q := 39) hO dX10_piecesOn_38 rfl ?_
            refine j_istore_n (q := 40) hO dX10_piecesOn_39 rfl (by rw [hM.nL]; decide) rfl ?_
            refine j_iinc (v := nI (h + 1)) (q := 43) hO dX10_piecesOn_40 rfl rfl (nI_S h) (by rw [hM.nL]; decide) rfl ?_
            refine j_goto (tgt := 4) hO dX10_piecesOn_43 (by decide) ?_
            refine Jg.lv (lv' := [(0, .ref (sA S 10 0)), (1, .int b), (2, .int (nI (pcF α b (h + 1)))), (3, .int (nI (h + 1)))]) ⟨rfl, rfl, (congrArg (fun z => some (Value.int z)) (pc_s1 ⟨c20, c30⟩)), rfl, trivial⟩ ?_
            exact ih (h + 1) (by omega)
  refine j_iconst (v := 0) (q := 1) hO dX10_piecesOn_0 rfl (by decide) ?_
  refine j_istore_n (q := 2) hO dX10_piecesOn_1 rfl (by rw [hM.nL]; decide) rfl ?_
  refine j_iconst (v := 0) (q := 3) hO dX10_piecesOn_2 rfl (by decide) ?_
  refine j_istore_n (q := 4) hO dX10_piecesOn_3 rfl (by rw [hM.nL]; decide) rfl ?_
  refine Jg.lv (lv' := [(0, .ref (sA S 10 0)), (1, .int b), (2, .int (nI (pcF α b 0))), (3, .int (nI 0))]) ⟨rfl, rfl, rfl, rfl, trivial⟩ ?_
  exact loop np 0 (by omega)
set_option maxHeartbeats 4000000 in
set_option maxRecDepth 100000 in
theorem c_10_sizesOn (l : Launch) (S : St) (α : Al) (np : Nat) (b w : Int32) (hm : MSh S) (hnp : aI α 0 26 = nI np) (hn60 : np ≤ 60) (hsz : ∀ j, j < np → dNn (aD α 22 j)) : Ct l yX10_sizesOn cX10_sizesOn 6 (some .double) (rm 0 0 0 0) [.ref (sA S 10 0), .int b, .int w] (wr S α) (fun r S' => r = some (.double (szF α b w np)) ∧ S' = wr S α) := by
  refine Ct.of (by decide) (Nat.le_of_ble_eq_true rfl) (fun X hM => ?_)
  have hO := hM.1
  obtain rfl := hM.l
  show Jg X 0 0 (wr S α) 0 [(0, .ref (sA S 10 0)), (1, .int b), (2, .int w)] []
  have loop : ∀ m h, h + m = np → Jg X 0 0 (wr S α) 5 [(0, .ref (sA S 10 0)), (1, .int b), (2, .int w), (3, .double (szF α b w h)), (5, .int (nI h))] [] := by
    intro m
    induction m with
    | zero =>
      intro h hz
      obtain rfl : h = np := by omega
      refine j_iload (q := 7) hO dX10_sizesOn_5 rfl rfl ?_
      refine j_aload_n (q := 8) hO dX10_sizesOn_7 rfl rfl ?_
      refine m_getI (j := 26) (q := 11) hO hm dX10_sizesOn_8 rfl mw_524 (by decide) rfl ?_
      refine j_icmp_ge (tgt := 62) (q := 14) hO dX10_sizesOn_11 rfl (by decide) (fun ct => ?_) (fun ct => ?_)
      · refine j_dload_n (q := 63) hO dX10_sizesOn_62 rfl rfl ?_
        exact j_dret hM dX10_sizesOn_63 (Nat.le_of_ble_eq_true rfl) (Nat.le_of_ble_eq_true rfl) ⟨rfl, rfl⟩
      · exact absurd (by first | (rw [hnp]; exact nI_le (Nat.le_refl _) (by omega)) | exact Int32.le_refl _) ct
    | succ m ih =>
      intro h hz
      refine j_iload (q := 7) hO dX10_sizesOn_5 rfl rfl ?_
      refine j_aload_n (q := 8) hO dX10_sizesOn_7 rfl rfl ?_
      refine m_getI (j := 26) (q := 11) hO hm dX10_sizesOn_8 rfl mw_524 (by decide) rfl ?_
      refine j_icmp_ge (tgt := 62) (q := 14) hO dX10_sizesOn_11 rfl (by decide) (fun ct => ?_) (fun ct => ?_)
      · exact absurd ct (by first | (rw [hnp]; exact nI_ge (by omega) (by omega)) | exact nI_ge (by omega) (by omega))
      · refine j_dload_n (q := 15) hO dX10_sizesOn_14 rfl rfl ?_
        refine j_iload (q := 17) hO dX10_sizesOn_15 rfl rfl ?_
        refine j_iload_n (q := 18) hO dX10_sizesOn_17 rfl rfl ?_
        refine j_icmp_eq (tgt := 43) (q := 21) hO dX10_sizesOn_18 rfl (by decide) (fun c18 => ?_) (fun c18 => ?_)
        · refine j_aload_n (q := 44) hO dX10_sizesOn_43 rfl rfl ?_
          refine m_getA (j := 28) (x := 41) (q := 47) hO hm dX10_sizesOn_44 rfl mw_526 (by decide) rfl rfl ?_
          refine j_iload (q := 49) hO dX10_sizesOn_47 rfl rfl ?_
          refine m_dald (x := 41) (a := 22) (q := 50) hO hm MK_41 dX10_sizesOn_49 rfl rfl rfl (by omega) ?_
          refine j_goto (tgt := 54) hO dX10_sizesOn_50 (by decide) ?_
          refine j_dadd (q := 55) hO dX10_sizesOn_54 rfl (n64_of (dadd_nn (szF_pz hsz h (by omega)).1 (hsz h (by omega))).ok) ?_
          refine j_dstore_n (q := 56) hO dX10_sizesOn_55 rfl (by rw [hM.nL]; decide) rfl ?_
          refine j_iinc (v := nI (h + 1)) (q := 59) hO dX10_sizesOn_56 rfl rfl (nI_S h) (by rw [hM.nL]; decide) rfl ?_
          refine j_goto (tgt := 5) hO dX10_sizesOn_59 (by decide) ?_
          refine Jg.lv (lv' := [(0, .ref (sA S 10 0)), (1, .int b), (2, .int w), (3, .double (szF α b w (h + 1))), (5, .int (nI (h + 1)))]) ⟨rfl, rfl, rfl, (congrArg (fun z => some (Value.double z)) (sz_s1 (Or.inl c18))), rfl, trivial⟩ ?_
          exact ih (h + 1) (by omega)
        · refine j_aload_n (q := 22) hO dX10_sizesOn_21 rfl rfl ?_
          refine m_getA (j := 31) (x := 44) (q := 25) hO hm dX10_sizesOn_22 rfl mw_529 (by decide) rfl rfl ?_
          refine j_iload (q := 27) hO dX10_sizesOn_25 rfl rfl ?_
          refine m_iald (x := 44) (a := 25) (q := 28) hO hm MK_44 dX10_sizesOn_27 rfl rfl rfl (by omega) ?_
          refine j_iconst (v := 1) (q := 29) hO dX10_sizesOn_28 rfl (by decide) ?_
          refine j_icmp_ne (tgt := 53) (q := 32) hO dX10_sizesOn_29 rfl (by decide) (fun c29 => ?_) (fun c29 => ?_)
          · refine j_dconst0 (q := 54) hO dX10_sizesOn_53 rfl ?_
            refine j_dadd (q := 55) hO dX10_sizesOn_54 rfl (n64_of (dadd_nn (szF_pz hsz h (by omega)).1 nn_0).ok) ?_
            refine j_dstore_n (q := 56) hO dX10_sizesOn_55 rfl (by rw [hM.nL]; decide) rfl ?_
            refine j_iinc (v := nI (h + 1)) (q := 59) hO dX10_sizesOn_56 rfl rfl (nI_S h) (by rw [hM.nL]; decide) rfl ?_
            refine j_goto (tgt := 5) hO dX10_sizesOn_59 (by decide) ?_
            refine Jg.lv (lv' := [(0, .ref (sA S 10 0)), (1, .int b), (2, .int w), (3, .double (szF α b w (h + 1))), (5, .int (nI (h + 1)))]) ⟨rfl, rfl, rfl, (congrArg (fun z => some (Value.double z)) (sz_s0 c18 (fun z => c29 z.1))), rfl, trivial⟩ ?_
            exact ih (h + 1) (by omega)
          · refine j_aload_n (q := 33) hO dX10_sizesOn_32 rfl rfl ?_
            refine m_getA (j := 32) (x := 45) (q := 36) hO hm dX10_sizesOn_33 rfl mw_530 (by decide) rfl rfl ?_
            refine j_iload (q := 38) hO dX10_sizesOn_36 rfl rfl ?_
            refine m_iald (x := 45) (a := 26) (q := 39) hO hm MK_45 dX10_sizesOn_38 rfl rfl rfl (by omega) ?_
            refine j_iload_n (q := 40) hO dX10_sizesOn_39 rfl rfl ?_
            refine j_icmp_ne (tgt := 53) (q := 43) hO dX10_sizesOn_40 rfl (by decide) (fun c40 => ?_) (fun c40 => ?_)
            · refine j_dconst0 (q := 54) hO dX10_sizesOn_53 rfl ?_
              refine j_dadd (q := 55) hO dX10_sizesOn_54 rfl (n64_of (dadd_nn (szF_pz hsz h (by omega)).1 nn_0).ok) ?_
              refine j_dstore_n (q := 56) hO dX10_sizesOn_55 rfl (by rw [hM.nL]; decide) rfl ?_
              refine j_iinc (v := nI (h + 1)) (q := 59) hO dX10_sizesOn_56 rfl rfl (nI_S h) (by rw [hM.nL]; decide) rfl ?_
              refine j_goto (tgt := 5) hO dX10_sizesOn_59 (by decide) ?_
              refine Jg.lv (lv' := [(0, .ref (sA S 10 0)), (1, .int b), (2, .int w), (3, .double (szF α b w (h + 1))), (5, .int (nI (h + 1)))]) ⟨rfl, rfl, rfl, (congrArg (fun z => some (Value.double z)) (sz_s0 c18 (fun z => c40 z.2))), rfl, trivial⟩ ?_
              exact ih (h + 1) (by omega)
            · refine j_aload_n (q := 44) hO dX10_sizesOn_43 rfl rfl ?_
              refine m_getA (j := 28) (x := 41) (q := 47) hO hm dX10_sizesOn_44 rfl mw_526 (by decide) rfl rfl ?_
              refine j_iload (q := 49) hO dX10_sizesOn_47 rfl rfl ?_
              refine m_dald (x := 41) (a := 22) (q := 50) hO hm MK_41 dX10_sizesOn_49 rfl rfl rfl (by omega) ?_
              refine j_goto (tgt := 54) hO dX10_sizesOn_50 (by decide) ?_
              refine j_dadd (q := 55) hO dX10_sizesOn_54 rfl (n64_of (dadd_nn (szF_pz hsz h (by omega)).1 (hsz h (by omega))).ok) ?_
              refine j_dstore_n (q := 56) hO dX10_sizesOn_55 rfl (by rw [hM.nL]; decide) rfl ?_
              refine j_iinc (v := nI (h + 1)) (q := 59) hO dX10_sizesOn_56 rfl rfl (nI_S h) (by rw [hM.nL]; decide) rfl ?_
              refine j_goto (tgt := 5) hO dX10_sizesOn_59 (by decide) ?_
              refine Jg.lv (lv' := [(0, .ref (sA S 10 0)), (1, .int b), (2, .int w), (3, .double (szF α b w (h + 1))), (5, .int (nI (h + 1)))]) ⟨rfl, rfl, rfl, (congrArg (fun z => some (Value.double z)) (sz_s1 (Or.inr ⟨c29, c40⟩))), rfl, trivial⟩ ?_
              exact ih (h + 1) (by omega)
  refine j_dconst0 (q := 1) hO dX10_sizesOn_0 rfl ?_
  refine j_dstore_n (q := 2) hO dX10_sizesOn_1 rfl (by rw [hM.nL]; decide) rfl ?_
  refine j_iconst (v := 0) (q := 3) hO dX10_sizesOn_2 rfl (by decide) ?_
  refine j_istore (q := 5) hO dX10_sizesOn_3 rfl (by rw [hM.nL]; decide) rfl ?_
  refine Jg.lv (lv' := [(0, .ref (sA S 10 0)), (1, .int b), (2, .int w), (3, .double (szF α b w 0)), (5, .int (nI 0))]) ⟨rfl, rfl, rfl, rfl, rfl, trivial⟩ ?_
  exact loop np 0 (by omega)
set_option maxHeartbeats 4000000 in
set_option maxRecDepth 100000 in
theorem c_10_pass (l : Launch) (S : St) (α : Al) (n nh p : Nat) (hm : MSh S) (hnh : aI α 0 9 = nI nh) (hn8 : nh ≤ 8) (hp : p < 60) (hT : TT α n) (hn : n + 8 < 2 ^ 30) : Ct l yX10_pass cX10_pass 3 (none : Option Jvm.ClassFile.FieldType) (rm 1 0 0 24) [.ref (sA S 10 0), .int (nI p)] (wr S α) (fun r S' => r = none ∧ S' = wr S (passL α p nh)) := by
  refine Ct.of (by decide) (Nat.le_of_ble_eq_true rfl) (fun X hM => ?_)
  have hO := hM.1
  obtain rfl := hM.l
  show Jg X 0 0 (wr S α) 0 [(0, .ref (sA S 10 0)), (1, .int (nI p))] []
  have loop : ∀ m h, h + m = nh → Jg X 0 0 (wr S (passL α p h)) 2 [(0, .ref (sA S 10 0)), (1, .int (nI p)), (2, .int (nI h))] [] := by
    intro m
    induction m with
    | zero =>
      intro h hz
      obtain rfl : h = nh := by omega
      have hh := (passL_I (α := α) (p := p) (k := 0) (j := 9) (by decide) (by decide) h).trans hnh
      refine j_iload_n (q := 3) hO dX10_pass_2 rfl rfl ?_
      refine j_aload_n (q := 4) hO dX10_pass_3 rfl rfl ?_
      refine m_getI (j := 9) (q := 7) hO hm dX10_pass_4 rfl mw_507 (by decide) rfl ?_
      refine j_icmp_ge (tgt := 73) (q := 10) hO dX10_pass_7 rfl (by decide) (fun ct => ?_) (fun ct => ?_)
      · exact j_vret hM dX10_pass_73 (Nat.le_of_ble_eq_true rfl) (Nat.le_of_ble_eq_true rfl) ⟨rfl, rfl⟩
      · exact absurd (by first | (rw [hh]; exact nI_le (Nat.le_refl _) (by omega)) | exact Int32.le_refl _) ct
    | succ m ih =>
      intro h hz
      have hh := (passL_I (α := α) (p := p) (k := 0) (j := 9) (by decide) (by decide) h).trans hnh
      refine j_iload_n (q := 3) hO dX10_pass_2 rfl rfl ?_
      refine j_aload_n (q := 4) hO dX10_pass_3 rfl rfl ?_
      refine m_getI (j := 9) (q := 7) hO hm dX10_pass_4 rfl mw_507 (by decide) rfl ?_
      refine j_icmp_ge (tgt := 73) (q := 10) hO dX10_pass_7 rfl (by decide) (fun ct => ?_) (fun ct => ?_)
      · exact absurd ct (by first | (rw [hh]; exact nI_ge (by omega) (by omega)) | exact nI_ge (by omega) (by omega))
      · refine j_aload_n (q := 11) hO dX10_pass_10 rfl rfl ?_
        refine m_getA (j := 10) (x := 27) (q := 14) hO hm dX10_pass_11 rfl mw_508 (by decide) rfl rfl ?_
        refine j_iload_n (q := 15) hO dX10_pass_14 rfl rfl ?_
        refine m_iald (x := 27) (a := 8) (q := 16) hO hm MK_27 dX10_pass_15 rfl rfl rfl (by omega) ?_
        refine j_aload_n (q := 17) hO dX10_pass_16 rfl rfl ?_
        refine m_getA (j := 32) (x := 45) (q := 20) hO hm dX10_pass_17 rfl mw_530 (by decide) rfl rfl ?_
        refine j_iload_n (q := 21) hO dX10_pass_20 rfl rfl ?_
        refine m_iald (x := 45) (a := 26) (q := 22) hO hm MK_45 dX10_pass_21 rfl rfl rfl (by omega) ?_
        refine j_icmp_ne (tgt := 67) (q := 25) hO dX10_pass_22 rfl (by decide) (fun c22 => ?_) (fun c22 => ?_)
        · refine j_iinc (v := nI (h + 1)) (q := 70) hO dX10_pass_67 rfl rfl (nI_S h) (by rw [hM.nL]; decide) rfl ?_
          refine j_goto (tgt := 2) hO dX10_pass_70 (by decide) ?_
          refine Jg.lv (lv' := [(0, .ref (sA S 10 0)), (1, .int (nI p)), (2, .int (nI (h + 1)))]) ⟨rfl, rfl, rfl, trivial⟩ ?_
          rw [← (pass_s (fun z => c22 z.1) : passL α p (h + 1) = _)]
          exact ih (h + 1) (by omega)
        · refine j_aload_n (q := 26) hO dX10_pass_25 rfl rfl ?_
          refine m_getA (j := 11) (x := 28) (q := 29) hO hm dX10_pass_26 rfl mw_509 (by decide) rfl rfl ?_
          refine j_iload_n (q := 30) hO dX10_pass_29 rfl rfl ?_
          refine m_iald (x := 28) (a := 9) (q := 31) hO hm MK_28 dX10_pass_30 rfl rfl rfl (by omega) ?_
          refine j_aload_n (q := 32) hO dX10_pass_31 rfl rfl ?_
          refine m_getA (j := 33) (x := 46) (q := 35) hO hm dX10_pass_32 rfl mw_531 (by decide) rfl rfl ?_
          refine j_iload_n (q := 36) hO dX10_pass_35 rfl rfl ?_
          refine m_iald (x := 46) (a := 27) (q := 37) hO hm MK_46 dX10_pass_36 rfl rfl rfl (by omega) ?_
          refine j_icmp_ne (tgt := 67) (q := 40) hO dX10_pass_37 rfl (by decide) (fun c37 => ?_) (fun c37 => ?_)
          · refine j_iinc (v := nI (h + 1)) (q := 70) hO dX10_pass_67 rfl rfl (nI_S h) (by rw [hM.nL]; decide) rfl ?_
            refine j_goto (tgt := 2) hO dX10_pass_70 (by decide) ?_
            refine Jg.lv (lv' := [(0, .ref (sA S 10 0)), (1, .int (nI p)), (2, .int (nI (h + 1)))]) ⟨rfl, rfl, rfl, trivial⟩ ?_
            rw [← (pass_s (fun z => c37 z.2) : passL α p (h + 1) = _)]
            exact ih (h + 1) (by omega)
          · refine j_aload_n (q := 41) hO dX10_pass_40 rfl rfl ?_
            refine j_iload_n (q := 42) hO dX10_pass_41 rfl rfl ?_
            refine j_aload_n (q := 43) hO dX10_pass_42 rfl rfl ?_
            refine j_iload_n (q := 44) hO dX10_pass_43 rfl rfl ?_
            refine j_iload_n (q := 45) hO dX10_pass_44 rfl rfl ?_
            refine j_callV (x := 10) (q := 48) hO (c_10_chance (lx X) S _ _ _ hm) M_10_chance mw_717 CK_10 rfl hm.1 rfl rfl rfl (by unfold roomy; rw [hM.R]; exact ⟨⟨Nat.le_of_ble_eq_true rfl, Nat.le_of_ble_eq_true rfl⟩, ⟨Nat.le_of_ble_eq_true rfl, Nat.le_of_ble_eq_true rfl⟩, Nat.le_of_ble_eq_true rfl⟩) dX10_pass_45 rfl (fun v_45 S_45 hp_45 => ?_)
            obtain ⟨rfl, rfl⟩ := hp_45
            refine j_aload_n (q := 49) hO dX10_pass_48 rfl rfl ?_
            refine m_getA (j := 12) (x := 29) (q := 52) hO hm dX10_pass_49 rfl mw_510 (by decide) rfl rfl ?_
            refine j_iload_n (q := 53) hO dX10_pass_52 rfl rfl ?_
            refine m_dald (x := 29) (a := 10) (q := 54) hO hm MK_29 dX10_pass_53 rfl rfl rfl (by omega) ?_
            refine j_dcmp (q := 55) hO dX10_pass_54 rfl ?_
            refine j_if_ge (tgt := 62) (q := 58) hO dX10_pass_55 rfl (by decide) (fun c55 => ?_) (fun c55 => ?_)
            · refine j_iconst (v := 1) (q := 63) hO dX10_pass_62 rfl (by decide) ?_
              refine j_iload_n (q := 64) hO dX10_pass_63 rfl rfl ?_
              refine j_callV (x := 10) (q := 67) hO (c_10_note (lx X) S _ (n + h) _ _ _ hm (passL_T hT h) (by omega)) M_10_note mw_701 CK_10 rfl hm.1 rfl rfl rfl (by unfold roomy; rw [hM.R]; exact ⟨⟨Nat.le_of_ble_eq_true rfl, Nat.le_of_ble_eq_true rfl⟩, ⟨Nat.le_of_ble_eq_true rfl, Nat.le_of_ble_eq_true rfl⟩, Nat.le_of_ble_eq_true rfl⟩) dX10_pass_64 rfl (fun v_64 S_64 hp_64 => ?_)
              obtain ⟨rfl, rfl⟩ := hp_64
              refine j_iinc (v := nI (h + 1)) (q := 70) hO dX10_pass_67 rfl rfl (nI_S h) (by rw [hM.nL]; decide) rfl ?_
              refine j_goto (tgt := 2) hO dX10_pass_70 (by decide) ?_
              refine Jg.lv (lv' := [(0, .ref (sA S 10 0)), (1, .int (nI p)), (2, .int (nI (h + 1)))]) ⟨rfl, rfl, rfl, trivial⟩ ?_
              rw [← (pass_y1 c22 c37 c55 : passL α p (h + 1) = _)]
              exact ih (h + 1) (by omega)
            · refine j_iconst (v := 2) (q := 59) hO dX10_pass_58 rfl (by decide) ?_
              refine j_goto (tgt := 63) hO dX10_pass_59 (by decide) ?_
              refine j_iload_n (q := 64) hO dX10_pass_63 rfl rfl ?_
              refine j_callV (x := 10) (q := 67) hO (c_10_note (lx X) S _ (n + h) _ _ _ hm (passL_T hT h) (by omega)) M_10_note mw_701 CK_10 rfl hm.1 rfl rfl rfl (by unfold roomy; rw [hM.R]; exact ⟨⟨Nat.le_of_ble_eq_true rfl, Nat.le_of_ble_eq_true rfl⟩, ⟨Nat.le_of_ble_eq_true rfl, Nat.le_of_ble_eq_true rfl⟩, Nat.le_of_ble_eq_true rfl⟩) dX10_pass_64 rfl (fun v_64 S_64 hp_64 => ?_)
              obtain ⟨rfl, rfl⟩ := hp_64
              refine j_iinc (v := nI (h + 1)) (q := 70) hO dX10_pass_67 rfl rfl (nI_S h) (by rw [hM.nL]; decide) rfl ?_
              refine j_goto (tgt := 2) hO dX10_pass_70 (by decide) ?_
              refine Jg.lv (lv' := [(0, .ref (sA S 10 0)), (1, .int (nI p)), (2, .int (nI (h + 1)))]) ⟨rfl, rfl, rfl, trivial⟩ ?_
              rw [← (pass_y2 c22 c37 c55 : passL α p (h + 1) = _)]
              exact ih (h + 1) (by omega)
  refine j_iconst (v := 0) (q := 1) hO dX10_pass_0 rfl (by decide) ?_
  refine j_istore_n (q := 2) hO dX10_pass_1 rfl (by rw [hM.nL]; decide) rfl ?_
  refine Jg.lv (lv' := [(0, .ref (sA S 10 0)), (1, .int (nI p)), (2, .int (nI 0))]) ⟨rfl, rfl, rfl, trivial⟩ ?_
  exact loop nh 0 (by omega)
end
section
def setF (β : Al) (p b : Nat) : Al := qI (qI (qI β 25 p 1) 26 p (nI b)) 27 p 0
def jamF (β : Al) (p b np : Nat) : Al := loseF (qI (qJ (qI (qI (qI (qI (qI β 30 (4 * nn (aI β 0 38)) (aI β 0 35)) 30 (4 * nn (aI β 0 38) + 1) (nI p)) 30 (4 * nn (aI β 0 38) + 2) (nI b)) 30 (4 * nn (aI β 0 38) + 3) (nI (pcF β (nI b) np))) 0 38 (aI β 0 38 + 1)) 31 3 (aJ β 31 3 + (aI β 6 b).toInt64)) 7 b (aI β 0 35 + aI β 6 b)) p 0 3 (nI b)
/-- a piece comes to a belt's start -/
def enterF (α : Al) (p b : Nat) : Al :=
  if aI α 7 b ≤ aI α 0 35 then
    if aI α 4 b = 0 ∨ Op.cmpValue (FP.dcmp (szF (qI α 25 p 0) (nI b) (nI p) (nn (aI α 0 26))) (aD α 5 b)) .l ≤ 0 then
      passL (noteF (setF (qI α 25 p 0) p b) (nI p) 0 (nI b)) p (nn (aI α 0 9))
    else jamF (qI α 25 p 0) p b (nn (aI α 0 26))
  else loseF (qI α 25 p 0) p 1 7 (nI b)
theorem pcF_congr {α β : Al} {b : Int32} (h1 : ∀ j, aI β 25 j = aI α 25 j) (h2 : ∀ j, aI β 26 j = aI α 26 j) : ∀ n, pcF β b n = pcF α b n
  | 0 => rfl
  | n + 1 => by
    unfold pcF
    rw [pcF_congr h1 h2 n, h1, h2]
theorem szF_congr {α β : Al} {b w : Int32} (h1 : ∀ j, aI β 25 j = aI α 25 j) (h2 : ∀ j, aI β 26 j = aI α 26 j) (h3 : ∀ j, aD β 22 j = aD α 22 j) : ∀ n, szF β b w n = szF α b w n
  | 0 => rfl
  | n + 1 => by
    unfold szF
    rw [szF_congr h1 h2 h3 n, h1, h2, h3]
def ff (P : Nat → Bool) : Nat → Nat → Option Nat
  | 0, _ => none
  | m + 1, i => bif P i then some i else ff P m (i + 1)
def robB (α : Al) (p r : Nat) : Bool := decide (aI α 13 r = aI α 26 p ∧ ¬ 0 < Op.cmpValue (FP.dcmp (aD α 22 p) (aD α 14 r)) .g ∧ ¬ Op.cmpValue (FP.dcmp (chF (aJ α 0 0) (nI p) (100 + nI r)) (aD α 15 r)) .l < 0)
def pickB (α : Al) (p h : Nat) : Bool := decide (aI α 16 h = aI α 26 p ∧ ¬ aI α 0 35 < aI α 19 h)
/-- which robot, which picker takes a piece that isn't of kind 0 -/
def robF (α : Al) (p : Nat) : Option Nat := if aI α 21 p ≤ 0 then none else ff (robB α p) (nn (aI α 0 16)) 0
def pickF (α : Al) (p : Nat) : Option Nat := if aI α 21 p ≤ 0 then none else ff (pickB α p) (nn (aI α 0 20)) 0
/-- until when a picker is busy -/
def busyF (now : Int32) (rate tires : UInt64) (took : Int32) : Int32 := now + 1 + FP.d2i (FP.dmul (FP.ddiv 4621819117588971520 rate) (FP.dadd FP.dconst1 (FP.dmul tires (FP.i2d took))))
def takR (α : Al) (p r : Nat) : Al := noteF (qI α 25 p 4) (nI p) 6 (nI r)
def takP (α : Al) (p h : Nat) : Al := noteF (qI (qI (qI α 19 h (busyF (aI α 0 35) (aD α 17 h) (aD α 18 h) (aI α 20 h))) 20 h (aI α 20 h + 1)) 25 p 4) (nI p) 5 (nI h)
def takenF (α : Al) (p : Nat) : Option Al := match robF α p with
  | some r => some (takR α p r)
  | none => match pickF α p with
    | some h => some (takP α p h)
    | none => none
def gapF (α : Al) (at' : Nat) : Al := if aI α 32 at' ≤ 0 then α else
  qI (qI α 34 at' (if aI α 32 at' = 1 ∨ ¬ aI α 34 at' ≤ aI α 0 35 - aI α 33 at' then aI α 0 35 - aI α 33 at' else aI α 34 at')) 35 at' (if aI α 32 at' = 1 ∨ ¬ aI α 0 35 - aI α 33 at' ≤ aI α 35 at' then aI α 0 35 - aI α 33 at' else aI α 35 at')
/-- a piece goes out -/
def outF (α : Al) (p at' : Nat) : Al := noteF (qI (qI (qI (gapF α at') 32 at' (aI α 32 at' + 1)) 33 at' (aI α 0 35)) 25 p 3) (nI p) 4 (aI α 26 p)
def atF (α : Al) (p : Nat) : Nat := 5 * nn (aI α 26 p) + nn (aI α 21 p)
def fillF (α : Al) (p k : Nat) : Al := if 0 < Op.cmpValue (FP.dcmp (FP.dadd (aD α 12 k) (aD α 22 p)) (aD α 11 k)) .g then loseF α p 2 8 (nI k) else noteF (qI (qD α 12 k (FP.dadd (aD α 12 k) (aD α 22 p))) 25 p 2) (nI p) 9 (nI k)
/-- a piece that nobody took goes on -/
def goF (α : Al) (p : Nat) (to : Int32) : Al := if to < 0 then (if to = -1 then outF α p (atF α p) else fillF α p (nn (-2 - to))) else enterF α p (nn to)
def mv1 (α : Al) (j : Nat) : Al := qI (qI α 28 j (if aI α 25 j = 1 ∧ ¬ aI α 0 35 ≤ aI α 7 (nn (aI α 26 j)) then 1 else 0)) 27 j (aI α 27 j + (if aI α 25 j = 1 ∧ ¬ aI α 0 35 ≤ aI α 7 (nn (aI α 26 j)) then 1 else 0))
def mvL (α : Al) : Nat → Al
  | 0 => α
  | j + 1 => mv1 (mvL α j) j
/-- at its place, behind the heads: at the belt's end it is taken or goes on -/
def endF (β : Al) (p : Nat) : Al := if aI β 27 p = aI β 1 (nn (aI β 26 p)) then (match takenF β p with
  | some γ => γ
  | none => goF β p (aI β 3 (nn (aI β 26 p)))) else β
def act1 (α : Al) (p : Nat) : Al := if aI α 25 p = 0 ∧ aI α 23 p = aI α 0 35 then enterF α p (nn (aI α 24 p)) else if aI α 28 p = 0 then α else endF (passL α p (nn (aI α 0 9))) p
def actL (α : Al) : Nat → Al
  | 0 => α
  | j + 1 => act1 (actL α j) j
def tenthF (α : Al) : Al := actL (mvL (qI α 0 35 (aI α 0 35 + 1)) (nn (aI α 0 26))) (nn (aI α 0 26))
def runL (α : Al) : Nat → Al
  | 0 => α
  | m + 1 => tenthF (runL α m)
theorem nn_nI {n : Nat} (h : n < 2 ^ 31) : nn (nI n) = n := nI_clamp h
def PkOk (rate tires : UInt64) (took : Int32) : Prop := vf_n64 (FP.ddiv 4621819117588971520 rate) ∧ vf_n64 (FP.dmul tires (FP.i2d took)) ∧ vf_n64 (FP.dadd FP.dconst1 (FP.dmul tires (FP.i2d took))) ∧ vf_n64 (FP.dmul (FP.ddiv 4621819117588971520 rate) (FP.dadd FP.dconst1 (FP.dmul tires (FP.i2d took))))
/-- a search, from i on, that has m places left -/
def scn (o : Option Nat) (c : Int32) (P : Nat → Bool) (m i : Nat) : Prop := o = if c ≤ 0 then none else ff P m i
theorem scn.z {o : Option Nat} {c : Int32} {P : Nat → Bool} {i : Nat} (h : scn o c P 0 i) : o = none := by
  unfold scn at h
  rw [h]
  split <;> rfl
theorem scn.c {o : Option Nat} {c : Int32} {P : Nat → Bool} {m i : Nat} (h : scn o c P m i) (hc : c ≤ 0) : o = none := by
  unfold scn at h
  rw [h, if_pos hc]
theorem scn.y {o : Option Nat} {c : Int32} {P : Nat → Bool} {m i : Nat} (h : scn o c P (m + 1) i) (hc : ¬ c ≤ 0) (hp : P i = true) : o = some i := by
  unfold scn at h
  rw [h, if_neg hc]
  unfold ff
  rw [hp]
  rfl
theorem scn.n {o : Option Nat} {c : Int32} {P : Nat → Bool} {m i : Nat} (h : scn o c P (m + 1) i) (hc : ¬ c ≤ 0) (hp : P i = false) : scn o c P m (i + 1) := by
  unfold scn at h ⊢
  rw [h, if_neg hc, if_neg hc]
  rw [show ff P (m + 1) i = bif P i then some i else ff P m (i + 1) from rfl, hp]
  rfl
def takPost (S : St) (α : Al) (p : Nat) (r : Option Value) (S' : St) : Prop := match takenF α p with
  | some γ => r = some (.int 1) ∧ S' = wr S γ
  | none => r = some (.int 0) ∧ S' = wr S α
theorem takPost.r {S : St} {α : Al} {p r : Nat} (h : robF α p = some r) : takPost S α p (some (.int 1)) (wr S (takR α p r)) := by
  unfold takPost takenF
  rw [h]
  exact ⟨rfl, rfl⟩
theorem takPost.p {S : St} {α : Al} {p h : Nat} (h1 : robF α p = none) (h2 : pickF α p = some h) : takPost S α p (some (.int 1)) (wr S (takP α p h)) := by
  unfold takPost takenF
  rw [h1]
  dsimp only
  rw [h2]
  exact ⟨rfl, rfl⟩
theorem takPost.n {S : St} {α : Al} {p : Nat} (h1 : robF α p = none) (h2 : pickF α p = none) : takPost S α p (some (.int 0)) (wr S α) := by
  unfold takPost takenF
  rw [h1]
  dsimp only
  rw [h2]
  exact ⟨rfl, rfl⟩
theorem m2_2 {k : Nat} (h : k < 4) : (-2 : Int32) - (-2 - nI k) = nI k := by
  match k, h with
  | 0, _ => decide
  | 1, _ => decide
  | 2, _ => decide
  | 3, _ => decide
theorem m2_n {k : Nat} (h : k < 4) : (-2 : Int32) - nI k < 0 := by
  match k, h with
  | 0, _ => decide
  | 1, _ => decide
  | 2, _ => decide
  | 3, _ => decide
theorem m2_m {k : Nat} (h : k < 4) : ¬ (-2 : Int32) - nI k = -1 := by
  match k, h with
  | 0, _ => decide
  | 1, _ => decide
  | 2, _ => decide
  | 3, _ => decide
end
section
set_option maxHeartbeats 4000000 in
set_option maxRecDepth 100000 in
theorem c_10_enter (l : Launch) (S : St) (α : Al) (n np nh jm p b : Nat) (hm : MSh S) (hnp : aI α 0 26 = nI np) (hn60 : np ≤ 60) (hnh : aI α 0 9 = nI nh) (hn8 : nh ≤ 8) (hjm : aI α 0 38 = nI jm) (hj60 : jm < 60) (hp : p < 60) (hb : b < 6) (hsz : ∀ j, j < np → dNn (aD α 22 j)) (hT : TT α n) (hn : n + 9 < 2 ^ 30) : Ct l yX10_enter cX10_enter 3 (none : Option Jvm.ClassFile.FieldType) (rm 2 0 0 48) [.ref (sA S 10 0), .int (nI p), .int (nI b)] (wr S α) (fun r S' => r = none ∧ S' = wr S (enterF α p b)) := by
  refine Ct.of (by decide) (Nat.le_of_ble_eq_true rfl) (fun X hM => ?_)
  have hO := hM.1
  obtain rfl := hM.l
  have e26 : nn (aI α 0 26) = np := by rw [hnp]; exact nn_nI (by omega)
  have e9 : nn (aI α 0 9) = nh := by rw [hnh]; exact nn_nI (by omega)
  have e38 : nn (aI α 0 38) = jm := by rw [hjm]; exact nn_nI (by omega)
  show Jg X 0 0 (wr S α) 0 [(0, .ref (sA S 10 0)), (1, .int (nI p)), (2, .int (nI b))] []
  refine j_aload_n (q := 1) hO dX10_enter_0 rfl rfl ?_
  refine m_getA (j := 31) (x := 44) (q := 4) hO hm dX10_enter_1 rfl mw_529 (by decide) rfl rfl ?_
  refine j_iload_n (q := 5) hO dX10_enter_4 rfl rfl ?_
  refine j_iconst (v := 0) (q := 6) hO dX10_enter_5 rfl (by decide) ?_
  refine m_iast (x := 44) (a := 25) (q := 7) hO hm MK_44 dX10_enter_6 rfl rfl rfl (by omega) ?_
  refine j_aload_n (q := 8) hO dX10_enter_7 rfl rfl ?_
  refine m_getI (j := 35) (q := 11) hO hm dX10_enter_8 rfl mw_533 (by decide) rfl ?_
  refine j_aload_n (q := 12) hO dX10_enter_11 rfl rfl ?_
  refine m_getA (j := 8) (x := 26) (q := 15) hO hm dX10_enter_12 rfl mw_506 (by decide) rfl rfl ?_
  refine j_iload_n (q := 16) hO dX10_enter_15 rfl rfl ?_
  refine m_iald (x := 26) (a := 7) (q := 17) hO hm MK_26 dX10_enter_16 rfl rfl rfl (by omega) ?_
  refine j_icmp_ge (tgt := 30) (q := 20) hO dX10_enter_17 rfl (by decide) (fun c17 => ?_) (fun c17 => ?_)
  · refine j_aload_n (q := 31) hO dX10_enter_30 rfl rfl ?_
    refine m_getA (j := 5) (x := 23) (q := 34) hO hm dX10_enter_31 rfl mw_503 (by decide) rfl rfl ?_
    refine j_iload_n (q := 35) hO dX10_enter_34 rfl rfl ?_
    refine m_zald (x := 23) (a := 4) (q := 36) hO hm MK_23 dX10_enter_35 rfl rfl rfl (by omega) ?_
    refine j_if_eq (tgt := 168) (q := 39) hO dX10_enter_36 rfl (by decide) (fun c36 => ?_) (fun c36 => ?_)
    · refine j_aload_n (q := 169) hO dX10_enter_168 rfl rfl ?_
      refine m_getA (j := 31) (x := 44) (q := 172) hO hm dX10_enter_169 rfl mw_529 (by decide) rfl rfl ?_
      refine j_iload_n (q := 173) hO dX10_enter_172 rfl rfl ?_
      refine j_iconst (v := 1) (q := 174) hO dX10_enter_173 rfl (by decide) ?_
      refine m_iast (x := 44) (a := 25) (q := 175) hO hm MK_44 dX10_enter_174 rfl rfl rfl (by omega) ?_
      refine j_aload_n (q := 176) hO dX10_enter_175 rfl rfl ?_
      refine m_getA (j := 32) (x := 45) (q := 179) hO hm dX10_enter_176 rfl mw_530 (by decide) rfl rfl ?_
      refine j_iload_n (q := 180) hO dX10_enter_179 rfl rfl ?_
      refine j_iload_n (q := 181) hO dX10_enter_180 rfl rfl ?_
      refine m_iast (x := 45) (a := 26) (q := 182) hO hm MK_45 dX10_enter_181 rfl rfl rfl (by omega) ?_
      refine j_aload_n (q := 183) hO dX10_enter_182 rfl rfl ?_
      refine m_getA (j := 33) (x := 46) (q := 186) hO hm dX10_enter_183 rfl mw_531 (by decide) rfl rfl ?_
      refine j_iload_n (q := 187) hO dX10_enter_186 rfl rfl ?_
      refine j_iconst (v := 0) (q := 188) hO dX10_enter_187 rfl (by decide) ?_
      refine m_iast (x := 46) (a := 27) (q := 189) hO hm MK_46 dX10_enter_188 rfl rfl rfl (by omega) ?_
      refine j_aload_n (q := 190) hO dX10_enter_189 rfl rfl ?_
      refine j_iload_n (q := 191) hO dX10_enter_190 rfl rfl ?_
      refine j_iconst (v := 0) (q := 192) hO dX10_enter_191 rfl (by decide) ?_
      refine j_iload_n (q := 193) hO dX10_enter_192 rfl rfl ?_
      refine j_callV (x := 10) (q := 196) hO (c_10_note (lx X) S _ n _ _ _ hm (hT.same rfl) (by omega)) M_10_note mw_701 CK_10 rfl hm.1 rfl rfl rfl (by unfold roomy; rw [hM.R]; exact ⟨⟨Nat.le_of_ble_eq_true rfl, Nat.le_of_ble_eq_true rfl⟩, ⟨Nat.le_of_ble_eq_true rfl, Nat.le_of_ble_eq_true rfl⟩, Nat.le_of_ble_eq_true rfl⟩) dX10_enter_193 rfl (fun v_193 S_193 hp_193 => ?_)
      obtain ⟨rfl, rfl⟩ := hp_193
      refine j_aload_n (q := 197) hO dX10_enter_196 rfl rfl ?_
      refine j_iload_n (q := 198) hO dX10_enter_197 rfl rfl ?_
      refine j_callV (x := 10) (q := 201) hO (c_10_pass (lx X) S _ (n + 1) nh p hm ((noteF_I (by decide) (by decide)).trans hnh) hn8 hp (TT.note (hT.same rfl)) (by omega)) M_10_pass mw_713 CK_10 rfl hm.1 rfl rfl rfl (by unfold roomy; rw [hM.R]; exact ⟨⟨Nat.le_of_ble_eq_true rfl, Nat.le_of_ble_eq_true rfl⟩, ⟨Nat.le_of_ble_eq_true rfl, Nat.le_of_ble_eq_true rfl⟩, Nat.le_of_ble_eq_true rfl⟩) dX10_enter_198 rfl (fun v_198 S_198 hp_198 => ?_)
      obtain ⟨rfl, rfl⟩ := hp_198
      exact j_vret hM dX10_enter_201 (Nat.le_of_ble_eq_true rfl) (Nat.le_of_ble_eq_true rfl) ⟨rfl, by unfold enterF; rw [if_pos (show aI α 7 b ≤ aI α 0 35 from c17), if_pos (Or.inl (show aI α 4 b = 0 from c36)), e9]; rfl⟩
    · refine j_aload_n (q := 40) hO dX10_enter_39 rfl rfl ?_
      refine j_iload_n (q := 41) hO dX10_enter_40 rfl rfl ?_
      refine j_iload_n (q := 42) hO dX10_enter_41 rfl rfl ?_
      refine j_callV (x := 10) (q := 45) hO (c_10_sizesOn (lx X) S _ np _ _ hm hnp hn60 hsz) M_10_sizesOn mw_705 CK_10 rfl hm.1 rfl rfl rfl (by unfold roomy; rw [hM.R]; exact ⟨⟨Nat.le_of_ble_eq_true rfl, Nat.le_of_ble_eq_true rfl⟩, ⟨Nat.le_of_ble_eq_true rfl, Nat.le_of_ble_eq_true rfl⟩, Nat.le_of_ble_eq_true rfl⟩) dX10_enter_42 rfl (fun v_42 S_42 hp_42 => ?_)
      obtain ⟨rfl, rfl⟩ := hp_42
      refine j_aload_n (q := 46) hO dX10_enter_45 rfl rfl ?_
      refine m_getA (j := 6) (x := 24) (q := 49) hO hm dX10_enter_46 rfl mw_504 (by decide) rfl rfl ?_
      refine j_iload_n (q := 50) hO dX10_enter_49 rfl rfl ?_
      refine m_dald (x := 24) (a := 5) (q := 51) hO hm MK_24 dX10_enter_50 rfl rfl rfl (by omega) ?_
      refine j_dcmp (q := 52) hO dX10_enter_51 rfl ?_
      refine j_if_le (tgt := 168) (q := 55) hO dX10_enter_52 rfl (by decide) (fun c52 => ?_) (fun c52 => ?_)
      · refine j_aload_n (q := 169) hO dX10_enter_168 rfl rfl ?_
        refine m_getA (j := 31) (x := 44) (q := 172) hO hm dX10_enter_169 rfl mw_529 (by decide) rfl rfl ?_
        refine j_iload_n (q := 173) hO dX10_enter_172 rfl rfl ?_
        refine j_iconst (v := 1) (q := 174) hO dX10_enter_173 rfl (by decide) ?_
        refine m_iast (x := 44) (a := 25) (q := 175) hO hm MK_44 dX10_enter_174 rfl rfl rfl (by omega) ?_
        refine j_aload_n (q := 176) hO dX10_enter_175 rfl rfl ?_
        refine m_getA (j := 32) (x := 45) (q := 179) hO hm dX10_enter_176 rfl mw_530 (by decide) rfl rfl ?_
        refine j_iload_n (q := 180) hO dX10_enter_179 rfl rfl ?_
        refine j_iload_n (q := 181) hO dX10_enter_180 rfl rfl ?_
        refine m_iast (x := 45) (a := 26) (q := 182) hO hm MK_45 dX10_enter_181 rfl rfl rfl (by omega) ?_
        refine j_aload_n (q := 183) hO dX10_enter_182 rfl rfl ?_
        refine m_getA (j := 33) (x := 46) (q := 186) hO hm dX10_enter_183 rfl mw_531 (by decide) rfl rfl ?_
        refine j_iload_n (q := 187) hO dX10_enter_186 rfl rfl ?_
        refine j_iconst (v := 0) (q := 188) hO dX10_enter_187 rfl (by decide) ?_
        refine m_iast (x := 46) (a := 27) (q := 189) hO hm MK_46 dX10_enter_188 rfl rfl rfl (by omega) ?_
        refine j_aload_n (q := 190) hO dX10_enter_189 rfl rfl ?_
        refine j_iload_n (q := 191) hO dX10_enter_190 rfl rfl ?_
        refine j_iconst (v := 0) (q := 192) hO dX10_enter_191 rfl (by decide) ?_
        refine j_iload_n (q := 193) hO dX10_enter_192 rfl rfl ?_
        refine j_callV (x := 10) (q := 196) hO (c_10_note (lx X) S _ n _ _ _ hm (hT.same rfl) (by omega)) M_10_note mw_701 CK_10 rfl hm.1 rfl rfl rfl (by unfold roomy; rw [hM.R]; exact ⟨⟨Nat.le_of_ble_eq_true rfl, Nat.le_of_ble_eq_true rfl⟩, ⟨Nat.le_of_ble_eq_true rfl, Nat.le_of_ble_eq_true rfl⟩, Nat.le_of_ble_eq_true rfl⟩) dX10_enter_193 rfl (fun v_193 S_193 hp_193 => ?_)
        obtain ⟨rfl, rfl⟩ := hp_193
        refine j_aload_n (q := 197) hO dX10_enter_196 rfl rfl ?_
        refine j_iload_n (q := 198) hO dX10_enter_197 rfl rfl ?_
        refine j_callV (x := 10) (q := 201) hO (c_10_pass (lx X) S _ (n + 1) nh p hm ((noteF_I (by decide) (by decide)).trans hnh) hn8 hp (TT.note (hT.same rfl)) (by omega)) M_10_pass mw_713 CK_10 rfl hm.1 rfl rfl rfl (by unfold roomy; rw [hM.R]; exact ⟨⟨Nat.le_of_ble_eq_true rfl, Nat.le_of_ble_eq_true rfl⟩, ⟨Nat.le_of_ble_eq_true rfl, Nat.le_of_ble_eq_true rfl⟩, Nat.le_of_ble_eq_true rfl⟩) dX10_enter_198 rfl (fun v_198 S_198 hp_198 => ?_)
        obtain ⟨rfl, rfl⟩ := hp_198
        exact j_vret hM dX10_enter_201 (Nat.le_of_ble_eq_true rfl) (Nat.le_of_ble_eq_true rfl) ⟨rfl, by unfold enterF; rw [if_pos (show aI α 7 b ≤ aI α 0 35 from c17), e26, if_pos (Or.inr (show Op.cmpValue (FP.dcmp (szF (qI α 25 p 0) (nI b) (nI p) np) (aD α 5 b)) .l ≤ 0 from c52)), e9]; rfl⟩
      · refine j_aload_n (q := 56) hO dX10_enter_55 rfl rfl ?_
        refine m_getA (j := 39) (x := 49) (q := 59) hO hm dX10_enter_56 rfl mw_537 (by decide) rfl rfl ?_
        refine j_iconst (v := 4) (q := 60) hO dX10_enter_59 rfl (by decide) ?_
        refine j_aload_n (q := 61) hO dX10_enter_60 rfl rfl ?_
        refine m_getI (j := 38) (q := 64) hO hm dX10_enter_61 rfl mw_536 (by decide) rfl ?_
        refine j_imul (q := 65) hO dX10_enter_64 rfl ?_
        refine j_aload_n (q := 66) hO dX10_enter_65 rfl rfl ?_
        refine m_getI (j := 35) (q := 69) hO hm dX10_enter_66 rfl mw_533 (by decide) rfl ?_
        refine m_iast (x := 49) (a := 30) (q := 70) hO hm MK_49 dX10_enter_69 rfl rfl (j := 4 * jm) (by show (4 : Int32) * aI α 0 38 = _; rw [hjm]; exact ix40 jm) (by omega) ?_
        refine j_aload_n (q := 71) hO dX10_enter_70 rfl rfl ?_
        refine m_getA (j := 39) (x := 49) (q := 74) hO hm dX10_enter_71 rfl mw_537 (by decide) rfl rfl ?_
        refine j_iconst (v := 4) (q := 75) hO dX10_enter_74 rfl (by decide) ?_
        refine j_aload_n (q := 76) hO dX10_enter_75 rfl rfl ?_
        refine m_getI (j := 38) (q := 79) hO hm dX10_enter_76 rfl mw_536 (by decide) rfl ?_
        refine j_imul (q := 80) hO dX10_enter_79 rfl ?_
        refine j_iconst (v := 1) (q := 81) hO dX10_enter_80 rfl (by decide) ?_
        refine j_iadd (q := 82) hO dX10_enter_81 rfl ?_
        refine j_iload_n (q := 83) hO dX10_enter_82 rfl rfl ?_
        refine m_iast (x := 49) (a := 30) (q := 84) hO hm MK_49 dX10_enter_83 rfl rfl (j := 4 * jm + 1) (by show (4 : Int32) * aI α 0 38 + nI 1 = _; rw [hjm]; exact ix4 jm 1) (by omega) ?_
        refine j_aload_n (q := 85) hO dX10_enter_84 rfl rfl ?_
        refine m_getA (j := 39) (x := 49) (q := 88) hO hm dX10_enter_85 rfl mw_537 (by decide) rfl rfl ?_
        refine j_iconst (v := 4) (q := 89) hO dX10_enter_88 rfl (by decide) ?_
        refine j_aload_n (q := 90) hO dX10_enter_89 rfl rfl ?_
        refine m_getI (j := 38) (q := 93) hO hm dX10_enter_90 rfl mw_536 (by decide) rfl ?_
        refine j_imul (q := 94) hO dX10_enter_93 rfl ?_
        refine j_iconst (v := 2) (q := 95) hO dX10_enter_94 rfl (by decide) ?_
        refine j_iadd (q := 96) hO dX10_enter_95 rfl ?_
        refine j_iload_n (q := 97) hO dX10_enter_96 rfl rfl ?_
        refine m_iast (x := 49) (a := 30) (q := 98) hO hm MK_49 dX10_enter_97 rfl rfl (j := 4 * jm + 2) (by show (4 : Int32) * aI α 0 38 + nI 2 = _; rw [hjm]; exact ix4 jm 2) (by omega) ?_
        refine j_aload_n (q := 99) hO dX10_enter_98 rfl rfl ?_
        refine m_getA (j := 39) (x := 49) (q := 102) hO hm dX10_enter_99 rfl mw_537 (by decide) rfl rfl ?_
        refine j_iconst (v := 4) (q := 103) hO dX10_enter_102 rfl (by decide) ?_
        refine j_aload_n (q := 104) hO dX10_enter_103 rfl rfl ?_
        refine m_getI (j := 38) (q := 107) hO hm dX10_enter_104 rfl mw_536 (by decide) rfl ?_
        refine j_imul (q := 108) hO dX10_enter_107 rfl ?_
        refine j_iconst (v := 3) (q := 109) hO dX10_enter_108 rfl (by decide) ?_
        refine j_iadd (q := 110) hO dX10_enter_109 rfl ?_
        refine j_aload_n (q := 111) hO dX10_enter_110 rfl rfl ?_
        refine j_iload_n (q := 112) hO dX10_enter_111 rfl rfl ?_
        refine j_callV (x := 10) (q := 115) hO (c_10_piecesOn (lx X) S _ np _ hm hnp hn60) M_10_piecesOn mw_709 CK_10 rfl hm.1 rfl rfl rfl (by unfold roomy; rw [hM.R]; exact ⟨⟨Nat.le_of_ble_eq_true rfl, Nat.le_of_ble_eq_true rfl⟩, ⟨Nat.le_of_ble_eq_true rfl, Nat.le_of_ble_eq_true rfl⟩, Nat.le_of_ble_eq_true rfl⟩) dX10_enter_112 rfl (fun v_112 S_112 hp_112 => ?_)
        obtain ⟨rfl, rfl⟩ := hp_112
        refine m_iast (x := 49) (a := 30) (q := 116) hO hm MK_49 dX10_enter_115 rfl rfl (j := 4 * jm + 3) (by show (4 : Int32) * aI α 0 38 + nI 3 = _; rw [hjm]; exact ix4 jm 3) (by omega) ?_
        refine j_aload_n (q := 117) hO dX10_enter_116 rfl rfl ?_
        refine j_dup (q := 118) hO dX10_enter_117 rfl rfl ?_
        refine m_getI (j := 38) (q := 121) hO hm dX10_enter_118 rfl mw_536 (by decide) rfl ?_
        refine j_iconst (v := 1) (q := 122) hO dX10_enter_121 rfl (by decide) ?_
        refine j_iadd (q := 123) hO dX10_enter_122 rfl ?_
        refine m_putI (j := 38) (q := 126) hO hm dX10_enter_123 rfl mw_536 (by decide) rfl rfl (by decide +kernel) ?_
        refine j_aload_n (q := 127) hO dX10_enter_126 rfl rfl ?_
        refine m_getA (j := 40) (x := 50) (q := 130) hO hm dX10_enter_127 rfl mw_538 (by decide) rfl rfl ?_
        refine j_iconst (v := 3) (q := 131) hO dX10_enter_130 rfl (by decide) ?_
        refine j_dup2_11 (q := 132) hO dX10_enter_131 rfl rfl rfl ?_
        refine m_lald (x := 50) (a := 31) (q := 133) hO hm MK_50 dX10_enter_132 rfl rfl (j := 3) rfl (by omega) ?_
        refine j_aload_n (q := 134) hO dX10_enter_133 rfl rfl ?_
        refine m_getA (j := 7) (x := 25) (q := 137) hO hm dX10_enter_134 rfl mw_505 (by decide) rfl rfl ?_
        refine j_iload_n (q := 138) hO dX10_enter_137 rfl rfl ?_
        refine m_iald (x := 25) (a := 6) (q := 139) hO hm MK_25 dX10_enter_138 rfl rfl rfl (by omega) ?_
        refine j_i2l (q := 140) hO dX10_enter_139 rfl ?_
        refine j_ladd (q := 141) hO dX10_enter_140 rfl ?_
        refine m_last (x := 50) (a := 31) (q := 142) hO hm MK_50 dX10_enter_141 rfl rfl (j := 3) rfl (by omega) ?_
        refine j_aload_n (q := 143) hO dX10_enter_142 rfl rfl ?_
        refine m_getA (j := 8) (x := 26) (q := 146) hO hm dX10_enter_143 rfl mw_506 (by decide) rfl rfl ?_
        refine j_iload_n (q := 147) hO dX10_enter_146 rfl rfl ?_
        refine j_aload_n (q := 148) hO dX10_enter_147 rfl rfl ?_
        refine m_getI (j := 35) (q := 151) hO hm dX10_enter_148 rfl mw_533 (by decide) rfl ?_
        refine j_aload_n (q := 152) hO dX10_enter_151 rfl rfl ?_
        refine m_getA (j := 7) (x := 25) (q := 155) hO hm dX10_enter_152 rfl mw_505 (by decide) rfl rfl ?_
        refine j_iload_n (q := 156) hO dX10_enter_155 rfl rfl ?_
        refine m_iald (x := 25) (a := 6) (q := 157) hO hm MK_25 dX10_enter_156 rfl rfl rfl (by omega) ?_
        refine j_iadd (q := 158) hO dX10_enter_157 rfl ?_
        refine m_iast (x := 26) (a := 7) (q := 159) hO hm MK_26 dX10_enter_158 rfl rfl rfl (by omega) ?_
        refine j_aload_n (q := 160) hO dX10_enter_159 rfl rfl ?_
        refine j_iload_n (q := 161) hO dX10_enter_160 rfl rfl ?_
        refine j_iconst (v := 0) (q := 162) hO dX10_enter_161 rfl (by decide) ?_
        refine j_iconst (v := 3) (q := 163) hO dX10_enter_162 rfl (by decide) ?_
        refine j_iload_n (q := 164) hO dX10_enter_163 rfl rfl ?_
        refine j_callV (x := 10) (q := 167) hO (c_10_lose (lx X) S _ n p 0 _ _ hm (hT.same rfl) (by omega) hp (by omega)) M_10_lose mw_697 CK_10 rfl hm.1 rfl rfl rfl (by unfold roomy; rw [hM.R]; exact ⟨⟨Nat.le_of_ble_eq_true rfl, Nat.le_of_ble_eq_true rfl⟩, ⟨Nat.le_of_ble_eq_true rfl, Nat.le_of_ble_eq_true rfl⟩, Nat.le_of_ble_eq_true rfl⟩) dX10_enter_164 rfl (fun v_164 S_164 hp_164 => ?_)
        obtain ⟨rfl, rfl⟩ := hp_164
        exact j_vret hM dX10_enter_167 (Nat.le_of_ble_eq_true rfl) (Nat.le_of_ble_eq_true rfl) ⟨rfl, by unfold enterF; rw [if_pos (show aI α 7 b ≤ aI α 0 35 from c17), e26, if_neg (show ¬ (aI α 4 b = 0 ∨ Op.cmpValue (FP.dcmp (szF (qI α 25 p 0) (nI b) (nI p) np) (aD α 5 b)) .l ≤ 0) from fun z => z.elim c36 c52)]; unfold jamF; rw [show nn (aI (qI α 25 p 0) 0 38) = jm from e38, ← pcF_congr (α := qI α 25 p 0) (β := qI (qI (qI (qI α 25 p 0) 30 (4 * jm) (aI α 0 35)) 30 (4 * jm + 1) (nI p)) 30 (4 * jm + 2) (nI b)) (fun _ => rfl) (fun _ => rfl) np]; rfl⟩
  · refine j_aload_n (q := 21) hO dX10_enter_20 rfl rfl ?_
    refine j_iload_n (q := 22) hO dX10_enter_21 rfl rfl ?_
    refine j_iconst (v := 1) (q := 23) hO dX10_enter_22 rfl (by decide) ?_
    refine j_bipush (v := 7) (q := 25) hO dX10_enter_23 rfl (by decide) ?_
    refine j_iload_n (q := 26) hO dX10_enter_25 rfl rfl ?_
    refine j_callV (x := 10) (q := 29) hO (c_10_lose (lx X) S _ n p 1 _ _ hm (hT.same rfl) (by omega) hp (by omega)) M_10_lose mw_697 CK_10 rfl hm.1 rfl rfl rfl (by unfold roomy; rw [hM.R]; exact ⟨⟨Nat.le_of_ble_eq_true rfl, Nat.le_of_ble_eq_true rfl⟩, ⟨Nat.le_of_ble_eq_true rfl, Nat.le_of_ble_eq_true rfl⟩, Nat.le_of_ble_eq_true rfl⟩) dX10_enter_26 rfl (fun v_26 S_26 hp_26 => ?_)
    obtain ⟨rfl, rfl⟩ := hp_26
    exact j_vret hM dX10_enter_29 (Nat.le_of_ble_eq_true rfl) (Nat.le_of_ble_eq_true rfl) ⟨rfl, by unfold enterF; rw [if_neg (show ¬ aI α 7 b ≤ aI α 0 35 from c17)]⟩
set_option maxHeartbeats 4000000 in
set_option maxRecDepth 100000 in
theorem c_10_goOut (l : Launch) (S : St) (α : Al) (n p b kd : Nat) (hm : MSh S) (hp : p < 60) (hbp : aI α 26 p = nI b) (hb : b < 6) (hkd : aI α 21 p = nI kd) (hk : kd < 5) (hT : TT α n) (hn : n < 2 ^ 30) : Ct l yX10_goOut cX10_goOut 4 (none : Option Jvm.ClassFile.FieldType) (rm 1 0 0 23) [.ref (sA S 10 0), .int (nI p)] (wr S α) (fun r S' => r = none ∧ S' = wr S (outF α p (5 * b + kd))) := by
  refine Ct.of (by decide) (Nat.le_of_ble_eq_true rfl) (fun X hM => ?_)
  have hO := hM.1
  obtain rfl := hM.l
  have hat : (5 : Int32) * aI α 26 p + aI α 21 p = nI (5 * b + kd) := by rw [hbp, hkd]; exact (congrArg (· + nI kd) (pk_mul 5 b)).trans (nI_add _ _)
  show Jg X 0 0 (wr S α) 0 [(0, .ref (sA S 10 0)), (1, .int (nI p))] []
  refine j_iconst (v := 5) (q := 1) hO dX10_goOut_0 rfl (by decide) ?_
  refine j_aload_n (q := 2) hO dX10_goOut_1 rfl rfl ?_
  refine m_getA (j := 32) (x := 45) (q := 5) hO hm dX10_goOut_2 rfl mw_530 (by decide) rfl rfl ?_
  refine j_iload_n (q := 6) hO dX10_goOut_5 rfl rfl ?_
  refine m_iald (x := 45) (a := 26) (q := 7) hO hm MK_45 dX10_goOut_6 rfl rfl rfl (by omega) ?_
  refine j_imul (q := 8) hO dX10_goOut_7 rfl ?_
  refine j_aload_n (q := 9) hO dX10_goOut_8 rfl rfl ?_
  refine m_getA (j := 27) (x := 40) (q := 12) hO hm dX10_goOut_9 rfl mw_525 (by decide) rfl rfl ?_
  refine j_iload_n (q := 13) hO dX10_goOut_12 rfl rfl ?_
  refine m_iald (x := 40) (a := 21) (q := 14) hO hm MK_40 dX10_goOut_13 rfl rfl rfl (by omega) ?_
  refine j_iadd (q := 15) hO dX10_goOut_14 rfl ?_
  refine j_istore_n (q := 16) hO dX10_goOut_15 rfl (by rw [hM.nL]; decide) rfl ?_
  refine j_aload_n (q := 17) hO dX10_goOut_16 rfl rfl ?_
  refine m_getA (j := 41) (x := 51) (q := 20) hO hm dX10_goOut_17 rfl mw_539 (by decide) rfl rfl ?_
  refine j_iload_n (q := 21) hO dX10_goOut_20 rfl rfl ?_
  refine m_iald (x := 51) (a := 32) (q := 22) hO hm MK_51 dX10_goOut_21 rfl rfl (j := 5 * b + kd) hat (by omega) ?_
  refine j_if_le (tgt := 109) (q := 25) hO dX10_goOut_22 rfl (by decide) (fun c22 => ?_) (fun c22 => ?_)
  · refine j_aload_n (q := 110) hO dX10_goOut_109 rfl rfl ?_
    refine m_getA (j := 41) (x := 51) (q := 113) hO hm dX10_goOut_110 rfl mw_539 (by decide) rfl rfl ?_
    refine j_iload_n (q := 114) hO dX10_goOut_113 rfl rfl ?_
    refine j_dup2_11 (q := 115) hO dX10_goOut_114 rfl rfl rfl ?_
    refine m_iald (x := 51) (a := 32) (q := 116) hO hm MK_51 dX10_goOut_115 rfl rfl (j := 5 * b + kd) hat (by omega) ?_
    refine j_iconst (v := 1) (q := 117) hO dX10_goOut_116 rfl (by decide) ?_
    refine j_iadd (q := 118) hO dX10_goOut_117 rfl ?_
    refine m_iast (x := 51) (a := 32) (q := 119) hO hm MK_51 dX10_goOut_118 rfl rfl (j := 5 * b + kd) hat (by omega) ?_
    refine j_aload_n (q := 120) hO dX10_goOut_119 rfl rfl ?_
    refine m_getA (j := 42) (x := 52) (q := 123) hO hm dX10_goOut_120 rfl mw_540 (by decide) rfl rfl ?_
    refine j_iload_n (q := 124) hO dX10_goOut_123 rfl rfl ?_
    refine j_aload_n (q := 125) hO dX10_goOut_124 rfl rfl ?_
    refine m_getI (j := 35) (q := 128) hO hm dX10_goOut_125 rfl mw_533 (by decide) rfl ?_
    refine m_iast (x := 52) (a := 33) (q := 129) hO hm MK_52 dX10_goOut_128 rfl rfl (j := 5 * b + kd) hat (by omega) ?_
    refine j_aload_n (q := 130) hO dX10_goOut_129 rfl rfl ?_
    refine m_getA (j := 31) (x := 44) (q := 133) hO hm dX10_goOut_130 rfl mw_529 (by decide) rfl rfl ?_
    refine j_iload_n (q := 134) hO dX10_goOut_133 rfl rfl ?_
    refine j_iconst (v := 3) (q := 135) hO dX10_goOut_134 rfl (by decide) ?_
    refine m_iast (x := 44) (a := 25) (q := 136) hO hm MK_44 dX10_goOut_135 rfl rfl rfl (by omega) ?_
    refine j_aload_n (q := 137) hO dX10_goOut_136 rfl rfl ?_
    refine j_iload_n (q := 138) hO dX10_goOut_137 rfl rfl ?_
    refine j_iconst (v := 4) (q := 139) hO dX10_goOut_138 rfl (by decide) ?_
    refine j_aload_n (q := 140) hO dX10_goOut_139 rfl rfl ?_
    refine m_getA (j := 32) (x := 45) (q := 143) hO hm dX10_goOut_140 rfl mw_530 (by decide) rfl rfl ?_
    refine j_iload_n (q := 144) hO dX10_goOut_143 rfl rfl ?_
    refine m_iald (x := 45) (a := 26) (q := 145) hO hm MK_45 dX10_goOut_144 rfl rfl rfl (by omega) ?_
    refine j_callV (x := 10) (q := 148) hO (c_10_note (lx X) S _ n _ _ _ hm (hT.same rfl) hn) M_10_note mw_701 CK_10 rfl hm.1 rfl rfl rfl (by unfold roomy; rw [hM.R]; exact ⟨⟨Nat.le_of_ble_eq_true rfl, Nat.le_of_ble_eq_true rfl⟩, ⟨Nat.le_of_ble_eq_true rfl, Nat.le_of_ble_eq_true rfl⟩, Nat.le_of_ble_eq_true rfl⟩) dX10_goOut_145 rfl (fun v_145 S_145 hp_145 => ?_)
    obtain ⟨rfl, rfl⟩ := hp_145
    exact j_vret hM dX10_goOut_148 (Nat.le_of_ble_eq_true rfl) (Nat.le_of_ble_eq_true rfl) ⟨rfl, by unfold outF gapF; rw [if_pos c22]; rfl⟩
  · refine j_aload_n (q := 26) hO dX10_goOut_25 rfl rfl ?_
    refine m_getI (j := 35) (q := 29) hO hm dX10_goOut_26 rfl mw_533 (by decide) rfl ?_
    refine j_aload_n (q := 30) hO dX10_goOut_29 rfl rfl ?_
    refine m_getA (j := 42) (x := 52) (q := 33) hO hm dX10_goOut_30 rfl mw_540 (by decide) rfl rfl ?_
    refine j_iload_n (q := 34) hO dX10_goOut_33 rfl rfl ?_
    refine m_iald (x := 52) (a := 33) (q := 35) hO hm MK_52 dX10_goOut_34 rfl rfl (j := 5 * b + kd) hat (by omega) ?_
    refine j_isub (q := 36) hO dX10_goOut_35 rfl ?_
    refine j_istore_n (q := 37) hO dX10_goOut_36 rfl (by rw [hM.nL]; decide) rfl ?_
    refine j_aload_n (q := 38) hO dX10_goOut_37 rfl rfl ?_
    refine m_getA (j := 43) (x := 53) (q := 41) hO hm dX10_goOut_38 rfl mw_541 (by decide) rfl rfl ?_
    refine j_iload_n (q := 42) hO dX10_goOut_41 rfl rfl ?_
    refine j_aload_n (q := 43) hO dX10_goOut_42 rfl rfl ?_
    refine m_getA (j := 41) (x := 51) (q := 46) hO hm dX10_goOut_43 rfl mw_539 (by decide) rfl rfl ?_
    refine j_iload_n (q := 47) hO dX10_goOut_46 rfl rfl ?_
    refine m_iald (x := 51) (a := 32) (q := 48) hO hm MK_51 dX10_goOut_47 rfl rfl (j := 5 * b + kd) hat (by omega) ?_
    refine j_iconst (v := 1) (q := 49) hO dX10_goOut_48 rfl (by decide) ?_
    refine j_icmp_eq (tgt := 62) (q := 52) hO dX10_goOut_49 rfl (by decide) (fun c49 => ?_) (fun c49 => ?_)
    · refine j_iload_n (q := 63) hO dX10_goOut_62 rfl rfl ?_
      refine j_goto (tgt := 72) hO dX10_goOut_63 (by decide) ?_
      refine m_iast (x := 53) (a := 34) (q := 73) hO hm MK_53 dX10_goOut_72 rfl rfl (j := 5 * b + kd) hat (by omega) ?_
      refine j_aload_n (q := 74) hO dX10_goOut_73 rfl rfl ?_
      refine m_getA (j := 44) (x := 54) (q := 77) hO hm dX10_goOut_74 rfl mw_542 (by decide) rfl rfl ?_
      refine j_iload_n (q := 78) hO dX10_goOut_77 rfl rfl ?_
      refine j_aload_n (q := 79) hO dX10_goOut_78 rfl rfl ?_
      refine m_getA (j := 41) (x := 51) (q := 82) hO hm dX10_goOut_79 rfl mw_539 (by decide) rfl rfl ?_
      refine j_iload_n (q := 83) hO dX10_goOut_82 rfl rfl ?_
      refine m_iald (x := 51) (a := 32) (q := 84) hO hm MK_51 dX10_goOut_83 rfl rfl (j := 5 * b + kd) hat (by omega) ?_
      refine j_iconst (v := 1) (q := 85) hO dX10_goOut_84 rfl (by decide) ?_
      refine j_icmp_eq (tgt := 98) (q := 88) hO dX10_goOut_85 rfl (by decide) (fun c85 => ?_) (fun c85 => ?_)
      · refine j_iload_n (q := 99) hO dX10_goOut_98 rfl rfl ?_
        refine j_goto (tgt := 108) hO dX10_goOut_99 (by decide) ?_
        refine m_iast (x := 54) (a := 35) (q := 109) hO hm MK_54 dX10_goOut_108 rfl rfl (j := 5 * b + kd) hat (by omega) ?_
        refine j_aload_n (q := 110) hO dX10_goOut_109 rfl rfl ?_
        refine m_getA (j := 41) (x := 51) (q := 113) hO hm dX10_goOut_110 rfl mw_539 (by decide) rfl rfl ?_
        refine j_iload_n (q := 114) hO dX10_goOut_113 rfl rfl ?_
        refine j_dup2_11 (q := 115) hO dX10_goOut_114 rfl rfl rfl ?_
        refine m_iald (x := 51) (a := 32) (q := 116) hO hm MK_51 dX10_goOut_115 rfl rfl (j := 5 * b + kd) hat (by omega) ?_
        refine j_iconst (v := 1) (q := 117) hO dX10_goOut_116 rfl (by decide) ?_
        refine j_iadd (q := 118) hO dX10_goOut_117 rfl ?_
        refine m_iast (x := 51) (a := 32) (q := 119) hO hm MK_51 dX10_goOut_118 rfl rfl (j := 5 * b + kd) hat (by omega) ?_
        refine j_aload_n (q := 120) hO dX10_goOut_119 rfl rfl ?_
        refine m_getA (j := 42) (x := 52) (q := 123) hO hm dX10_goOut_120 rfl mw_540 (by decide) rfl rfl ?_
        refine j_iload_n (q := 124) hO dX10_goOut_123 rfl rfl ?_
        refine j_aload_n (q := 125) hO dX10_goOut_124 rfl rfl ?_
        refine m_getI (j := 35) (q := 128) hO hm dX10_goOut_125 rfl mw_533 (by decide) rfl ?_
        refine m_iast (x := 52) (a := 33) (q := 129) hO hm MK_52 dX10_goOut_128 rfl rfl (j := 5 * b + kd) hat (by omega) ?_
        refine j_aload_n (q := 130) hO dX10_goOut_129 rfl rfl ?_
        refine m_getA (j := 31) (x := 44) (q := 133) hO hm dX10_goOut_130 rfl mw_529 (by decide) rfl rfl ?_
        refine j_iload_n (q := 134) hO dX10_goOut_133 rfl rfl ?_
        refine j_iconst (v := 3) (q := 135) hO dX10_goOut_134 rfl (by decide) ?_
        refine m_iast (x := 44) (a := 25) (q := 136) hO hm MK_44 dX10_goOut_135 rfl rfl rfl (by omega) ?_
        refine j_aload_n (q := 137) hO dX10_goOut_136 rfl rfl ?_
        refine j_iload_n (q := 138) hO dX10_goOut_137 rfl rfl ?_
        refine j_iconst (v := 4) (q := 139) hO dX10_goOut_138 rfl (by decide) ?_
        refine j_aload_n (q := 140) hO dX10_goOut_139 rfl rfl ?_
        refine m_getA (j := 32) (x := 45) (q := 143) hO hm dX10_goOut_140 rfl mw_530 (by decide) rfl rfl ?_
        refine j_iload_n (q := 144) hO dX10_goOut_143 rfl rfl ?_
        refine m_iald (x := 45) (a := 26) (q := 145) hO hm MK_45 dX10_goOut_144 rfl rfl rfl (by omega) ?_
        refine j_callV (x := 10) (q := 148) hO (c_10_note (lx X) S _ n _ _ _ hm (hT.same rfl) hn) M_10_note mw_701 CK_10 rfl hm.1 rfl rfl rfl (by unfold roomy; rw [hM.R]; exact ⟨⟨Nat.le_of_ble_eq_true rfl, Nat.le_of_ble_eq_true rfl⟩, ⟨Nat.le_of_ble_eq_true rfl, Nat.le_of_ble_eq_true rfl⟩, Nat.le_of_ble_eq_true rfl⟩) dX10_goOut_145 rfl (fun v_145 S_145 hp_145 => ?_)
        obtain ⟨rfl, rfl⟩ := hp_145
        exact j_vret hM dX10_goOut_148 (Nat.le_of_ble_eq_true rfl) (Nat.le_of_ble_eq_true rfl) ⟨rfl, by unfold outF gapF; rw [if_neg c22, if_pos (Or.inl c49), if_pos (Or.inl (show aI α 32 (5 * b + kd) = 1 from c85))]; rfl⟩
      · refine j_iload_n (q := 89) hO dX10_goOut_88 rfl rfl ?_
        refine j_aload_n (q := 90) hO dX10_goOut_89 rfl rfl ?_
        refine m_getA (j := 44) (x := 54) (q := 93) hO hm dX10_goOut_90 rfl mw_542 (by decide) rfl rfl ?_
        refine j_iload_n (q := 94) hO dX10_goOut_93 rfl rfl ?_
        refine m_iald (x := 54) (a := 35) (q := 95) hO hm MK_54 dX10_goOut_94 rfl rfl (j := 5 * b + kd) hat (by omega) ?_
        refine j_icmp_le (tgt := 102) (q := 98) hO dX10_goOut_95 rfl (by decide) (fun c95 => ?_) (fun c95 => ?_)
        · refine j_aload_n (q := 103) hO dX10_goOut_102 rfl rfl ?_
          refine m_getA (j := 44) (x := 54) (q := 106) hO hm dX10_goOut_103 rfl mw_542 (by decide) rfl rfl ?_
          refine j_iload_n (q := 107) hO dX10_goOut_106 rfl rfl ?_
          refine m_iald (x := 54) (a := 35) (q := 108) hO hm MK_54 dX10_goOut_107 rfl rfl (j := 5 * b + kd) hat (by omega) ?_
          refine m_iast (x := 54) (a := 35) (q := 109) hO hm MK_54 dX10_goOut_108 rfl rfl (j := 5 * b + kd) hat (by omega) ?_
          refine j_aload_n (q := 110) hO dX10_goOut_109 rfl rfl ?_
          refine m_getA (j := 41) (x := 51) (q := 113) hO hm dX10_goOut_110 rfl mw_539 (by decide) rfl rfl ?_
          refine j_iload_n (q := 114) hO dX10_goOut_113 rfl rfl ?_
          refine j_dup2_11 (q := 115) hO dX10_goOut_114 rfl rfl rfl ?_
          refine m_iald (x := 51) (a := 32) (q := 116) hO hm MK_51 dX10_goOut_115 rfl rfl (j := 5 * b + kd) hat (by omega) ?_
          refine j_iconst (v := 1) (q := 117) hO dX10_goOut_116 rfl (by decide) ?_
          refine j_iadd (q := 118) hO dX10_goOut_117 rfl ?_
          refine m_iast (x := 51) (a := 32) (q := 119) hO hm MK_51 dX10_goOut_118 rfl rfl (j := 5 * b + kd) hat (by omega) ?_
          refine j_aload_n (q := 120) hO dX10_goOut_119 rfl rfl ?_
          refine m_getA (j := 42) (x := 52) (q := 123) hO hm dX10_goOut_120 rfl mw_540 (by decide) rfl rfl ?_
          refine j_iload_n (q := 124) hO dX10_goOut_123 rfl rfl ?_
          refine j_aload_n (q := 125) hO dX10_goOut_124 rfl rfl ?_
          refine m_getI (j := 35) (q := 128) hO hm dX10_goOut_125 rfl mw_533 (by decide) rfl ?_
          refine m_iast (x := 52) (a := 33) (q := 129) hO hm MK_52 dX10_goOut_128 rfl rfl (j := 5 * b + kd) hat (by omega) ?_
          refine j_aload_n (q := 130) hO dX10_goOut_129 rfl rfl ?_
          refine m_getA (j := 31) (x := 44) (q := 133) hO hm dX10_goOut_130 rfl mw_529 (by decide) rfl rfl ?_
          refine j_iload_n (q := 134) hO dX10_goOut_133 rfl rfl ?_
          refine j_iconst (v := 3) (q := 135) hO dX10_goOut_134 rfl (by decide) ?_
          refine m_iast (x := 44) (a := 25) (q := 136) hO hm MK_44 dX10_goOut_135 rfl rfl rfl (by omega) ?_
          refine j_aload_n (q := 137) hO dX10_goOut_136 rfl rfl ?_
          refine j_iload_n (q := 138) hO dX10_goOut_137 rfl rfl ?_
          refine j_iconst (v := 4) (q := 139) hO dX10_goOut_138 rfl (by decide) ?_
          refine j_aload_n (q := 140) hO dX10_goOut_139 rfl rfl ?_
          refine m_getA (j := 32) (x := 45) (q := 143) hO hm dX10_goOut_140 rfl mw_530 (by decide) rfl rfl ?_
          refine j_iload_n (q := 144) hO dX10_goOut_143 rfl rfl ?_
          refine m_iald (x := 45) (a := 26) (q := 145) hO hm MK_45 dX10_goOut_144 rfl rfl rfl (by omega) ?_
          refine j_callV (x := 10) (q := 148) hO (c_10_note (lx X) S _ n _ _ _ hm (hT.same rfl) hn) M_10_note mw_701 CK_10 rfl hm.1 rfl rfl rfl (by unfold roomy; rw [hM.R]; exact ⟨⟨Nat.le_of_ble_eq_true rfl, Nat.le_of_ble_eq_true rfl⟩, ⟨Nat.le_of_ble_eq_true rfl, Nat.le_of_ble_eq_true rfl⟩, Nat.le_of_ble_eq_true rfl⟩) dX10_goOut_145 rfl (fun v_145 S_145 hp_145 => ?_)
          obtain ⟨rfl, rfl⟩ := hp_145
          exact j_vret hM dX10_goOut_148 (Nat.le_of_ble_eq_true rfl) (Nat.le_of_ble_eq_true rfl) ⟨rfl, by unfold outF gapF; rw [if_neg c22, if_pos (Or.inl c49), if_neg (show ¬ (aI α 32 (5 * b + kd) = 1 ∨ ¬ aI α 0 35 - aI α 33 (5 * b + kd) ≤ aI α 35 (5 * b + kd)) from fun z => z.elim c85 (fun q => q c95))]; rfl⟩
        · refine j_iload_n (q := 99) hO dX10_goOut_98 rfl rfl ?_
          refine j_goto (tgt := 108) hO dX10_goOut_99 (by decide) ?_
          refine m_iast (x := 54) (a := 35) (q := 109) hO hm MK_54 dX10_goOut_108 rfl rfl (j := 5 * b + kd) hat (by omega) ?_
          refine j_aload_n (q := 110) hO dX10_goOut_109 rfl rfl ?_
          refine m_getA (j := 41) (x := 51) (q := 113) hO hm dX10_goOut_110 rfl mw_539 (by decide) rfl rfl ?_
          refine j_iload_n (q := 114) hO dX10_goOut_113 rfl rfl ?_
          refine j_dup2_11 (q := 115) hO dX10_goOut_114 rfl rfl rfl ?_
          refine m_iald (x := 51) (a := 32) (q := 116) hO hm MK_51 dX10_goOut_115 rfl rfl (j := 5 * b + kd) hat (by omega) ?_
          refine j_iconst (v := 1) (q := 117) hO dX10_goOut_116 rfl (by decide) ?_
          refine j_iadd (q := 118) hO dX10_goOut_117 rfl ?_
          refine m_iast (x := 51) (a := 32) (q := 119) hO hm MK_51 dX10_goOut_118 rfl rfl (j := 5 * b + kd) hat (by omega) ?_
          refine j_aload_n (q := 120) hO dX10_goOut_119 rfl rfl ?_
          refine m_getA (j := 42) (x := 52) (q := 123) hO hm dX10_goOut_120 rfl mw_540 (by decide) rfl rfl ?_
          refine j_iload_n (q := 124) hO dX10_goOut_123 rfl rfl ?_
          refine j_aload_n (q := 125) hO dX10_goOut_124 rfl rfl ?_
          refine m_getI (j := 35) (q := 128) hO hm dX10_goOut_125 rfl mw_533 (by decide) rfl ?_
          refine m_iast (x := 52) (a := 33) (q := 129) hO hm MK_52 dX10_goOut_128 rfl rfl (j := 5 * b + kd) hat (by omega) ?_
          refine j_aload_n (q := 130) hO dX10_goOut_129 rfl rfl ?_
          refine m_getA (j := 31) (x := 44) (q := 133) hO hm dX10_goOut_130 rfl mw_529 (by decide) rfl rfl ?_
          refine j_iload_n (q := 134) hO dX10_goOut_133 rfl rfl ?_
          refine j_iconst (v := 3) (q := 135) hO dX10_goOut_134 rfl (by decide) ?_
          refine m_iast (x := 44) (a := 25) (q := 136) hO hm MK_44 dX10_goOut_135 rfl rfl rfl (by omega) ?_
          refine j_aload_n (q := 137) hO dX10_goOut_136 rfl rfl ?_
          refine j_iload_n (q := 138) hO dX10_goOut_137 rfl rfl ?_
          refine j_iconst (v := 4) (q := 139) hO dX10_goOut_138 rfl (by decide) ?_
          refine j_aload_n (q := 140) hO dX10_goOut_139 rfl rfl ?_
          refine m_getA (j := 32) (x := 45) (q := 143) hO hm dX10_goOut_140 rfl mw_530 (by decide) rfl rfl ?_
          refine j_iload_n (q := 144) hO dX10_goOut_143 rfl rfl ?_
          refine m_iald (x := 45) (a := 26) (q := 145) hO hm MK_45 dX10_goOut_144 rfl rfl rfl (by omega) ?_
          refine j_callV (x := 10) (q := 148) hO (c_10_note (lx X) S _ n _ _ _ hm (hT.same rfl) hn) M_10_note mw_701 CK_10 rfl hm.1 rfl rfl rfl (by unfold roomy; rw [hM.R]; exact ⟨⟨Nat.le_of_ble_eq_true rfl, Nat.le_of_ble_eq_true rfl⟩, ⟨Nat.le_of_ble_eq_true rfl, Nat.le_of_ble_eq_true rfl⟩, Nat.le_of_ble_eq_true rfl⟩) dX10_goOut_145 rfl (fun v_145 S_145 hp_145 => ?_)
          obtain ⟨rfl, rfl⟩ := hp_145
          exact j_vret hM dX10_goOut_148 (Nat.le_of_ble_eq_true rfl) (Nat.le_of_ble_eq_true rfl) ⟨rfl, by unfold outF gapF; rw [if_neg c22, if_pos (Or.inl c49), if_pos (Or.inr (show ¬ aI α 0 35 - aI α 33 (5 * b + kd) ≤ aI α 35 (5 * b + kd) from c95))]; rfl⟩
    · refine j_iload_n (q := 53) hO dX10_goOut_52 rfl rfl ?_
      refine j_aload_n (q := 54) hO dX10_goOut_53 rfl rfl ?_
      refine m_getA (j := 43) (x := 53) (q := 57) hO hm dX10_goOut_54 rfl mw_541 (by decide) rfl rfl ?_
      refine j_iload_n (q := 58) hO dX10_goOut_57 rfl rfl ?_
      refine m_iald (x := 53) (a := 34) (q := 59) hO hm MK_53 dX10_goOut_58 rfl rfl (j := 5 * b + kd) hat (by omega) ?_
      refine j_icmp_ge (tgt := 66) (q := 62) hO dX10_goOut_59 rfl (by decide) (fun c59 => ?_) (fun c59 => ?_)
      · refine j_aload_n (q := 67) hO dX10_goOut_66 rfl rfl ?_
        refine m_getA (j := 43) (x := 53) (q := 70) hO hm dX10_goOut_67 rfl mw_541 (by decide) rfl rfl ?_
        refine j_iload_n (q := 71) hO dX10_goOut_70 rfl rfl ?_
        refine m_iald (x := 53) (a := 34) (q := 72) hO hm MK_53 dX10_goOut_71 rfl rfl (j := 5 * b + kd) hat (by omega) ?_
        refine m_iast (x := 53) (a := 34) (q := 73) hO hm MK_53 dX10_goOut_72 rfl rfl (j := 5 * b + kd) hat (by omega) ?_
        refine j_aload_n (q := 74) hO dX10_goOut_73 rfl rfl ?_
        refine m_getA (j := 44) (x := 54) (q := 77) hO hm dX10_goOut_74 rfl mw_542 (by decide) rfl rfl ?_
        refine j_iload_n (q := 78) hO dX10_goOut_77 rfl rfl ?_
        refine j_aload_n (q := 79) hO dX10_goOut_78 rfl rfl ?_
        refine m_getA (j := 41) (x := 51) (q := 82) hO hm dX10_goOut_79 rfl mw_539 (by decide) rfl rfl ?_
        refine j_iload_n (q := 83) hO dX10_goOut_82 rfl rfl ?_
        refine m_iald (x := 51) (a := 32) (q := 84) hO hm MK_51 dX10_goOut_83 rfl rfl (j := 5 * b + kd) hat (by omega) ?_
        refine j_iconst (v := 1) (q := 85) hO dX10_goOut_84 rfl (by decide) ?_
        refine j_icmp_eq (tgt := 98) (q := 88) hO dX10_goOut_85 rfl (by decide) (fun c85 => ?_) (fun c85 => ?_)
        · refine j_iload_n (q := 99) hO dX10_goOut_98 rfl rfl ?_
          refine j_goto (tgt := 108) hO dX10_goOut_99 (by decide) ?_
          refine m_iast (x := 54) (a := 35) (q := 109) hO hm MK_54 dX10_goOut_108 rfl rfl (j := 5 * b + kd) hat (by omega) ?_
          refine j_aload_n (q := 110) hO dX10_goOut_109 rfl rfl ?_
          refine m_getA (j := 41) (x := 51) (q := 113) hO hm dX10_goOut_110 rfl mw_539 (by decide) rfl rfl ?_
          refine j_iload_n (q := 114) hO dX10_goOut_113 rfl rfl ?_
          refine j_dup2_11 (q := 115) hO dX10_goOut_114 rfl rfl rfl ?_
          refine m_iald (x := 51) (a := 32) (q := 116) hO hm MK_51 dX10_goOut_115 rfl rfl (j := 5 * b + kd) hat (by omega) ?_
          refine j_iconst (v := 1) (q := 117) hO dX10_goOut_116 rfl (by decide) ?_
          refine j_iadd (q := 118) hO dX10_goOut_117 rfl ?_
          refine m_iast (x := 51) (a := 32) (q := 119) hO hm MK_51 dX10_goOut_118 rfl rfl (j := 5 * b + kd) hat (by omega) ?_
          refine j_aload_n (q := 120) hO dX10_goOut_119 rfl rfl ?_
          refine m_getA (j := 42) (x := 52) (q := 123) hO hm dX10_goOut_120 rfl mw_540 (by decide) rfl rfl ?_
          refine j_iload_n (q := 124) hO dX10_goOut_123 rfl rfl ?_
          refine j_aload_n (q := 125) hO dX10_goOut_124 rfl rfl ?_
          refine m_getI (j := 35) (q := 128) hO hm dX10_goOut_125 rfl mw_533 (by decide) rfl ?_
          refine m_iast (x := 52) (a := 33) (q := 129) hO hm MK_52 dX10_goOut_128 rfl rfl (j := 5 * b + kd) hat (by omega) ?_
          refine j_aload_n (q := 130) hO dX10_goOut_129 rfl rfl ?_
          refine m_getA (j := 31) (x := 44) (q := 133) hO hm dX10_goOut_130 rfl mw_529 (by decide) rfl rfl ?_
          refine j_iload_n (q := 134) hO dX10_goOut_133 rfl rfl ?_
          refine j_iconst (v := 3) (q := 135) hO dX10_goOut_134 rfl (by decide) ?_
          refine m_iast (x := 44) (a := 25) (q := 136) hO hm MK_44 dX10_goOut_135 rfl rfl rfl (by omega) ?_
          refine j_aload_n (q := 137) hO dX10_goOut_136 rfl rfl ?_
          refine j_iload_n (q := 138) hO dX10_goOut_137 rfl rfl ?_
          refine j_iconst (v := 4) (q := 139) hO dX10_goOut_138 rfl (by decide) ?_
          refine j_aload_n (q := 140) hO dX10_goOut_139 rfl rfl ?_
          refine m_getA (j := 32) (x := 45) (q := 143) hO hm dX10_goOut_140 rfl mw_530 (by decide) rfl rfl ?_
          refine j_iload_n (q := 144) hO dX10_goOut_143 rfl rfl ?_
          refine m_iald (x := 45) (a := 26) (q := 145) hO hm MK_45 dX10_goOut_144 rfl rfl rfl (by omega) ?_
          refine j_callV (x := 10) (q := 148) hO (c_10_note (lx X) S _ n _ _ _ hm (hT.same rfl) hn) M_10_note mw_701 CK_10 rfl hm.1 rfl rfl rfl (by unfold roomy; rw [hM.R]; exact ⟨⟨Nat.le_of_ble_eq_true rfl, Nat.le_of_ble_eq_true rfl⟩, ⟨Nat.le_of_ble_eq_true rfl, Nat.le_of_ble_eq_true rfl⟩, Nat.le_of_ble_eq_true rfl⟩) dX10_goOut_145 rfl (fun v_145 S_145 hp_145 => ?_)
          obtain ⟨rfl, rfl⟩ := hp_145
          exact j_vret hM dX10_goOut_148 (Nat.le_of_ble_eq_true rfl) (Nat.le_of_ble_eq_true rfl) ⟨rfl, by unfold outF gapF; rw [if_neg c22, if_neg (fun z => z.elim c49 (fun q => q c59)), if_pos (Or.inl (show aI α 32 (5 * b + kd) = 1 from c85))]; rfl⟩
        · refine j_iload_n (q := 89) hO dX10_goOut_88 rfl rfl ?_
          refine j_aload_n (q := 90) hO dX10_goOut_89 rfl rfl ?_
          refine m_getA (j := 44) (x := 54) (q := 93) hO hm dX10_goOut_90 rfl mw_542 (by decide) rfl rfl ?_
          refine j_iload_n (q := 94) hO dX10_goOut_93 rfl rfl ?_
          refine m_iald (x := 54) (a := 35) (q := 95) hO hm MK_54 dX10_goOut_94 rfl rfl (j := 5 * b + kd) hat (by omega) ?_
          refine j_icmp_le (tgt := 102) (q := 98) hO dX10_goOut_95 rfl (by decide) (fun c95 => ?_) (fun c95 => ?_)
          · refine j_aload_n (q := 103) hO dX10_goOut_102 rfl rfl ?_
            refine m_getA (j := 44) (x := 54) (q := 106) hO hm dX10_goOut_103 rfl mw_542 (by decide) rfl rfl ?_
            refine j_iload_n (q := 107) hO dX10_goOut_106 rfl rfl ?_
            refine m_iald (x := 54) (a := 35) (q := 108) hO hm MK_54 dX10_goOut_107 rfl rfl (j := 5 * b + kd) hat (by omega) ?_
            refine m_iast (x := 54) (a := 35) (q := 109) hO hm MK_54 dX10_goOut_108 rfl rfl (j := 5 * b + kd) hat (by omega) ?_
            refine j_aload_n (q := 110) hO dX10_goOut_109 rfl rfl ?_
            refine m_getA (j := 41) (x := 51) (q := 113) hO hm dX10_goOut_110 rfl mw_539 (by decide) rfl rfl ?_
            refine j_iload_n (q := 114) hO dX10_goOut_113 rfl rfl ?_
            refine j_dup2_11 (q := 115) hO dX10_goOut_114 rfl rfl rfl ?_
            refine m_iald (x := 51) (a := 32) (q := 116) hO hm MK_51 dX10_goOut_115 rfl rfl (j := 5 * b + kd) hat (by omega) ?_
            refine j_iconst (v := 1) (q := 117) hO dX10_goOut_116 rfl (by decide) ?_
            refine j_iadd (q := 118) hO dX10_goOut_117 rfl ?_
            refine m_iast (x := 51) (a := 32) (q := 119) hO hm MK_51 dX10_goOut_118 rfl rfl (j := 5 * b + kd) hat (by omega) ?_
            refine j_aload_n (q := 120) hO dX10_goOut_119 rfl rfl ?_
            refine m_getA (j := 42) (x := 52) (q := 123) hO hm dX10_goOut_120 rfl mw_540 (by decide) rfl rfl ?_
            refine j_iload_n (q := 124) hO dX10_goOut_123 rfl rfl ?_
            refine j_aload_n (q := 125) hO dX10_goOut_124 rfl rfl ?_
            refine m_getI (j := 35) (q := 128) hO hm dX10_goOut_125 rfl mw_533 (by decide) rfl ?_
            refine m_iast (x := 52) (a := 33) (q := 129) hO hm MK_52 dX10_goOut_128 rfl rfl (j := 5 * b + kd) hat (by omega) ?_
            refine j_aload_n (q := 130) hO dX10_goOut_129 rfl rfl ?_
            refine m_getA (j := 31) (x := 44) (q := 133) hO hm dX10_goOut_130 rfl mw_529 (by decide) rfl rfl ?_
            refine j_iload_n (q := 134) hO dX10_goOut_133 rfl rfl ?_
            refine j_iconst (v := 3) (q := 135) hO dX10_goOut_134 rfl (by decide) ?_
            refine m_iast (x := 44) (a := 25) (q := 136) hO hm MK_44 dX10_goOut_135 rfl rfl rfl (by omega) ?_
            refine j_aload_n (q := 137) hO dX10_goOut_136 rfl rfl ?_
            refine j_iload_n (q := 138) hO dX10_goOut_137 rfl rfl ?_
            refine j_iconst (v := 4) (q := 139) hO dX10_goOut_138 rfl (by decide) ?_
            refine j_aload_n (q := 140) hO dX10_goOut_139 rfl rfl ?_
            refine m_getA (j := 32) (x := 45) (q := 143) hO hm dX10_goOut_140 rfl mw_530 (by decide) rfl rfl ?_
            refine j_iload_n (q := 144) hO dX10_goOut_143 rfl rfl ?_
            refine m_iald (x := 45) (a := 26) (q := 145) hO hm MK_45 dX10_goOut_144 rfl rfl rfl (by omega) ?_
            refine j_callV (x := 10) (q := 148) hO (c_10_note (lx X) S _ n _ _ _ hm (hT.same rfl) hn) M_10_note mw_701 CK_10 rfl hm.1 rfl rfl rfl (by unfold roomy; rw [hM.R]; exact ⟨⟨Nat.le_of_ble_eq_true rfl, Nat.le_of_ble_eq_true rfl⟩, ⟨Nat.le_of_ble_eq_true rfl, Nat.le_of_ble_eq_true rfl⟩, Nat.le_of_ble_eq_true rfl⟩) dX10_goOut_145 rfl (fun v_145 S_145 hp_145 => ?_)
            obtain ⟨rfl, rfl⟩ := hp_145
            exact j_vret hM dX10_goOut_148 (Nat.le_of_ble_eq_true rfl) (Nat.le_of_ble_eq_true rfl) ⟨rfl, by unfold outF gapF; rw [if_neg c22, if_neg (fun z => z.elim c49 (fun q => q c59)), if_neg (show ¬ (aI α 32 (5 * b + kd) = 1 ∨ ¬ aI α 0 35 - aI α 33 (5 * b + kd) ≤ aI α 35 (5 * b + kd)) from fun z => z.elim c85 (fun q => q c95))]; rfl⟩
          · refine j_iload_n (q := 99) hO dX10_goOut_98 rfl rfl ?_
            refine j_goto (tgt := 108) hO dX10_goOut_99 (by decide) ?_
            refine m_iast (x := 54) (a := 35) (q := 109) hO hm MK_54 dX10_goOut_108 rfl rfl (j := 5 * b + kd) hat (by omega) ?_
            refine j_aload_n (q := 110) hO dX10_goOut_109 rfl rfl ?_
            refine m_getA (j := 41) (x := 51) (q := 113) hO hm dX10_goOut_110 rfl mw_539 (by decide) rfl rfl ?_
            refine j_iload_n (q := 114) hO dX10_goOut_113 rfl rfl ?_
            refine j_dup2_11 (q := 115) hO dX10_goOut_114 rfl rfl rfl ?_
            refine m_iald (x := 51) (a := 32) (q := 116) hO hm MK_51 dX10_goOut_115 rfl rfl (j := 5 * b + kd) hat (by omega) ?_
            refine j_iconst (v := 1) (q := 117) hO dX10_goOut_116 rfl (by decide) ?_
            refine j_iadd (q := 118) hO dX10_goOut_117 rfl ?_
            refine m_iast (x := 51) (a := 32) (q := 119) hO hm MK_51 dX10_goOut_118 rfl rfl (j := 5 * b + kd) hat (by omega) ?_
            refine j_aload_n (q := 120) hO dX10_goOut_119 rfl rfl ?_
            refine m_getA (j := 42) (x := 52) (q := 123) hO hm dX10_goOut_120 rfl mw_540 (by decide) rfl rfl ?_
            refine j_iload_n (q := 124) hO dX10_goOut_123 rfl rfl ?_
            refine j_aload_n (q := 125) hO dX10_goOut_124 rfl rfl ?_
            refine m_getI (j := 35) (q := 128) hO hm dX10_goOut_125 rfl mw_533 (by decide) rfl ?_
            refine m_iast (x := 52) (a := 33) (q := 129) hO hm MK_52 dX10_goOut_128 rfl rfl (j := 5 * b + kd) hat (by omega) ?_
            refine j_aload_n (q := 130) hO dX10_goOut_129 rfl rfl ?_
            refine m_getA (j := 31) (x := 44) (q := 133) hO hm dX10_goOut_130 rfl mw_529 (by decide) rfl rfl ?_
            refine j_iload_n (q := 134) hO dX10_goOut_133 rfl rfl ?_
            refine j_iconst (v := 3) (q := 135) hO dX10_goOut_134 rfl (by decide) ?_
            refine m_iast (x := 44) (a := 25) (q := 136) hO hm MK_44 dX10_goOut_135 rfl rfl rfl (by omega) ?_
            refine j_aload_n (q := 137) hO dX10_goOut_136 rfl rfl ?_
            refine j_iload_n (q := 138) hO dX10_goOut_137 rfl rfl ?_
            refine j_iconst (v := 4) (q := 139) hO dX10_goOut_138 rfl (by decide) ?_
            refine j_aload_n (q := 140) hO dX10_goOut_139 rfl rfl ?_
            refine m_getA (j := 32) (x := 45) (q := 143) hO hm dX10_goOut_140 rfl mw_530 (by decide) rfl rfl ?_
            refine j_iload_n (q := 144) hO dX10_goOut_143 rfl rfl ?_
            refine m_iald (x := 45) (a := 26) (q := 145) hO hm MK_45 dX10_goOut_144 rfl rfl rfl (by omega) ?_
            refine j_callV (x := 10) (q := 148) hO (c_10_note (lx X) S _ n _ _ _ hm (hT.same rfl) hn) M_10_note mw_701 CK_10 rfl hm.1 rfl rfl rfl (by unfold roomy; rw [hM.R]; exact ⟨⟨Nat.le_of_ble_eq_true rfl, Nat.le_of_ble_eq_true rfl⟩, ⟨Nat.le_of_ble_eq_true rfl, Nat.le_of_ble_eq_true rfl⟩, Nat.le_of_ble_eq_true rfl⟩) dX10_goOut_145 rfl (fun v_145 S_145 hp_145 => ?_)
            obtain ⟨rfl, rfl⟩ := hp_145
            exact j_vret hM dX10_goOut_148 (Nat.le_of_ble_eq_true rfl) (Nat.le_of_ble_eq_true rfl) ⟨rfl, by unfold outF gapF; rw [if_neg c22, if_neg (fun z => z.elim c49 (fun q => q c59)), if_pos (Or.inr (show ¬ aI α 0 35 - aI α 33 (5 * b + kd) ≤ aI α 35 (5 * b + kd) from c95))]; rfl⟩
      · refine j_iload_n (q := 63) hO dX10_goOut_62 rfl rfl ?_
        refine j_goto (tgt := 72) hO dX10_goOut_63 (by decide) ?_
        refine m_iast (x := 53) (a := 34) (q := 73) hO hm MK_53 dX10_goOut_72 rfl rfl (j := 5 * b + kd) hat (by omega) ?_
        refine j_aload_n (q := 74) hO dX10_goOut_73 rfl rfl ?_
        refine m_getA (j := 44) (x := 54) (q := 77) hO hm dX10_goOut_74 rfl mw_542 (by decide) rfl rfl ?_
        refine j_iload_n (q := 78) hO dX10_goOut_77 rfl rfl ?_
        refine j_aload_n (q := 79) hO dX10_goOut_78 rfl rfl ?_
        refine m_getA (j := 41) (x := 51) (q := 82) hO hm dX10_goOut_79 rfl mw_539 (by decide) rfl rfl ?_
        refine j_iload_n (q := 83) hO dX10_goOut_82 rfl rfl ?_
        refine m_iald (x := 51) (a := 32) (q := 84) hO hm MK_51 dX10_goOut_83 rfl rfl (j := 5 * b + kd) hat (by omega) ?_
        refine j_iconst (v := 1) (q := 85) hO dX10_goOut_84 rfl (by decide) ?_
        refine j_icmp_eq (tgt := 98) (q := 88) hO dX10_goOut_85 rfl (by decide) (fun c85 => ?_) (fun c85 => ?_)
        · refine j_iload_n (q := 99) hO dX10_goOut_98 rfl rfl ?_
          refine j_goto (tgt := 108) hO dX10_goOut_99 (by decide) ?_
          refine m_iast (x := 54) (a := 35) (q := 109) hO hm MK_54 dX10_goOut_108 rfl rfl (j := 5 * b + kd) hat (by omega) ?_
          refine j_aload_n (q := 110) hO dX10_goOut_109 rfl rfl ?_
          refine m_getA (j := 41) (x := 51) (q := 113) hO hm dX10_goOut_110 rfl mw_539 (by decide) rfl rfl ?_
          refine j_iload_n (q := 114) hO dX10_goOut_113 rfl rfl ?_
          refine j_dup2_11 (q := 115) hO dX10_goOut_114 rfl rfl rfl ?_
          refine m_iald (x := 51) (a := 32) (q := 116) hO hm MK_51 dX10_goOut_115 rfl rfl (j := 5 * b + kd) hat (by omega) ?_
          refine j_iconst (v := 1) (q := 117) hO dX10_goOut_116 rfl (by decide) ?_
          refine j_iadd (q := 118) hO dX10_goOut_117 rfl ?_
          refine m_iast (x := 51) (a := 32) (q := 119) hO hm MK_51 dX10_goOut_118 rfl rfl (j := 5 * b + kd) hat (by omega) ?_
          refine j_aload_n (q := 120) hO dX10_goOut_119 rfl rfl ?_
          refine m_getA (j := 42) (x := 52) (q := 123) hO hm dX10_goOut_120 rfl mw_540 (by decide) rfl rfl ?_
          refine j_iload_n (q := 124) hO dX10_goOut_123 rfl rfl ?_
          refine j_aload_n (q := 125) hO dX10_goOut_124 rfl rfl ?_
          refine m_getI (j := 35) (q := 128) hO hm dX10_goOut_125 rfl mw_533 (by decide) rfl ?_
          refine m_iast (x := 52) (a := 33) (q := 129) hO hm MK_52 dX10_goOut_128 rfl rfl (j := 5 * b + kd) hat (by omega) ?_
          refine j_aload_n (q := 130) hO dX10_goOut_129 rfl rfl ?_
          refine m_getA (j := 31) (x := 44) (q := 133) hO hm dX10_goOut_130 rfl mw_529 (by decide) rfl rfl ?_
          refine j_iload_n (q := 134) hO dX10_goOut_133 rfl rfl ?_
          refine j_iconst (v := 3) (q := 135) hO dX10_goOut_134 rfl (by decide) ?_
          refine m_iast (x := 44) (a := 25) (q := 136) hO hm MK_44 dX10_goOut_135 rfl rfl rfl (by omega) ?_
          refine j_aload_n (q := 137) hO dX10_goOut_136 rfl rfl ?_
          refine j_iload_n (q := 138) hO dX10_goOut_137 rfl rfl ?_
          refine j_iconst (v := 4) (q := 139) hO dX10_goOut_138 rfl (by decide) ?_
          refine j_aload_n (q := 140) hO dX10_goOut_139 rfl rfl ?_
          refine m_getA (j := 32) (x := 45) (q := 143) hO hm dX10_goOut_140 rfl mw_530 (by decide) rfl rfl ?_
          refine j_iload_n (q := 144) hO dX10_goOut_143 rfl rfl ?_
          refine m_iald (x := 45) (a := 26) (q := 145) hO hm MK_45 dX10_goOut_144 rfl rfl rfl (by omega) ?_
          refine j_callV (x := 10) (q := 148) hO (c_10_note (lx X) S _ n _ _ _ hm (hT.same rfl) hn) M_10_note mw_701 CK_10 rfl hm.1 rfl rfl rfl (by unfold roomy; rw [hM.R]; exact ⟨⟨Nat.le_of_ble_eq_true rfl, Nat.le_of_ble_eq_true rfl⟩, ⟨Nat.le_of_ble_eq_true rfl, Nat.le_of_ble_eq_true rfl⟩, Nat.le_of_ble_eq_true rfl⟩) dX10_goOut_145 rfl (fun v_145 S_145 hp_145 => ?_)
          obtain ⟨rfl, rfl⟩ := hp_145
          exact j_vret hM dX10_goOut_148 (Nat.le_of_ble_eq_true rfl) (Nat.le_of_ble_eq_true rfl) ⟨rfl, by unfold outF gapF; rw [if_neg c22, if_pos (Or.inr c59), if_pos (Or.inl (show aI α 32 (5 * b + kd) = 1 from c85))]; rfl⟩
        · refine j_iload_n (q := 89) hO dX10_goOut_88 rfl rfl ?_
          refine j_aload_n (q := 90) hO dX10_goOut_89 rfl rfl ?_
          refine m_getA (j := 44) (x := 54) (q := 93) hO hm dX10_goOut_90 rfl mw_542 (by decide) rfl rfl ?_
          refine j_iload_n (q := 94) hO dX10_goOut_93 rfl rfl ?_
          refine m_iald (x := 54) (a := 35) (q := 95) hO hm MK_54 dX10_goOut_94 rfl rfl (j := 5 * b + kd) hat (by omega) ?_
          refine j_icmp_le (tgt := 102) (q := 98) hO dX10_goOut_95 rfl (by decide) (fun c95 => ?_) (fun c95 => ?_)
          · refine j_aload_n (q := 103) hO dX10_goOut_102 rfl rfl ?_
            refine m_getA (j := 44) (x := 54) (q := 106) hO hm dX10_goOut_103 rfl mw_542 (by decide) rfl rfl ?_
            refine j_iload_n (q := 107) hO dX10_goOut_106 rfl rfl ?_
            refine m_iald (x := 54) (a := 35) (q := 108) hO hm MK_54 dX10_goOut_107 rfl rfl (j := 5 * b + kd) hat (by omega) ?_
            refine m_iast (x := 54) (a := 35) (q := 109) hO hm MK_54 dX10_goOut_108 rfl rfl (j := 5 * b + kd) hat (by omega) ?_
            refine j_aload_n (q := 110) hO dX10_goOut_109 rfl rfl ?_
            refine m_getA (j := 41) (x := 51) (q := 113) hO hm dX10_goOut_110 rfl mw_539 (by decide) rfl rfl ?_
            refine j_iload_n (q := 114) hO dX10_goOut_113 rfl rfl ?_
            refine j_dup2_11 (q := 115) hO dX10_goOut_114 rfl rfl rfl ?_
            refine m_iald (x := 51) (a := 32) (q := 116) hO hm MK_51 dX10_goOut_115 rfl rfl (j := 5 * b + kd) hat (by omega) ?_
            refine j_iconst (v := 1) (q := 117) hO dX10_goOut_116 rfl (by decide) ?_
            refine j_iadd (q := 118) hO dX10_goOut_117 rfl ?_
            refine m_iast (x := 51) (a := 32) (q := 119) hO hm MK_51 dX10_goOut_118 rfl rfl (j := 5 * b + kd) hat (by omega) ?_
            refine j_aload_n (q := 120) hO dX10_goOut_119 rfl rfl ?_
            refine m_getA (j := 42) (x := 52) (q := 123) hO hm dX10_goOut_120 rfl mw_540 (by decide) rfl rfl ?_
            refine j_iload_n (q := 124) hO dX10_goOut_123 rfl rfl ?_
            refine j_aload_n (q := 125) hO dX10_goOut_124 rfl rfl ?_
            refine m_getI (j := 35) (q := 128) hO hm dX10_goOut_125 rfl mw_533 (by decide) rfl ?_
            refine m_iast (x := 52) (a := 33) (q := 129) hO hm MK_52 dX10_goOut_128 rfl rfl (j := 5 * b + kd) hat (by omega) ?_
            refine j_aload_n (q := 130) hO dX10_goOut_129 rfl rfl ?_
            refine m_getA (j := 31) (x := 44) (q := 133) hO hm dX10_goOut_130 rfl mw_529 (by decide) rfl rfl ?_
            refine j_iload_n (q := 134) hO dX10_goOut_133 rfl rfl ?_
            refine j_iconst (v := 3) (q := 135) hO dX10_goOut_134 rfl (by decide) ?_
            refine m_iast (x := 44) (a := 25) (q := 136) hO hm MK_44 dX10_goOut_135 rfl rfl rfl (by omega) ?_
            refine j_aload_n (q := 137) hO dX10_goOut_136 rfl rfl ?_
            refine j_iload_n (q := 138) hO dX10_goOut_137 rfl rfl ?_
            refine j_iconst (v := 4) (q := 139) hO dX10_goOut_138 rfl (by decide) ?_
            refine j_aload_n (q := 140) hO dX10_goOut_139 rfl rfl ?_
            refine m_getA (j := 32) (x := 45) (q := 143) hO hm dX10_goOut_140 rfl mw_530 (by decide) rfl rfl ?_
            refine j_iload_n (q := 144) hO dX10_goOut_143 rfl rfl ?_
            refine m_iald (x := 45) (a := 26) (q := 145) hO hm MK_45 dX10_goOut_144 rfl rfl rfl (by omega) ?_
            refine j_callV (x := 10) (q := 148) hO (c_10_note (lx X) S _ n _ _ _ hm (hT.same rfl) hn) M_10_note mw_701 CK_10 rfl hm.1 rfl rfl rfl (by unfold roomy; rw [hM.R]; exact ⟨⟨Nat.le_of_ble_eq_true rfl, Nat.le_of_ble_eq_true rfl⟩, ⟨Nat.le_of_ble_eq_true rfl, Nat.le_of_ble_eq_true rfl⟩, Nat.le_of_ble_eq_true rfl⟩) dX10_goOut_145 rfl (fun v_145 S_145 hp_145 => ?_)
            obtain ⟨rfl, rfl⟩ := hp_145
            exact j_vret hM dX10_goOut_148 (Nat.le_of_ble_eq_true rfl) (Nat.le_of_ble_eq_true rfl) ⟨rfl, by unfold outF gapF; rw [if_neg c22, if_pos (Or.inr c59), if_neg (show ¬ (aI α 32 (5 * b + kd) = 1 ∨ ¬ aI α 0 35 - aI α 33 (5 * b + kd) ≤ aI α 35 (5 * b + kd)) from fun z => z.elim c85 (fun q => q c95))]; rfl⟩
          · refine j_iload_n (q := 99) hO dX10_goOut_98 rfl rfl ?_
            refine j_goto (tgt := 108) hO dX10_goOut_99 (by decide) ?_
            refine m_iast (x := 54) (a := 35) (q := 109) hO hm MK_54 dX10_goOut_108 rfl rfl (j := 5 * b + kd) hat (by omega) ?_
            refine j_aload_n (q := 110) hO dX10_goOut_109 rfl rfl ?_
            refine m_getA (j := 41) (x := 51) (q := 113) hO hm dX10_goOut_110 rfl mw_539 (by decide) rfl rfl ?_
            refine j_iload_n (q := 114) hO dX10_goOut_113 rfl rfl ?_
            refine j_dup2_11 (q := 115) hO dX10_goOut_114 rfl rfl rfl ?_
            refine m_iald (x := 51) (a := 32) (q := 116) hO hm MK_51 dX10_goOut_115 rfl rfl (j := 5 * b + kd) hat (by omega) ?_
            refine j_iconst (v := 1) (q := 117) hO dX10_goOut_116 rfl (by decide) ?_
            refine j_iadd (q := 118) hO dX10_goOut_117 rfl ?_
            refine m_iast (x := 51) (a := 32) (q := 119) hO hm MK_51 dX10_goOut_118 rfl rfl (j := 5 * b + kd) hat (by omega) ?_
            refine j_aload_n (q := 120) hO dX10_goOut_119 rfl rfl ?_
            refine m_getA (j := 42) (x := 52) (q := 123) hO hm dX10_goOut_120 rfl mw_540 (by decide) rfl rfl ?_
            refine j_iload_n (q := 124) hO dX10_goOut_123 rfl rfl ?_
            refine j_aload_n (q := 125) hO dX10_goOut_124 rfl rfl ?_
            refine m_getI (j := 35) (q := 128) hO hm dX10_goOut_125 rfl mw_533 (by decide) rfl ?_
            refine m_iast (x := 52) (a := 33) (q := 129) hO hm MK_52 dX10_goOut_128 rfl rfl (j := 5 * b + kd) hat (by omega) ?_
            refine j_aload_n (q := 130) hO dX10_goOut_129 rfl rfl ?_
            refine m_getA (j := 31) (x := 44) (q := 133) hO hm dX10_goOut_130 rfl mw_529 (by decide) rfl rfl ?_
            refine j_iload_n (q := 134) hO dX10_goOut_133 rfl rfl ?_
            refine j_iconst (v := 3) (q := 135) hO dX10_goOut_134 rfl (by decide) ?_
            refine m_iast (x := 44) (a := 25) (q := 136) hO hm MK_44 dX10_goOut_135 rfl rfl rfl (by omega) ?_
            refine j_aload_n (q := 137) hO dX10_goOut_136 rfl rfl ?_
            refine j_iload_n (q := 138) hO dX10_goOut_137 rfl rfl ?_
            refine j_iconst (v := 4) (q := 139) hO dX10_goOut_138 rfl (by decide) ?_
            refine j_aload_n (q := 140) hO dX10_goOut_139 rfl rfl ?_
            refine m_getA (j := 32) (x := 45) (q := 143) hO hm dX10_goOut_140 rfl mw_530 (by decide) rfl rfl ?_
            refine j_iload_n (q := 144) hO dX10_goOut_143 rfl rfl ?_
            refine m_iald (x := 45) (a := 26) (q := 145) hO hm MK_45 dX10_goOut_144 rfl rfl rfl (by omega) ?_
            refine j_callV (x := 10) (q := 148) hO (c_10_note (lx X) S _ n _ _ _ hm (hT.same rfl) hn) M_10_note mw_701 CK_10 rfl hm.1 rfl rfl rfl (by unfold roomy; rw [hM.R]; exact ⟨⟨Nat.le_of_ble_eq_true rfl, Nat.le_of_ble_eq_true rfl⟩, ⟨Nat.le_of_ble_eq_true rfl, Nat.le_of_ble_eq_true rfl⟩, Nat.le_of_ble_eq_true rfl⟩) dX10_goOut_145 rfl (fun v_145 S_145 hp_145 => ?_)
            obtain ⟨rfl, rfl⟩ := hp_145
            exact j_vret hM dX10_goOut_148 (Nat.le_of_ble_eq_true rfl) (Nat.le_of_ble_eq_true rfl) ⟨rfl, by unfold outF gapF; rw [if_neg c22, if_pos (Or.inr c59), if_pos (Or.inr (show ¬ aI α 0 35 - aI α 33 (5 * b + kd) ≤ aI α 35 (5 * b + kd) from c95))]; rfl⟩
end
section
set_option maxHeartbeats 4000000 in
set_option maxRecDepth 100000 in
theorem c_10_isTaken (l : Launch) (S : St) (α : Al) (n nr nk p : Nat) (hm : MSh S) (hnr : aI α 0 16 = nI nr) (hn4 : nr ≤ 4) (hnk : aI α 0 20 = nI nk) (hk4 : nk ≤ 4) (hp : p < 60) (hpk : ∀ h, h < nk → PkOk (aD α 17 h) (aD α 18 h) (aI α 20 h)) (hT : TT α n) (hn : n < 2 ^ 30) : Ct l yX10_isTaken cX10_isTaken 4 (some .boolean) (rm 1 0 0 24) [.ref (sA S 10 0), .int (nI p)] (wr S α) (takPost S α p) := by
  refine Ct.of (by decide) (Nat.le_of_ble_eq_true rfl) (fun X hM => ?_)
  have hO := hM.1
  obtain rfl := hM.l
  show Jg X 0 0 (wr S α) 0 [(0, .ref (sA S 10 0)), (1, .int (nI p))] []
  have loop2 : ∀ m h, h + m = nk → scn (pickF α p) (aI α 21 p) (pickB α p) m h → robF α p = none → Jg X 0 0 (wr S α) 96 [(0, .ref (sA S 10 0)), (1, .int (nI p)), (2, .int (aI α 26 p)), (3, .int (nI h))] [] := by
    intro m
    induction m with
    | zero =>
      intro h hz hs hr0
      obtain rfl : h = nk := by omega
      refine j_iload_n (q := 97) hO dX10_isTaken_96 rfl rfl ?_
      refine j_aload_n (q := 98) hO dX10_isTaken_97 rfl rfl ?_
      refine m_getI (j := 20) (q := 101) hO hm dX10_isTaken_98 rfl mw_518 (by decide) rfl ?_
      refine j_icmp_ge (tgt := 209) (q := 104) hO dX10_isTaken_101 rfl (by decide) (fun c101 => ?_) (fun c101 => ?_)
      · refine j_iconst (v := 0) (q := 210) hO dX10_isTaken_209 rfl (by decide) ?_
        exact j_zret hM dX10_isTaken_210 (Nat.le_of_ble_eq_true rfl) (Nat.le_of_ble_eq_true rfl) (by decide) (takPost.n hr0 hs.z)
      · exact absurd (by rw [hnk]; exact nI_le (Nat.le_refl _) (by omega)) c101
    | succ m ih =>
      intro h hz hs hr0
      refine j_iload_n (q := 97) hO dX10_isTaken_96 rfl rfl ?_
      refine j_aload_n (q := 98) hO dX10_isTaken_97 rfl rfl ?_
      refine m_getI (j := 20) (q := 101) hO hm dX10_isTaken_98 rfl mw_518 (by decide) rfl ?_
      refine j_icmp_ge (tgt := 209) (q := 104) hO dX10_isTaken_101 rfl (by decide) (fun c101 => ?_) (fun c101 => ?_)
      · exact absurd c101 (by rw [hnk]; exact nI_ge (by omega) (by omega))
      · refine j_aload_n (q := 105) hO dX10_isTaken_104 rfl rfl ?_
        refine m_getA (j := 27) (x := 40) (q := 108) hO hm dX10_isTaken_105 rfl mw_525 (by decide) rfl rfl ?_
        refine j_iload_n (q := 109) hO dX10_isTaken_108 rfl rfl ?_
        refine m_iald (x := 40) (a := 21) (q := 110) hO hm MK_40 dX10_isTaken_109 rfl rfl rfl (by omega) ?_
        refine j_if_le (tgt := 209) (q := 113) hO dX10_isTaken_110 rfl (by decide) (fun c110 => ?_) (fun c110 => ?_)
        · refine j_iconst (v := 0) (q := 210) hO dX10_isTaken_209 rfl (by decide) ?_
          exact j_zret hM dX10_isTaken_210 (Nat.le_of_ble_eq_true rfl) (Nat.le_of_ble_eq_true rfl) (by decide) (takPost.n hr0 (hs.c c110))
        · refine j_aload_n (q := 114) hO dX10_isTaken_113 rfl rfl ?_
          refine m_getA (j := 21) (x := 35) (q := 117) hO hm dX10_isTaken_114 rfl mw_519 (by decide) rfl rfl ?_
          refine j_iload_n (q := 118) hO dX10_isTaken_117 rfl rfl ?_
          refine m_iald (x := 35) (a := 16) (q := 119) hO hm MK_35 dX10_isTaken_118 rfl rfl rfl (by omega) ?_
          refine j_iload_n (q := 120) hO dX10_isTaken_119 rfl rfl ?_
          refine j_icmp_ne (tgt := 203) (q := 123) hO dX10_isTaken_120 rfl (by decide) (fun c120 => ?_) (fun c120 => ?_)
          · refine j_iinc (v := nI (h + 1)) (q := 206) hO dX10_isTaken_203 rfl rfl (nI_S h) (by rw [hM.nL]; decide) rfl ?_
            refine j_goto (tgt := 96) hO dX10_isTaken_206 (by decide) ?_
            refine Jg.lv (lv' := [(0, .ref (sA S 10 0)), (1, .int (nI p)), (2, .int (aI α 26 p)), (3, .int (nI (h + 1)))]) ⟨rfl, rfl, rfl, rfl, trivial⟩ ?_
            exact ih (h + 1) (by omega) (hs.n c110 (decide_eq_false (fun z => c120 z.1))) hr0
          · refine j_aload_n (q := 124) hO dX10_isTaken_123 rfl rfl ?_
            refine m_getI (j := 35) (q := 127) hO hm dX10_isTaken_124 rfl mw_533 (by decide) rfl ?_
            refine j_aload_n (q := 128) hO dX10_isTaken_127 rfl rfl ?_
            refine m_getA (j := 24) (x := 38) (q := 131) hO hm dX10_isTaken_128 rfl mw_522 (by decide) rfl rfl ?_
            refine j_iload_n (q := 132) hO dX10_isTaken_131 rfl rfl ?_
            refine m_iald (x := 38) (a := 19) (q := 133) hO hm MK_38 dX10_isTaken_132 rfl rfl rfl (by omega) ?_
            refine j_icmp_lt (tgt := 203) (q := 136) hO dX10_isTaken_133 rfl (by decide) (fun c133 => ?_) (fun c133 => ?_)
            · refine j_iinc (v := nI (h + 1)) (q := 206) hO dX10_isTaken_203 rfl rfl (nI_S h) (by rw [hM.nL]; decide) rfl ?_
              refine j_goto (tgt := 96) hO dX10_isTaken_206 (by decide) ?_
              refine Jg.lv (lv' := [(0, .ref (sA S 10 0)), (1, .int (nI p)), (2, .int (aI α 26 p)), (3, .int (nI (h + 1)))]) ⟨rfl, rfl, rfl, rfl, trivial⟩ ?_
              exact ih (h + 1) (by omega) (hs.n c110 (decide_eq_false (fun z => z.2 c133))) hr0
            · refine j_aload_n (q := 137) hO dX10_isTaken_136 rfl rfl ?_
              refine m_getA (j := 24) (x := 38) (q := 140) hO hm dX10_isTaken_137 rfl mw_522 (by decide) rfl rfl ?_
              refine j_iload_n (q := 141) hO dX10_isTaken_140 rfl rfl ?_
              refine j_aload_n (q := 142) hO dX10_isTaken_141 rfl rfl ?_
              refine m_getI (j := 35) (q := 145) hO hm dX10_isTaken_142 rfl mw_533 (by decide) rfl ?_
              refine j_iconst (v := 1) (q := 146) hO dX10_isTaken_145 rfl (by decide) ?_
              refine j_iadd (q := 147) hO dX10_isTaken_146 rfl ?_
              refine j_ldc2d (q := 150) hO dX10_isTaken_147 rfl mw_676 ?_
              refine j_aload_n (q := 151) hO dX10_isTaken_150 rfl rfl ?_
              refine m_getA (j := 22) (x := 36) (q := 154) hO hm dX10_isTaken_151 rfl mw_520 (by decide) rfl rfl ?_
              refine j_iload_n (q := 155) hO dX10_isTaken_154 rfl rfl ?_
              refine m_dald (x := 36) (a := 17) (q := 156) hO hm MK_36 dX10_isTaken_155 rfl rfl rfl (by omega) ?_
              refine j_ddiv (q := 157) hO dX10_isTaken_156 rfl (hpk h (by omega)).1 ?_
              refine j_dconst1 (q := 158) hO dX10_isTaken_157 rfl ?_
              refine j_aload_n (q := 159) hO dX10_isTaken_158 rfl rfl ?_
              refine m_getA (j := 23) (x := 37) (q := 162) hO hm dX10_isTaken_159 rfl mw_521 (by decide) rfl rfl ?_
              refine j_iload_n (q := 163) hO dX10_isTaken_162 rfl rfl ?_
              refine m_dald (x := 37) (a := 18) (q := 164) hO hm MK_37 dX10_isTaken_163 rfl rfl rfl (by omega) ?_
              refine j_aload_n (q := 165) hO dX10_isTaken_164 rfl rfl ?_
              refine m_getA (j := 25) (x := 39) (q := 168) hO hm dX10_isTaken_165 rfl mw_523 (by decide) rfl rfl ?_
              refine j_iload_n (q := 169) hO dX10_isTaken_168 rfl rfl ?_
              refine m_iald (x := 39) (a := 20) (q := 170) hO hm MK_39 dX10_isTaken_169 rfl rfl rfl (by omega) ?_
              refine j_i2d (q := 171) hO dX10_isTaken_170 rfl ?_
              refine j_dmul (q := 172) hO dX10_isTaken_171 rfl (hpk h (by omega)).2.1 ?_
              refine j_dadd (q := 173) hO dX10_isTaken_172 rfl (hpk h (by omega)).2.2.1 ?_
              refine j_dmul (q := 174) hO dX10_isTaken_173 rfl (hpk h (by omega)).2.2.2 ?_
              refine j_d2i (q := 175) hO dX10_isTaken_174 rfl ?_
              refine j_iadd (q := 176) hO dX10_isTaken_175 rfl ?_
              refine m_iast (x := 38) (a := 19) (q := 177) hO hm MK_38 dX10_isTaken_176 rfl rfl rfl (by omega) ?_
              refine j_aload_n (q := 178) hO dX10_isTaken_177 rfl rfl ?_
              refine m_getA (j := 25) (x := 39) (q := 181) hO hm dX10_isTaken_178 rfl mw_523 (by decide) rfl rfl ?_
              refine j_iload_n (q := 182) hO dX10_isTaken_181 rfl rfl ?_
              refine j_dup2_11 (q := 183) hO dX10_isTaken_182 rfl rfl rfl ?_
              refine m_iald (x := 39) (a := 20) (q := 184) hO hm MK_39 dX10_isTaken_183 rfl rfl rfl (by omega) ?_
              refine j_iconst (v := 1) (q := 185) hO dX10_isTaken_184 rfl (by decide) ?_
              refine j_iadd (q := 186) hO dX10_isTaken_185 rfl ?_
              refine m_iast (x := 39) (a := 20) (q := 187) hO hm MK_39 dX10_isTaken_186 rfl rfl rfl (by omega) ?_
              refine j_aload_n (q := 188) hO dX10_isTaken_187 rfl rfl ?_
              refine m_getA (j := 31) (x := 44) (q := 191) hO hm dX10_isTaken_188 rfl mw_529 (by decide) rfl rfl ?_
              refine j_iload_n (q := 192) hO dX10_isTaken_191 rfl rfl ?_
              refine j_iconst (v := 4) (q := 193) hO dX10_isTaken_192 rfl (by decide) ?_
              refine m_iast (x := 44) (a := 25) (q := 194) hO hm MK_44 dX10_isTaken_193 rfl rfl rfl (by omega) ?_
              refine j_aload_n (q := 195) hO dX10_isTaken_194 rfl rfl ?_
              refine j_iload_n (q := 196) hO dX10_isTaken_195 rfl rfl ?_
              refine j_iconst (v := 5) (q := 197) hO dX10_isTaken_196 rfl (by decide) ?_
              refine j_iload_n (q := 198) hO dX10_isTaken_197 rfl rfl ?_
              refine j_callV (x := 10) (q := 201) hO (c_10_note (lx X) S _ n _ _ _ hm (hT.same rfl) hn) M_10_note mw_701 CK_10 rfl hm.1 rfl rfl rfl (by unfold roomy; rw [hM.R]; exact ⟨⟨Nat.le_of_ble_eq_true rfl, Nat.le_of_ble_eq_true rfl⟩, ⟨Nat.le_of_ble_eq_true rfl, Nat.le_of_ble_eq_true rfl⟩, Nat.le_of_ble_eq_true rfl⟩) dX10_isTaken_198 rfl (fun v_198 S_198 hp_198 => ?_)
              obtain ⟨rfl, rfl⟩ := hp_198
              refine j_iconst (v := 1) (q := 202) hO dX10_isTaken_201 rfl (by decide) ?_
              exact j_zret hM dX10_isTaken_202 (Nat.le_of_ble_eq_true rfl) (Nat.le_of_ble_eq_true rfl) (by decide) (takPost.p hr0 (hs.y c110 (decide_eq_true ⟨c120, c133⟩)))
  have loop1 : ∀ m r, r + m = nr → scn (robF α p) (aI α 21 p) (robB α p) m r → Jg X 0 0 (wr S α) 9 [(0, .ref (sA S 10 0)), (1, .int (nI p)), (2, .int (aI α 26 p)), (3, .int (nI r))] [] := by
    intro m
    induction m with
    | zero =>
      intro r hz hs
      obtain rfl : r = nr := by omega
      refine j_iload_n (q := 10) hO dX10_isTaken_9 rfl rfl ?_
      refine j_aload_n (q := 11) hO dX10_isTaken_10 rfl rfl ?_
      refine m_getI (j := 16) (q := 14) hO hm dX10_isTaken_11 rfl mw_514 (by decide) rfl ?_
      refine j_icmp_ge (tgt := 94) (q := 17) hO dX10_isTaken_14 rfl (by decide) (fun c14 => ?_) (fun c14 => ?_)
      · refine j_iconst (v := 0) (q := 95) hO dX10_isTaken_94 rfl (by decide) ?_
        refine j_istore_n (q := 96) hO dX10_isTaken_95 rfl (by rw [hM.nL]; decide) rfl ?_
        refine Jg.lv (lv' := [(0, .ref (sA S 10 0)), (1, .int (nI p)), (2, .int (aI α 26 p)), (3, .int (nI 0))]) ⟨rfl, rfl, rfl, rfl, trivial⟩ ?_
        exact loop2 nk 0 (by omega) (by unfold scn pickF; rw [show nn (aI α 0 20) = nk from by rw [hnk]; exact nn_nI (by omega)]) hs.z
      · exact absurd (by rw [hnr]; exact nI_le (Nat.le_refl _) (by omega)) c14
    | succ m ih =>
      intro r hz hs
      refine j_iload_n (q := 10) hO dX10_isTaken_9 rfl rfl ?_
      refine j_aload_n (q := 11) hO dX10_isTaken_10 rfl rfl ?_
      refine m_getI (j := 16) (q := 14) hO hm dX10_isTaken_11 rfl mw_514 (by decide) rfl ?_
      refine j_icmp_ge (tgt := 94) (q := 17) hO dX10_isTaken_14 rfl (by decide) (fun c14 => ?_) (fun c14 => ?_)
      · exact absurd c14 (by rw [hnr]; exact nI_ge (by omega) (by omega))
      · refine j_aload_n (q := 18) hO dX10_isTaken_17 rfl rfl ?_
        refine m_getA (j := 27) (x := 40) (q := 21) hO hm dX10_isTaken_18 rfl mw_525 (by decide) rfl rfl ?_
        refine j_iload_n (q := 22) hO dX10_isTaken_21 rfl rfl ?_
        refine m_iald (x := 40) (a := 21) (q := 23) hO hm MK_40 dX10_isTaken_22 rfl rfl rfl (by omega) ?_
        refine j_if_le (tgt := 94) (q := 26) hO dX10_isTaken_23 rfl (by decide) (fun c23 => ?_) (fun c23 => ?_)
        · refine j_iconst (v := 0) (q := 95) hO dX10_isTaken_94 rfl (by decide) ?_
          refine j_istore_n (q := 96) hO dX10_isTaken_95 rfl (by rw [hM.nL]; decide) rfl ?_
          refine Jg.lv (lv' := [(0, .ref (sA S 10 0)), (1, .int (nI p)), (2, .int (aI α 26 p)), (3, .int (nI 0))]) ⟨rfl, rfl, rfl, rfl, trivial⟩ ?_
          exact loop2 nk 0 (by omega) (by unfold scn pickF; rw [show nn (aI α 0 20) = nk from by rw [hnk]; exact nn_nI (by omega)]) (hs.c c23)
        · refine j_aload_n (q := 27) hO dX10_isTaken_26 rfl rfl ?_
          refine m_getA (j := 17) (x := 32) (q := 30) hO hm dX10_isTaken_27 rfl mw_515 (by decide) rfl rfl ?_
          refine j_iload_n (q := 31) hO dX10_isTaken_30 rfl rfl ?_
          refine m_iald (x := 32) (a := 13) (q := 32) hO hm MK_32 dX10_isTaken_31 rfl rfl rfl (by omega) ?_
          refine j_iload_n (q := 33) hO dX10_isTaken_32 rfl rfl ?_
          refine j_icmp_ne (tgt := 88) (q := 36) hO dX10_isTaken_33 rfl (by decide) (fun c33 => ?_) (fun c33 => ?_)
          · refine j_iinc (v := nI (r + 1)) (q := 91) hO dX10_isTaken_88 rfl rfl (nI_S r) (by rw [hM.nL]; decide) rfl ?_
            refine j_goto (tgt := 9) hO dX10_isTaken_91 (by decide) ?_
            refine Jg.lv (lv' := [(0, .ref (sA S 10 0)), (1, .int (nI p)), (2, .int (aI α 26 p)), (3, .int (nI (r + 1)))]) ⟨rfl, rfl, rfl, rfl, trivial⟩ ?_
            exact ih (r + 1) (by omega) (hs.n c23 (decide_eq_false (fun z => c33 z.1)))
          · refine j_aload_n (q := 37) hO dX10_isTaken_36 rfl rfl ?_
            refine m_getA (j := 28) (x := 41) (q := 40) hO hm dX10_isTaken_37 rfl mw_526 (by decide) rfl rfl ?_
            refine j_iload_n (q := 41) hO dX10_isTaken_40 rfl rfl ?_
            refine m_dald (x := 41) (a := 22) (q := 42) hO hm MK_41 dX10_isTaken_41 rfl rfl rfl (by omega) ?_
            refine j_aload_n (q := 43) hO dX10_isTaken_42 rfl rfl ?_
            refine m_getA (j := 18) (x := 33) (q := 46) hO hm dX10_isTaken_43 rfl mw_516 (by decide) rfl rfl ?_
            refine j_iload_n (q := 47) hO dX10_isTaken_46 rfl rfl ?_
            refine m_dald (x := 33) (a := 14) (q := 48) hO hm MK_33 dX10_isTaken_47 rfl rfl rfl (by omega) ?_
            refine j_dcmp (q := 49) hO dX10_isTaken_48 rfl ?_
            refine j_if_gt (tgt := 88) (q := 52) hO dX10_isTaken_49 rfl (by decide) (fun c49 => ?_) (fun c49 => ?_)
            · refine j_iinc (v := nI (r + 1)) (q := 91) hO dX10_isTaken_88 rfl rfl (nI_S r) (by rw [hM.nL]; decide) rfl ?_
              refine j_goto (tgt := 9) hO dX10_isTaken_91 (by decide) ?_
              refine Jg.lv (lv' := [(0, .ref (sA S 10 0)), (1, .int (nI p)), (2, .int (aI α 26 p)), (3, .int (nI (r + 1)))]) ⟨rfl, rfl, rfl, rfl, trivial⟩ ?_
              exact ih (r + 1) (by omega) (hs.n c23 (decide_eq_false (fun z => z.2.1 c49)))
            · refine j_aload_n (q := 53) hO dX10_isTaken_52 rfl rfl ?_
              refine j_iload_n (q := 54) hO dX10_isTaken_53 rfl rfl ?_
              refine j_bipush (v := 100) (q := 56) hO dX10_isTaken_54 rfl (by decide) ?_
              refine j_iload_n (q := 57) hO dX10_isTaken_56 rfl rfl ?_
              refine j_iadd (q := 58) hO dX10_isTaken_57 rfl ?_
              refine j_callV (x := 10) (q := 61) hO (c_10_chance (lx X) S _ _ _ hm) M_10_chance mw_717 CK_10 rfl hm.1 rfl rfl rfl (by unfold roomy; rw [hM.R]; exact ⟨⟨Nat.le_of_ble_eq_true rfl, Nat.le_of_ble_eq_true rfl⟩, ⟨Nat.le_of_ble_eq_true rfl, Nat.le_of_ble_eq_true rfl⟩, Nat.le_of_ble_eq_true rfl⟩) dX10_isTaken_58 rfl (fun v_58 S_58 hp_58 => ?_)
              obtain ⟨rfl, rfl⟩ := hp_58
              refine j_aload_n (q := 62) hO dX10_isTaken_61 rfl rfl ?_
              refine m_getA (j := 19) (x := 34) (q := 65) hO hm dX10_isTaken_62 rfl mw_517 (by decide) rfl rfl ?_
              refine j_iload_n (q := 66) hO dX10_isTaken_65 rfl rfl ?_
              refine m_dald (x := 34) (a := 15) (q := 67) hO hm MK_34 dX10_isTaken_66 rfl rfl rfl (by omega) ?_
              refine j_dcmp (q := 68) hO dX10_isTaken_67 rfl ?_
              refine j_if_lt (tgt := 88) (q := 71) hO dX10_isTaken_68 rfl (by decide) (fun c68 => ?_) (fun c68 => ?_)
              · refine j_iinc (v := nI (r + 1)) (q := 91) hO dX10_isTaken_88 rfl rfl (nI_S r) (by rw [hM.nL]; decide) rfl ?_
                refine j_goto (tgt := 9) hO dX10_isTaken_91 (by decide) ?_
                refine Jg.lv (lv' := [(0, .ref (sA S 10 0)), (1, .int (nI p)), (2, .int (aI α 26 p)), (3, .int (nI (r + 1)))]) ⟨rfl, rfl, rfl, rfl, trivial⟩ ?_
                exact ih (r + 1) (by omega) (hs.n c23 (decide_eq_false (fun z => z.2.2 c68)))
              · refine j_aload_n (q := 72) hO dX10_isTaken_71 rfl rfl ?_
                refine m_getA (j := 31) (x := 44) (q := 75) hO hm dX10_isTaken_72 rfl mw_529 (by decide) rfl rfl ?_
                refine j_iload_n (q := 76) hO dX10_isTaken_75 rfl rfl ?_
                refine j_iconst (v := 4) (q := 77) hO dX10_isTaken_76 rfl (by decide) ?_
                refine m_iast (x := 44) (a := 25) (q := 78) hO hm MK_44 dX10_isTaken_77 rfl rfl rfl (by omega) ?_
                refine j_aload_n (q := 79) hO dX10_isTaken_78 rfl rfl ?_
                refine j_iload_n (q := 80) hO dX10_isTaken_79 rfl rfl ?_
                refine j_bipush (v := 6) (q := 82) hO dX10_isTaken_80 rfl (by decide) ?_
                refine j_iload_n (q := 83) hO dX10_isTaken_82 rfl rfl ?_
                refine j_callV (x := 10) (q := 86) hO (c_10_note (lx X) S _ n _ _ _ hm (hT.same rfl) hn) M_10_note mw_701 CK_10 rfl hm.1 rfl rfl rfl (by unfold roomy; rw [hM.R]; exact ⟨⟨Nat.le_of_ble_eq_true rfl, Nat.le_of_ble_eq_true rfl⟩, ⟨Nat.le_of_ble_eq_true rfl, Nat.le_of_ble_eq_true rfl⟩, Nat.le_of_ble_eq_true rfl⟩) dX10_isTaken_83 rfl (fun v_83 S_83 hp_83 => ?_)
                obtain ⟨rfl, rfl⟩ := hp_83
                refine j_iconst (v := 1) (q := 87) hO dX10_isTaken_86 rfl (by decide) ?_
                exact j_zret hM dX10_isTaken_87 (Nat.le_of_ble_eq_true rfl) (Nat.le_of_ble_eq_true rfl) (by decide) (takPost.r (hs.y c23 (decide_eq_true ⟨c33, c49, c68⟩)))
  refine j_aload_n (q := 1) hO dX10_isTaken_0 rfl rfl ?_
  refine m_getA (j := 32) (x := 45) (q := 4) hO hm dX10_isTaken_1 rfl mw_530 (by decide) rfl rfl ?_
  refine j_iload_n (q := 5) hO dX10_isTaken_4 rfl rfl ?_
  refine m_iald (x := 45) (a := 26) (q := 6) hO hm MK_45 dX10_isTaken_5 rfl rfl rfl (by omega) ?_
  refine j_istore_n (q := 7) hO dX10_isTaken_6 rfl (by rw [hM.nL]; decide) rfl ?_
  refine j_iconst (v := 0) (q := 8) hO dX10_isTaken_7 rfl (by decide) ?_
  refine j_istore_n (q := 9) hO dX10_isTaken_8 rfl (by rw [hM.nL]; decide) rfl ?_
  refine Jg.lv (lv' := [(0, .ref (sA S 10 0)), (1, .int (nI p)), (2, .int (aI α 26 p)), (3, .int (nI 0))]) ⟨rfl, rfl, rfl, rfl, trivial⟩ ?_
  exact loop1 nr 0 (by omega) (by unfold scn robF; rw [show nn (aI α 0 16) = nr from by rw [hnr]; exact nn_nI (by omega)])
set_option maxHeartbeats 4000000 in
set_option maxRecDepth 100000 in
theorem c_10_goOn (l : Launch) (S : St) (α : Al) (n np nh jm p b kd : Nat) (hm : MSh S) (hnp : aI α 0 26 = nI np) (hn60 : np ≤ 60) (hnh : aI α 0 9 = nI nh) (hn8 : nh ≤ 8) (hjm : aI α 0 38 = nI jm) (hj60 : jm < 60) (hp : p < 60) (hbp : aI α 26 p = nI b) (hb : b < 6) (hkd : aI α 21 p = nI kd) (hk5 : kd < 5) (hj : (∃ t, aI α 3 b = nI t ∧ t < 6) ∨ aI α 3 b = -1 ∨ ∃ k, aI α 3 b = -2 - nI k ∧ k < 4) (hsz : ∀ j, j < np → dNn (aD α 22 j)) (hfl : ∀ k, k < 4 → dNn (aD α 12 k)) (hsp : dNn (aD α 22 p)) (hT : TT α n) (hn : n + 9 < 2 ^ 30) : Ct l yX10_goOn cX10_goOn 4 (none : Option Jvm.ClassFile.FieldType) (rm 3 0 0 70) [.ref (sA S 10 0), .int (nI p)] (wr S α) (fun r S' => r = none ∧ S' = wr S (goF α p (aI α 3 b))) := by
  refine Ct.of (by decide) (Nat.le_of_ble_eq_true rfl) (fun X hM => ?_)
  have hO := hM.1
  obtain rfl := hM.l
  show Jg X 0 0 (wr S α) 0 [(0, .ref (sA S 10 0)), (1, .int (nI p))] []
  have e1 : nn (aI α 26 p) = b := by rw [hbp]; exact nn_nI (by omega)
  have e2 : nn (aI α 21 p) = kd := by rw [hkd]; exact nn_nI (by omega)
  rcases hj with ⟨t, h3, ht6⟩ | h3 | ⟨k, h3, hk4⟩
  · refine j_aload_n (q := 1) hO dX10_goOn_0 rfl rfl ?_
    refine m_getA (j := 4) (x := 22) (q := 4) hO hm dX10_goOn_1 rfl mw_502 (by decide) rfl rfl ?_
    refine j_aload_n (q := 5) hO dX10_goOn_4 rfl rfl ?_
    refine m_getA (j := 32) (x := 45) (q := 8) hO hm dX10_goOn_5 rfl mw_530 (by decide) rfl rfl ?_
    refine j_iload_n (q := 9) hO dX10_goOn_8 rfl rfl ?_
    refine m_iald (x := 45) (a := 26) (q := 10) hO hm MK_45 dX10_goOn_9 rfl rfl rfl (by omega) ?_
    refine m_iald (x := 22) (a := 3) (q := 11) hO hm MK_22 dX10_goOn_10 rfl rfl (j := b) hbp (by omega) ?_
    refine j_istore_n (q := 12) hO dX10_goOn_11 rfl (by rw [hM.nL]; decide) rfl ?_
    refine j_iload_n (q := 13) hO dX10_goOn_12 rfl rfl ?_
    refine j_if_lt (tgt := 25) (q := 16) hO dX10_goOn_13 rfl (by decide) (fun c13 => ?_) (fun c13 => ?_)
    · exact absurd (by rw [← h3]; exact c13) (nI_pos (n := t) (by omega))
    · refine j_aload_n (q := 17) hO dX10_goOn_16 rfl rfl ?_
      refine j_iload_n (q := 18) hO dX10_goOn_17 rfl rfl ?_
      refine j_iload_n (q := 19) hO dX10_goOn_18 rfl rfl ?_
      refine j_callV (x := 10) (q := 22) hO (c_10_enter (lx X) S _ n np nh jm p t hm hnp hn60 hnh hn8 hjm hj60 hp ht6 hsz hT hn) M_10_enter mw_693 CK_10 rfl hm.1 rfl rfl (by rw [h3]; rfl) (by unfold roomy; rw [hM.R]; exact ⟨⟨Nat.le_of_ble_eq_true rfl, Nat.le_of_ble_eq_true rfl⟩, ⟨Nat.le_of_ble_eq_true rfl, Nat.le_of_ble_eq_true rfl⟩, Nat.le_of_ble_eq_true rfl⟩) dX10_goOn_19 rfl (fun v_19 S_19 hp_19 => ?_)
      obtain ⟨rfl, rfl⟩ := hp_19
      refine j_goto (tgt := 108) hO dX10_goOn_22 (by decide) ?_
      exact j_vret hM dX10_goOn_108 (Nat.le_of_ble_eq_true rfl) (Nat.le_of_ble_eq_true rfl) ⟨rfl, by unfold goF; rw [if_neg c13, h3, nn_nI (by omega)]⟩
  · refine j_aload_n (q := 1) hO dX10_goOn_0 rfl rfl ?_
    refine m_getA (j := 4) (x := 22) (q := 4) hO hm dX10_goOn_1 rfl mw_502 (by decide) rfl rfl ?_
    refine j_aload_n (q := 5) hO dX10_goOn_4 rfl rfl ?_
    refine m_getA (j := 32) (x := 45) (q := 8) hO hm dX10_goOn_5 rfl mw_530 (by decide) rfl rfl ?_
    refine j_iload_n (q := 9) hO dX10_goOn_8 rfl rfl ?_
    refine m_iald (x := 45) (a := 26) (q := 10) hO hm MK_45 dX10_goOn_9 rfl rfl rfl (by omega) ?_
    refine m_iald (x := 22) (a := 3) (q := 11) hO hm MK_22 dX10_goOn_10 rfl rfl (j := b) hbp (by omega) ?_
    refine j_istore_n (q := 12) hO dX10_goOn_11 rfl (by rw [hM.nL]; decide) rfl ?_
    refine j_iload_n (q := 13) hO dX10_goOn_12 rfl rfl ?_
    refine j_if_lt (tgt := 25) (q := 16) hO dX10_goOn_13 rfl (by decide) (fun c13 => ?_) (fun c13 => ?_)
    · refine j_iload_n (q := 26) hO dX10_goOn_25 rfl rfl ?_
      refine j_iconst (v := (-1)) (q := 27) hO dX10_goOn_26 rfl (by decide) ?_
      refine j_icmp_ne (tgt := 38) (q := 30) hO dX10_goOn_27 rfl (by decide) (fun c27 => ?_) (fun c27 => ?_)
      · exact absurd h3 c27
      · refine j_aload_n (q := 31) hO dX10_goOn_30 rfl rfl ?_
        refine j_iload_n (q := 32) hO dX10_goOn_31 rfl rfl ?_
        refine j_callV (x := 10) (q := 35) hO (c_10_goOut (lx X) S _ n p b kd hm hp hbp hb hkd hk5 hT (by omega)) M_10_goOut mw_734 CK_10 rfl hm.1 rfl rfl rfl (by unfold roomy; rw [hM.R]; exact ⟨⟨Nat.le_of_ble_eq_true rfl, Nat.le_of_ble_eq_true rfl⟩, ⟨Nat.le_of_ble_eq_true rfl, Nat.le_of_ble_eq_true rfl⟩, Nat.le_of_ble_eq_true rfl⟩) dX10_goOn_32 rfl (fun v_32 S_32 hp_32 => ?_)
        obtain ⟨rfl, rfl⟩ := hp_32
        refine j_goto (tgt := 108) hO dX10_goOn_35 (by decide) ?_
        exact j_vret hM dX10_goOn_108 (Nat.le_of_ble_eq_true rfl) (Nat.le_of_ble_eq_true rfl) ⟨rfl, by unfold goF atF; rw [if_pos c13, if_pos c27, e1, e2]⟩
    · exact absurd (by rw [h3]; decide) c13
  · refine j_aload_n (q := 1) hO dX10_goOn_0 rfl rfl ?_
    refine m_getA (j := 4) (x := 22) (q := 4) hO hm dX10_goOn_1 rfl mw_502 (by decide) rfl rfl ?_
    refine j_aload_n (q := 5) hO dX10_goOn_4 rfl rfl ?_
    refine m_getA (j := 32) (x := 45) (q := 8) hO hm dX10_goOn_5 rfl mw_530 (by decide) rfl rfl ?_
    refine j_iload_n (q := 9) hO dX10_goOn_8 rfl rfl ?_
    refine m_iald (x := 45) (a := 26) (q := 10) hO hm MK_45 dX10_goOn_9 rfl rfl rfl (by omega) ?_
    refine m_iald (x := 22) (a := 3) (q := 11) hO hm MK_22 dX10_goOn_10 rfl rfl (j := b) hbp (by omega) ?_
    refine j_istore_n (q := 12) hO dX10_goOn_11 rfl (by rw [hM.nL]; decide) rfl ?_
    refine j_iload_n (q := 13) hO dX10_goOn_12 rfl rfl ?_
    refine j_if_lt (tgt := 25) (q := 16) hO dX10_goOn_13 rfl (by decide) (fun c13 => ?_) (fun c13 => ?_)
    · refine j_iload_n (q := 26) hO dX10_goOn_25 rfl rfl ?_
      refine j_iconst (v := (-1)) (q := 27) hO dX10_goOn_26 rfl (by decide) ?_
      refine j_icmp_ne (tgt := 38) (q := 30) hO dX10_goOn_27 rfl (by decide) (fun c27 => ?_) (fun c27 => ?_)
      · refine j_bipush (v := (-2)) (q := 40) hO dX10_goOn_38 rfl (by decide) ?_
        refine j_iload_n (q := 41) hO dX10_goOn_40 rfl rfl ?_
        refine j_isub (q := 42) hO dX10_goOn_41 rfl ?_
        refine j_istore_n (q := 43) hO dX10_goOn_42 rfl (by rw [hM.nL]; decide) rfl ?_
        refine j_aload_n (q := 44) hO dX10_goOn_43 rfl rfl ?_
        refine m_getA (j := 15) (x := 31) (q := 47) hO hm dX10_goOn_44 rfl mw_513 (by decide) rfl rfl ?_
        refine j_iload_n (q := 48) hO dX10_goOn_47 rfl rfl ?_
        refine m_dald (x := 31) (a := 12) (q := 49) hO hm MK_31 dX10_goOn_48 rfl rfl (j := k) (by show -2 - aI α 3 b = nI k; rw [h3]; exact m2_2 hk4) (by omega) ?_
        refine j_aload_n (q := 50) hO dX10_goOn_49 rfl rfl ?_
        refine m_getA (j := 28) (x := 41) (q := 53) hO hm dX10_goOn_50 rfl mw_526 (by decide) rfl rfl ?_
        refine j_iload_n (q := 54) hO dX10_goOn_53 rfl rfl ?_
        refine m_dald (x := 41) (a := 22) (q := 55) hO hm MK_41 dX10_goOn_54 rfl rfl rfl (by omega) ?_
        refine j_dadd (q := 56) hO dX10_goOn_55 rfl (n64_of (dadd_nn (hfl k hk4) hsp).ok) ?_
        refine j_aload_n (q := 57) hO dX10_goOn_56 rfl rfl ?_
        refine m_getA (j := 14) (x := 30) (q := 60) hO hm dX10_goOn_57 rfl mw_512 (by decide) rfl rfl ?_
        refine j_iload_n (q := 61) hO dX10_goOn_60 rfl rfl ?_
        refine m_dald (x := 30) (a := 11) (q := 62) hO hm MK_30 dX10_goOn_61 rfl rfl (j := k) (by show -2 - aI α 3 b = nI k; rw [h3]; exact m2_2 hk4) (by omega) ?_
        refine j_dcmp (q := 63) hO dX10_goOn_62 rfl ?_
        refine j_if_gt (tgt := 99) (q := 66) hO dX10_goOn_63 rfl (by decide) (fun c63 => ?_) (fun c63 => ?_)
        · refine j_aload_n (q := 100) hO dX10_goOn_99 rfl rfl ?_
          refine j_iload_n (q := 101) hO dX10_goOn_100 rfl rfl ?_
          refine j_iconst (v := 2) (q := 102) hO dX10_goOn_101 rfl (by decide) ?_
          refine j_bipush (v := 8) (q := 104) hO dX10_goOn_102 rfl (by decide) ?_
          refine j_iload_n (q := 105) hO dX10_goOn_104 rfl rfl ?_
          refine j_callV (x := 10) (q := 108) hO (c_10_lose (lx X) S _ n p 2 _ (nI k) hm (hT.same rfl) (by omega) hp (by omega)) M_10_lose mw_697 CK_10 rfl hm.1 rfl rfl (by rw [h3, m2_2 hk4]; rfl) (by unfold roomy; rw [hM.R]; exact ⟨⟨Nat.le_of_ble_eq_true rfl, Nat.le_of_ble_eq_true rfl⟩, ⟨Nat.le_of_ble_eq_true rfl, Nat.le_of_ble_eq_true rfl⟩, Nat.le_of_ble_eq_true rfl⟩) dX10_goOn_105 rfl (fun v_105 S_105 hp_105 => ?_)
          obtain ⟨rfl, rfl⟩ := hp_105
          exact j_vret hM dX10_goOn_108 (Nat.le_of_ble_eq_true rfl) (Nat.le_of_ble_eq_true rfl) ⟨rfl, by unfold goF fillF; rw [if_pos c13, if_neg c27, h3, m2_2 hk4, nn_nI (by omega : k < 2 ^ 31)]; rw [if_pos c63]⟩
        · refine j_aload_n (q := 67) hO dX10_goOn_66 rfl rfl ?_
          refine m_getA (j := 15) (x := 31) (q := 70) hO hm dX10_goOn_67 rfl mw_513 (by decide) rfl rfl ?_
          refine j_iload_n (q := 71) hO dX10_goOn_70 rfl rfl ?_
          refine j_dup2_11 (q := 72) hO dX10_goOn_71 rfl rfl rfl ?_
          refine m_dald (x := 31) (a := 12) (q := 73) hO hm MK_31 dX10_goOn_72 rfl rfl (j := k) (by show -2 - aI α 3 b = nI k; rw [h3]; exact m2_2 hk4) (by omega) ?_
          refine j_aload_n (q := 74) hO dX10_goOn_73 rfl rfl ?_
          refine m_getA (j := 28) (x := 41) (q := 77) hO hm dX10_goOn_74 rfl mw_526 (by decide) rfl rfl ?_
          refine j_iload_n (q := 78) hO dX10_goOn_77 rfl rfl ?_
          refine m_dald (x := 41) (a := 22) (q := 79) hO hm MK_41 dX10_goOn_78 rfl rfl rfl (by omega) ?_
          refine j_dadd (q := 80) hO dX10_goOn_79 rfl (n64_of (dadd_nn (hfl k hk4) hsp).ok) ?_
          refine m_dast (x := 31) (a := 12) (q := 81) hO hm MK_31 dX10_goOn_80 rfl rfl (j := k) (by show -2 - aI α 3 b = nI k; rw [h3]; exact m2_2 hk4) (by omega) ?_
          refine j_aload_n (q := 82) hO dX10_goOn_81 rfl rfl ?_
          refine m_getA (j := 31) (x := 44) (q := 85) hO hm dX10_goOn_82 rfl mw_529 (by decide) rfl rfl ?_
          refine j_iload_n (q := 86) hO dX10_goOn_85 rfl rfl ?_
          refine j_iconst (v := 2) (q := 87) hO dX10_goOn_86 rfl (by decide) ?_
          refine m_iast (x := 44) (a := 25) (q := 88) hO hm MK_44 dX10_goOn_87 rfl rfl rfl (by omega) ?_
          refine j_aload_n (q := 89) hO dX10_goOn_88 rfl rfl ?_
          refine j_iload_n (q := 90) hO dX10_goOn_89 rfl rfl ?_
          refine j_bipush (v := 9) (q := 92) hO dX10_goOn_90 rfl (by decide) ?_
          refine j_iload_n (q := 93) hO dX10_goOn_92 rfl rfl ?_
          refine j_callV (x := 10) (q := 96) hO (c_10_note (lx X) S _ n _ _ (nI k) hm (hT.same rfl) (by omega)) M_10_note mw_701 CK_10 rfl hm.1 rfl rfl (by rw [h3, m2_2 hk4]; rfl) (by unfold roomy; rw [hM.R]; exact ⟨⟨Nat.le_of_ble_eq_true rfl, Nat.le_of_ble_eq_true rfl⟩, ⟨Nat.le_of_ble_eq_true rfl, Nat.le_of_ble_eq_true rfl⟩, Nat.le_of_ble_eq_true rfl⟩) dX10_goOn_93 rfl (fun v_93 S_93 hp_93 => ?_)
          obtain ⟨rfl, rfl⟩ := hp_93
          refine j_goto (tgt := 108) hO dX10_goOn_96 (by decide) ?_
          exact j_vret hM dX10_goOn_108 (Nat.le_of_ble_eq_true rfl) (Nat.le_of_ble_eq_true rfl) ⟨rfl, by unfold goF fillF; rw [if_pos c13, if_neg c27, h3, m2_2 hk4, nn_nI (by omega : k < 2 ^ 31)]; rw [if_neg c63]⟩
      · exact absurd (h3.symm.trans c27) (m2_m hk4)
    · exact absurd (by rw [h3]; exact m2_n hk4) c13
end
section
/-! what stays, and what is kept -/
def sk (k : Nat) : Bool := match k with
  | 0 => false
  | 7 => false
  | 19 => false
  | 20 => false
  | 25 => false
  | 26 => false
  | 27 => false
  | 28 => false
  | 29 => false
  | 30 => false
  | 32 => false
  | 33 => false
  | 34 => false
  | 35 => false
  | _ => true
def sf (j : Nat) : Bool := match j with
  | 35 => false
  | 36 => false
  | 38 => false
  | _ => true
/-- β has the line that α has: only what a run moves may be another -/
def Sm (α β : Al) : Prop := (∀ k j, sk k = true → aI β k j = aI α k j) ∧ (∀ j, sf j = true → aI β 0 j = aI α 0 j) ∧ (∀ k j, k ≠ 31 → aJ β k j = aJ α k j) ∧ ∀ k j, k ≠ 12 → aD β k j = aD α k j
theorem Sm.rf {α : Al} : Sm α α := ⟨fun _ _ _ => rfl, fun _ _ => rfl, fun _ _ _ => rfl, fun _ _ _ => rfl⟩
theorem Sm.tr {α β γ : Al} (h1 : Sm α β) (h2 : Sm β γ) : Sm α γ := ⟨fun k j h => (h2.1 k j h).trans (h1.1 k j h), fun j h => (h2.2.1 j h).trans (h1.2.1 j h), fun k j h => (h2.2.2.1 k j h).trans (h1.2.2.1 k j h), fun k j h => (h2.2.2.2 k j h).trans (h1.2.2.2 k j h)⟩
theorem Sm.I {α β : Al} {a j : Nat} {v : Int32} (h : Sm α β) (h1 : sk a = false) (h2 : a ≠ 0 ∨ sf j = false) : Sm α (qI β a j v) := by
  refine h.tr ⟨fun k z hk => qI_I (fun q => by rw [q.1, h1] at hk; cases hk), fun z hz => qI_I (fun q => ?_), fun _ _ _ => rfl, fun _ _ _ => rfl⟩
  rcases h2 with h2 | h2
  · exact h2 q.1.symm
  · rw [q.2, h2] at hz
    cases hz
theorem Sm.J {α β : Al} {j : Nat} {v : Int64} (h : Sm α β) : Sm α (qJ β 31 j v) := h.tr ⟨fun _ _ _ => rfl, fun _ _ => rfl, fun k z hk => qJ_J (fun q => hk q.1), fun _ _ _ => rfl⟩
theorem Sm.D {α β : Al} {j : Nat} {v : UInt64} (h : Sm α β) : Sm α (qD β 12 j v) := h.tr ⟨fun _ _ _ => rfl, fun _ _ => rfl, fun _ _ _ => rfl, fun k z hk => qD_D (fun q => hk q.1)⟩
theorem Sm.note {α β : Al} {p w h : Int32} (H : Sm α β) : Sm α (noteF β p w h) := by
  unfold noteF
  split
  · exact H.I rfl (Or.inr rfl)
  · exact ((((H.I rfl (Or.inl (by decide))).I rfl (Or.inl (by decide))).I rfl (Or.inl (by decide))).I rfl (Or.inl (by decide))).I rfl (Or.inr rfl)
theorem Sm.lose {α β : Al} {p c : Nat} {w h : Int32} (H : Sm α β) : Sm α (loseF β p c w h) := ((H.I rfl (Or.inl (by decide))).J).note
theorem Sm.pass {α β : Al} {p : Nat} (H : Sm α β) : ∀ h, Sm α (passL β p h)
  | 0 => H
  | h + 1 => by
    unfold passL
    split
    · exact (Sm.pass H h).note
    · exact Sm.pass H h
theorem Sm.jam {α β : Al} {p b np : Nat} (H : Sm α β) : Sm α (jamF β p b np) := (((((((H.I rfl (Or.inl (by decide))).I rfl (Or.inl (by decide))).I rfl (Or.inl (by decide))).I rfl (Or.inl (by decide))).I rfl (Or.inr rfl)).J).I rfl (Or.inl (by decide))).lose
theorem Sm.set {α β : Al} {p b : Nat} (H : Sm α β) : Sm α (setF β p b) := ((H.I rfl (Or.inl (by decide))).I rfl (Or.inl (by decide))).I rfl (Or.inl (by decide))
theorem Sm.enter {α β : Al} {p b : Nat} (H : Sm α β) : Sm α (enterF β p b) := by
  have H0 : Sm α (qI β 25 p 0) := H.I rfl (Or.inl (by decide))
  unfold enterF
  split
  · split
    · exact (H0.set.note).pass _
    · exact H0.jam
  · exact H0.lose
theorem Sm.tR {α β : Al} {p r : Nat} (H : Sm α β) : Sm α (takR β p r) := (H.I rfl (Or.inl (by decide))).note
theorem Sm.tP {α β : Al} {p h : Nat} (H : Sm α β) : Sm α (takP β p h) := (((H.I rfl (Or.inl (by decide))).I rfl (Or.inl (by decide))).I rfl (Or.inl (by decide))).note
theorem Sm.gap {α β : Al} {a : Nat} (H : Sm α β) : Sm α (gapF β a) := by
  unfold gapF
  split
  · exact H
  · exact (H.I rfl (Or.inl (by decide))).I rfl (Or.inl (by decide))
theorem Sm.out {α β : Al} {p a : Nat} (H : Sm α β) : Sm α (outF β p a) := (((H.gap.I rfl (Or.inl (by decide))).I rfl (Or.inl (by decide))).I rfl (Or.inl (by decide))).note
theorem Sm.fill {α β : Al} {p k : Nat} (H : Sm α β) : Sm α (fillF β p k) := by
  unfold fillF
  split
  · exact H.lose
  · exact (H.D.I rfl (Or.inl (by decide))).note
theorem Sm.go {α β : Al} {p : Nat} {to : Int32} (H : Sm α β) : Sm α (goF β p to) := by
  unfold goF
  split
  · split
    · exact H.out
    · exact H.fill
  · exact H.enter
theorem Sm.end {α β : Al} {p : Nat} (H : Sm α β) : Sm α (endF β p) := by
  unfold endF
  split
  · unfold takenF
    split
    · rename_i γ hγ
      revert hγ
      split
      · intro hγ; cases hγ; exact H.tR
      · split
        · intro hγ; cases hγ; exact H.tP
        · intro hγ; cases hγ
    · exact H.go
  · exact H
theorem Sm.mvA {α β : Al} {j : Nat} (H : Sm α β) : Sm α (mv1 β j) := (H.I rfl (Or.inl (by decide))).I rfl (Or.inl (by decide))
theorem Sm.mvB {α β : Al} (H : Sm α β) : ∀ n, Sm α (mvL β n)
  | 0 => H
  | n + 1 => (Sm.mvB H n).mvA
theorem Sm.actA {α β : Al} {p : Nat} (H : Sm α β) : Sm α (act1 β p) := by
  unfold act1
  split
  · exact H.enter
  · split
    · exact H
    · exact (H.pass _).end
theorem Sm.actB {α β : Al} (H : Sm α β) : ∀ n, Sm α (actL β n)
  | 0 => H
  | n + 1 => (Sm.actB H n).actA
theorem Sm.tenth {α β : Al} (H : Sm α β) : Sm α (tenthF β) := ((H.I rfl (Or.inr rfl)).mvB _).actB _
/-- how many are in a state, when one changes its own -/
theorem ctF_set {α : Al} {s v : Int32} {p : Nat} : ∀ n, ctF (qI α 25 p v) s n + (if p < n ∧ aI α 25 p = s then 1 else 0) = ctF α s n + (if p < n ∧ v = s then 1 else 0)
  | 0 => by simp [ctF]
  | n + 1 => by
    have ih := ctF_set (α := α) (s := s) (v := v) (p := p) n
    unfold ctF
    by_cases hp : n = p
    · subst hp
      rw [qI_s]
      have h0 : ¬ n < n := Nat.lt_irrefl _
      have h1 : n < n + 1 := Nat.lt_succ_self _
      simp only [h0, h1, false_and, true_and, if_false] at ih ⊢
      omega
    · rw [qI_I (fun q => hp q.2)]
      have h1 : p < n + 1 ↔ p < n := by omega
      simp only [h1]
      omega
theorem ctF_congr {α β : Al} {s : Int32} (h : ∀ j, aI β 25 j = aI α 25 j) : ∀ n, ctF β s n = ctF α s n
  | 0 => rfl
  | n + 1 => by
    unfold ctF
    rw [ctF_congr h n, h]
theorem ctF_lt {α : Al} {s : Int32} {p n : Nat} (hp : p < n) (h : ¬ aI α 25 p = s) : ctF α s n < n := by
  have h1 := ctF_set (α := α) (s := s) (v := s) (p := p) n
  have h2 := ctF_le (α := qI α 25 p s) (s := s) n
  simp only [hp, h, and_false, if_false, true_and, if_true] at h1
  omega
end
section
/-- β differs from α, among pieces, at p alone; it is the same tenth -/
def Lc (p : Nat) (α β : Al) : Prop := (∀ j, j ≠ p → aI β 25 j = aI α 25 j ∧ aI β 26 j = aI α 26 j ∧ aI β 27 j = aI α 27 j) ∧ (∀ j, aI β 28 j = aI α 28 j) ∧ aI β 0 35 = aI α 0 35
theorem Lc.rf {p : Nat} {α : Al} : Lc p α α := ⟨fun _ _ => ⟨rfl, rfl, rfl⟩, fun _ => rfl, rfl⟩
theorem Lc.tr {p : Nat} {α β γ : Al} (h1 : Lc p α β) (h2 : Lc p β γ) : Lc p α γ := ⟨fun j h => ⟨(h2.1 j h).1.trans (h1.1 j h).1, (h2.1 j h).2.1.trans (h1.1 j h).2.1, (h2.1 j h).2.2.trans (h1.1 j h).2.2⟩, fun j => (h2.2.1 j).trans (h1.2.1 j), h2.2.2.trans h1.2.2⟩
theorem Lc.I {p : Nat} {α β : Al} {a j : Nat} {v : Int32} (h : Lc p α β) (h1 : j = p ∨ (a ≠ 25 ∧ a ≠ 26 ∧ a ≠ 27)) (h2 : a ≠ 28) (h3 : ¬ (0 = a ∧ 35 = j)) : Lc p α (qI β a j v) := by
  refine h.tr ⟨fun z hz => ⟨qI_I (fun q => ?_), qI_I (fun q => ?_), qI_I (fun q => ?_)⟩, fun z => qI_I (fun q => h2 q.1.symm), qI_I h3⟩
  · rcases h1 with h1 | h1
    · exact hz (q.2.trans h1)
    · exact h1.1 q.1.symm
  · rcases h1 with h1 | h1
    · exact hz (q.2.trans h1)
    · exact h1.2.1 q.1.symm
  · rcases h1 with h1 | h1
    · exact hz (q.2.trans h1)
    · exact h1.2.2 q.1.symm
theorem Lc.J {p : Nat} {α β : Al} {a j : Nat} {v : Int64} (h : Lc p α β) : Lc p α (qJ β a j v) := h
theorem Lc.D {p : Nat} {α β : Al} {a j : Nat} {v : UInt64} (h : Lc p α β) : Lc p α (qD β a j v) := h
theorem Lc.note {q : Nat} {α β : Al} {p w h : Int32} (H : Lc q α β) : Lc q α (noteF β p w h) := by
  unfold noteF
  split
  · exact H.I (Or.inr (by decide)) (by decide) (by decide)
  · exact ((((H.I (Or.inr (by decide)) (by decide) (by omega)).I (Or.inr (by decide)) (by decide) (by omega)).I (Or.inr (by decide)) (by decide) (by omega)).I (Or.inr (by decide)) (by decide) (by omega)).I (Or.inr (by decide)) (by decide) (by decide)
theorem Lc.lose {α β : Al} {p c : Nat} {w h : Int32} (H : Lc p α β) : Lc p α (loseF β p c w h) := ((H.I (Or.inl rfl) (by decide) (by omega)).J).note
theorem Lc.pass {q : Nat} {α β : Al} {p : Nat} (H : Lc q α β) : ∀ h, Lc q α (passL β p h)
  | 0 => H
  | h + 1 => by
    unfold passL
    split
    · exact (Lc.pass H h).note
    · exact Lc.pass H h
theorem Lc.jam {α β : Al} {p b np : Nat} (H : Lc p α β) : Lc p α (jamF β p b np) := (((((((H.I (Or.inr (by decide)) (by decide) (by omega)).I (Or.inr (by decide)) (by decide) (by omega)).I (Or.inr (by decide)) (by decide) (by omega)).I (Or.inr (by decide)) (by decide) (by omega)).I (Or.inr (by decide)) (by decide) (by decide)).J).I (Or.inr (by decide)) (by decide) (by omega)).lose
theorem Lc.set {α β : Al} {p b : Nat} (H : Lc p α β) : Lc p α (setF β p b) := ((H.I (Or.inl rfl) (by decide) (by omega)).I (Or.inl rfl) (by decide) (by omega)).I (Or.inl rfl) (by decide) (by omega)
theorem Lc.enter {α β : Al} {p b : Nat} (H : Lc p α β) : Lc p α (enterF β p b) := by
  have H0 : Lc p α (qI β 25 p 0) := H.I (Or.inl rfl) (by decide) (by omega)
  unfold enterF
  split
  · split
    · exact (H0.set.note).pass _
    · exact H0.jam
  · exact H0.lose
theorem Lc.tR {α β : Al} {p r : Nat} (H : Lc p α β) : Lc p α (takR β p r) := (H.I (Or.inl rfl) (by decide) (by omega)).note
theorem Lc.tP {α β : Al} {p h : Nat} (H : Lc p α β) : Lc p α (takP β p h) := (((H.I (Or.inr (by decide)) (by decide) (by omega)).I (Or.inr (by decide)) (by decide) (by omega)).I (Or.inl rfl) (by decide) (by omega)).note
theorem Lc.gap {q : Nat} {α β : Al} {a : Nat} (H : Lc q α β) : Lc q α (gapF β a) := by
  unfold gapF
  split
  · exact H
  · exact (H.I (Or.inr (by decide)) (by decide) (by omega)).I (Or.inr (by decide)) (by decide) (by omega)
theorem Lc.out {α β : Al} {p a : Nat} (H : Lc p α β) : Lc p α (outF β p a) := (((H.gap.I (Or.inr (by decide)) (by decide) (by omega)).I (Or.inr (by decide)) (by decide) (by omega)).I (Or.inl rfl) (by decide) (by omega)).note
theorem Lc.fill {α β : Al} {p k : Nat} (H : Lc p α β) : Lc p α (fillF β p k) := by
  unfold fillF
  split
  · exact H.lose
  · exact (H.D.I (Or.inl rfl) (by decide) (by omega)).note
theorem Lc.go {α β : Al} {p : Nat} {to : Int32} (H : Lc p α β) : Lc p α (goF β p to) := by
  unfold goF
  split
  · split
    · exact H.out
    · exact H.fill
  · exact H.enter
theorem Lc.end {α β : Al} {p : Nat} (H : Lc p α β) : Lc p α (endF β p) := by
  unfold endF
  split
  · unfold takenF
    split
    · rename_i γ hγ
      revert hγ
      split
      · intro hγ; cases hγ; exact H.tR
      · split
        · intro hγ; cases hγ; exact H.tP
        · intro hγ; cases hγ
    · exact H.go
  · exact H
theorem Lc.actA {α β : Al} {p : Nat} (H : Lc p α β) : Lc p α (act1 β p) := by
  unfold act1
  split
  · exact H.enter
  · split
    · exact H
    · exact (H.pass _).end
/-- the line as it was told -/
def Cf (α : Al) (nb nh nu nr nk np : Nat) : Prop := (aI α 0 1 = nI nb ∧ nb ≤ 6) ∧ (aI α 0 9 = nI nh ∧ nh ≤ 8) ∧ (aI α 0 13 = nI nu ∧ nu ≤ 4) ∧ (aI α 0 16 = nI nr ∧ nr ≤ 4) ∧ (aI α 0 20 = nI nk ∧ nk ≤ 4) ∧ (aI α 0 26 = nI np ∧ np ≤ 60) ∧
  (∀ b, b < nb → (∃ t, aI α 1 b = nI t ∧ 1 ≤ t ∧ t ≤ 1000) ∧ dNz (aD α 2 b) ∧ ((∃ t, aI α 3 b = nI t ∧ t < nb) ∨ aI α 3 b = -1 ∨ ∃ k, aI α 3 b = -2 - nI k ∧ k < nu) ∧ (aI α 4 b = 0 ∨ aI α 4 b = 1)) ∧
  (∀ h, h < nh → ∃ b, aI α 8 h = nI b ∧ b < nb) ∧ (∀ r, r < nr → ∃ b, aI α 13 r = nI b ∧ b < nb) ∧ (∀ k, k < nk → (∃ b, aI α 16 k = nI b ∧ b < nb) ∧ ∀ w, w ≤ 60 → PkOk (aD α 17 k) (aD α 18 k) (nI w)) ∧
  ∀ j, j < np → (∃ kd, aI α 21 j = nI kd ∧ kd < 5) ∧ dFn (aD α 22 j) ∧ (∃ b, aI α 24 j = nI b ∧ b < nb) ∧ ∃ e, aI α 23 j = nI e ∧ 1 ≤ e ∧ e ≤ 10000
theorem Cf.sm {α β : Al} {nb nh nu nr nk np : Nat} (h : Cf α nb nh nu nr nk np) (s : Sm α β) : Cf β nb nh nu nr nk np := by
  obtain ⟨h1, h2, h3, h4, h5, h6, h7, h8, h9, h10, h11⟩ := h
  obtain ⟨s1, s2, s3, s4⟩ := s
  refine ⟨by rw [s2 1 rfl]; exact h1, by rw [s2 9 rfl]; exact h2, by rw [s2 13 rfl]; exact h3, by rw [s2 16 rfl]; exact h4, by rw [s2 20 rfl]; exact h5, by rw [s2 26 rfl]; exact h6, fun b hb => ?_, fun x hx => ?_, fun x hx => ?_, fun x hx => ?_, fun x hx => ?_⟩
  · rw [s1 1 b rfl, s4 2 b (by decide), s1 3 b rfl, s1 4 b rfl]
    exact h7 b hb
  · rw [s1 8 x rfl]
    exact h8 x hx
  · rw [s1 13 x rfl]
    exact h9 x hx
  · rw [s1 16 x rfl, s4 17 x (by decide), s4 18 x (by decide)]
    exact h10 x hx
  · rw [s1 21 x rfl, s4 22 x (by decide), s1 24 x rfl, s1 23 x rfl]
    exact h11 x hx
/-- what a run keeps -/
def Dn (α : Al) (nb nk np n : Nat) : Prop := (∃ t, aI α 0 35 = nI t ∧ t ≤ 10000) ∧ (∀ j, j < np → ∃ s, aI α 25 j = nI s ∧ s ≤ 5) ∧ (∀ j, j < np → aI α 25 j = 1 → ∃ b, aI α 26 j = nI b ∧ b < nb) ∧ (∃ jm, aI α 0 38 = nI jm ∧ jm ≤ ctF α 5 np) ∧ (∀ k, k < 4 → dNn (aD α 12 k)) ∧ (∀ k, k < nk → ∃ w, aI α 20 k = nI w ∧ w ≤ ctF α 4 np) ∧ TT α n
theorem Dn.to {α β : Al} {nb nk np n n' p s : Nat} (h : Dn α nb nk np n) (L : Lc p α β) (hp : p < np) (ho4 : ¬ aI α 25 p = 4) (ho5 : ¬ aI α 25 p = 5) (hs : aI β 25 p = nI s) (hs5 : s ≤ 5) (hb : s = 1 → ∃ b, aI β 26 p = nI b ∧ b < nb) (hj : aI β 0 38 = aI α 0 38 ∨ (s = 5 ∧ aI β 0 38 = aI α 0 38 + 1)) (hf : ∀ k, k < 4 → dNn (aD β 12 k)) (ht : ∀ k, k < nk → aI β 20 k = aI α 20 k ∨ (s = 4 ∧ aI β 20 k = aI α 20 k + 1)) (hT : TT β n') : Dn β nb nk np n' := by
  obtain ⟨h1, h2, h3, ⟨jm, h4, h4'⟩, h5, h6, h7⟩ := h
  have ec : ∀ x, ctF β x np = ctF (qI α 25 p (nI s)) x np := fun x => ctF_congr (fun j => by
    by_cases hjp : j = p
    · subst hjp
      rw [hs, qI_s]
    · rw [(L.1 j hjp).1, qI_I (fun q => hjp q.2)]) np
  have e4 := ctF_set (α := α) (s := 4) (v := nI s) (p := p) np
  have e5 := ctF_set (α := α) (s := 5) (v := nI s) (p := p) np
  simp only [hp, ho4, ho5, and_false, if_false, true_and, Nat.add_zero] at e4 e5
  refine ⟨by rw [L.2.2]; exact h1, fun j hjn => ?_, fun j hjn hj1 => ?_, ?_, hf, fun k hk => ?_, hT⟩
  · by_cases hjp : j = p
    · subst hjp
      exact ⟨s, hs, hs5⟩
    · rw [(L.1 j hjp).1]
      exact h2 j hjn
  · by_cases hjp : j = p
    · subst hjp
      refine hb ?_
      rw [hs] at hj1
      exact (nI_eq (by omega) (by decide)).mp (hj1.trans (show (1 : Int32) = nI 1 from rfl))
    · rw [(L.1 j hjp).1] at hj1
      rw [(L.1 j hjp).2.1]
      exact h3 j hjn hj1
  · rcases hj with hj | ⟨hs', hj⟩
    · exact ⟨jm, hj.trans h4, by rw [ec, e5]; omega⟩
    · refine ⟨jm + 1, by rw [hj, h4]; exact nI_1 jm, ?_⟩
      rw [ec, e5, hs', if_pos (show nI 5 = (5 : Int32) from rfl)]
      omega
  · obtain ⟨w, hw, hw'⟩ := h6 k hk
    rcases ht k hk with ht | ⟨hs', ht⟩
    · exact ⟨w, ht.trans hw, by rw [ec, e4]; omega⟩
    · refine ⟨w + 1, by rw [ht, hw]; exact nI_1 w, ?_⟩
      rw [ec, e4, hs', if_pos (show nI 4 = (4 : Int32) from rfl)]
      omega
end
section
theorem qJ_I {α : Al} {a j : Nat} {v : Int64} : aI (qJ α a j v) = aI α := rfl
theorem qD_I {α : Al} {a j : Nat} {v : UInt64} : aI (qD α a j v) = aI α := rfl
theorem loseF_I {α : Al} {p c : Nat} {w h : Int32} {k j : Nat} (h1 : k ≠ 29) (h2 : ¬ (k = 0 ∧ j = 36)) (h3 : ¬ (k = 25 ∧ j = p)) : aI (loseF α p c w h) k j = aI α k j := by
  unfold loseF
  rw [noteF_I h1 h2]
  exact qI_I h3
theorem loseF_s {α : Al} {p c : Nat} {w h : Int32} : aI (loseF α p c w h) 25 p = 5 := by
  unfold loseF
  rw [noteF_I (by decide) (by omega)]
  exact qI_s
theorem loseF_D {α : Al} {p c : Nat} {w h : Int32} : aD (loseF α p c w h) = aD α := by
  unfold loseF
  rw [noteF_D]
  rfl
theorem loseF_T {α : Al} {p c n : Nat} {w h : Int32} (H : TT α n) : TT (loseF α p c w h) (n + 1) := TT.note (H.same rfl)
theorem jamF_I {β : Al} {p b np k j : Nat} (h1 : k ≠ 29) (h2 : k ≠ 30) (h3 : k ≠ 7) (h4 : ¬ (k = 0 ∧ (j = 36 ∨ j = 38))) (h5 : ¬ (k = 25 ∧ j = p)) : aI (jamF β p b np) k j = aI β k j := by
  unfold jamF
  rw [loseF_I h1 (fun q => h4 ⟨q.1, Or.inl q.2⟩) h5, qI_I (fun q => h3 q.1), qJ_I]
  rw [qI_I (fun q => h4 ⟨q.1, Or.inr q.2⟩), qI_I (fun q => h2 q.1), qI_I (fun q => h2 q.1), qI_I (fun q => h2 q.1), qI_I (fun q => h2 q.1)]
theorem jamF_s {β : Al} {p b np : Nat} : aI (jamF β p b np) 25 p = 5 := loseF_s
theorem jamF_j {β : Al} {p b np : Nat} : aI (jamF β p b np) 0 38 = aI β 0 38 + 1 := by
  unfold jamF
  rw [loseF_I (by decide) (by omega) (by omega), qI_I (by omega), qJ_I]
  exact qI_s
theorem jamF_D {β : Al} {p b np : Nat} : aD (jamF β p b np) = aD β := by
  unfold jamF
  rw [loseF_D]
  rfl
theorem jamF_T {β : Al} {p b np n : Nat} (H : TT β n) : TT (jamF β p b np) (n + 1) := loseF_T (H.same (by
  rw [qI_I (by omega), qJ_I, qI_I (by omega), qI_I (by omega), qI_I (by omega), qI_I (by omega), qI_I (by omega)]))
theorem Dn.enter {α : Al} {nb nk np n nh p b : Nat} (h : Dn α nb nk np n) (hnh : aI α 0 9 = nI nh) (h8 : nh ≤ 8) (hp : p < np) (hb : b < nb) (ho4 : ¬ aI α 25 p = 4) (ho5 : ¬ aI α 25 p = 5) : Dn (enterF α p b) nb nk np (n + 9) := by
  have hT := h.2.2.2.2.2.2
  have hf := h.2.2.2.2.1
  have L := Lc.enter (p := p) (b := b) (Lc.rf (α := α))
  have e9 : nn (aI α 0 9) = nh := by rw [hnh]; exact nn_nI (by omega)
  revert L
  unfold enterF
  split
  · split
    · intro L
      rw [e9] at L ⊢
      refine h.to (s := 1) L hp ho4 ho5 ?_ (by omega) (fun _ => ⟨b, ?_, hb⟩) (Or.inl ?_) (fun k hk => ?_) (fun k hk => Or.inl ?_) ?_
      · rw [passL_I (by decide) (by omega), noteF_I (by decide) (by omega)]
        show aI (qI (qI (qI (qI α 25 p 0) 25 p 1) 26 p (nI b)) 27 p 0) 25 p = _
        rw [qI_I (by omega), qI_I (by omega), qI_s]
        rfl
      · rw [passL_I (by decide) (by omega), noteF_I (by decide) (by omega)]
        show aI (qI (qI (qI (qI α 25 p 0) 25 p 1) 26 p (nI b)) 27 p 0) 26 p = _
        rw [qI_I (by omega), qI_s]
      · rw [passL_I (by decide) (by omega), noteF_I (by decide) (by omega)]
        rfl
      · rw [passL_D, noteF_D]
        exact hf k hk
      · rw [passL_I (by decide) (by omega), noteF_I (by decide) (by omega)]
        rfl
      · have h0 : TT (setF (qI α 25 p 0) p b) n := hT.same rfl
        exact (passL_T h0.note nh).mono (by omega)
    · intro L
      refine h.to (s := 5) L hp ho4 ho5 jamF_s (by omega) (fun q => by cases q) (Or.inr ⟨rfl, jamF_j⟩) (fun k hk => ?_) (fun k hk => Or.inl ?_) ?_
      · rw [jamF_D]
        exact hf k hk
      · rw [jamF_I (by decide) (by decide) (by decide) (by omega) (by omega)]
        rfl
      · have h0 : TT (qI α 25 p 0) n := hT.same rfl
        exact (jamF_T h0).mono (by omega)
  · intro L
    refine h.to (s := 5) L hp ho4 ho5 loseF_s (by omega) (fun q => by cases q) (Or.inl ?_) (fun k hk => ?_) (fun k hk => Or.inl ?_) ?_
    · rw [loseF_I (by decide) (by omega) (by omega)]
      rfl
    · rw [loseF_D]
      exact hf k hk
    · rw [loseF_I (by decide) (by omega) (by omega)]
      rfl
    · have h0 : TT (qI α 25 p 0) n := hT.same rfl
      exact (loseF_T h0).mono (by omega)
theorem Dn.tR {α : Al} {nb nk np n p r : Nat} (h : Dn α nb nk np n) (hp : p < np) (ho4 : ¬ aI α 25 p = 4) (ho5 : ¬ aI α 25 p = 5) : Dn (takR α p r) nb nk np (n + 1) := by
  refine h.to (s := 4) (Lc.tR Lc.rf) hp ho4 ho5 ?_ (by omega) (fun q => by cases q) (Or.inl ?_) (fun k hk => ?_) (fun k hk => Or.inl ?_) (TT.note (h.2.2.2.2.2.2.same rfl))
  · unfold takR
    rw [noteF_I (by decide) (by omega), qI_s]
    rfl
  · unfold takR
    rw [noteF_I (by decide) (by omega)]
    rfl
  · unfold takR
    rw [noteF_D]
    exact h.2.2.2.2.1 k hk
  · unfold takR
    rw [noteF_I (by decide) (by omega)]
    rfl
theorem Dn.tP {α : Al} {nb nk np n p h0 : Nat} (h : Dn α nb nk np n) (hp : p < np) (ho4 : ¬ aI α 25 p = 4) (ho5 : ¬ aI α 25 p = 5) : Dn (takP α p h0) nb nk np (n + 1) := by
  refine h.to (s := 4) (Lc.tP Lc.rf) hp ho4 ho5 ?_ (by omega) (fun q => by cases q) (Or.inl ?_) (fun k hk => ?_) (fun k hk => ?_) (TT.note (h.2.2.2.2.2.2.same rfl))
  · unfold takP
    rw [noteF_I (by decide) (by omega), qI_s]
    rfl
  · unfold takP
    rw [noteF_I (by decide) (by omega)]
    rfl
  · unfold takP
    rw [noteF_D]
    exact h.2.2.2.2.1 k hk
  · unfold takP
    rw [noteF_I (by decide) (by omega), qI_I (by omega)]
    by_cases hk0 : k = h0
    · subst hk0
      exact Or.inr ⟨rfl, qI_s⟩
    · refine Or.inl ?_
      rw [qI_I (by omega), qI_I (by omega)]
theorem gapF_I {α : Al} {a k j : Nat} (h1 : k ≠ 34) (h2 : k ≠ 35) : aI (gapF α a) k j = aI α k j := by
  unfold gapF
  split
  · rfl
  · rw [qI_I (fun q => h2 q.1), qI_I (fun q => h1 q.1)]
theorem gapF_D {α : Al} {a : Nat} : aD (gapF α a) = aD α := by
  unfold gapF
  split <;> rfl
theorem gapF_J {α : Al} {a : Nat} : aJ (gapF α a) = aJ α := by
  unfold gapF
  split <;> rfl
theorem outF_I {α : Al} {p a k j : Nat} (h1 : k ≠ 29) (h2 : ¬ (k = 0 ∧ j = 36)) (h3 : ¬ (k = 25 ∧ j = p)) (h4 : k ≠ 32 ∧ k ≠ 33 ∧ k ≠ 34 ∧ k ≠ 35) : aI (outF α p a) k j = aI α k j := by
  unfold outF
  rw [noteF_I h1 h2, qI_I h3, qI_I (fun q => h4.2.1 q.1), qI_I (fun q => h4.1 q.1), gapF_I h4.2.2.1 h4.2.2.2]
theorem Dn.out {α : Al} {nb nk np n p a : Nat} (h : Dn α nb nk np n) (hp : p < np) (ho4 : ¬ aI α 25 p = 4) (ho5 : ¬ aI α 25 p = 5) : Dn (outF α p a) nb nk np (n + 1) := by
  refine h.to (s := 3) (Lc.out Lc.rf) hp ho4 ho5 ?_ (by omega) (fun q => by cases q) (Or.inl ?_) (fun k hk => ?_) (fun k hk => Or.inl ?_) (TT.note (h.2.2.2.2.2.2.same ?_))
  · unfold outF
    rw [noteF_I (by decide) (by omega), qI_s]
    rfl
  · exact outF_I (by decide) (by omega) (by omega) (by decide)
  · unfold outF
    rw [noteF_D]
    show dNn (aD (gapF α a) 12 k)
    rw [gapF_D]
    exact h.2.2.2.2.1 k hk
  · exact outF_I (by decide) (by omega) (by omega) (by decide)
  · rw [qI_I (by omega), qI_I (by omega), qI_I (by omega), gapF_I (by decide) (by decide)]
theorem Dn.fill {α : Al} {nb nk np n p k0 : Nat} (h : Dn α nb nk np n) (hp : p < np) (hs : dNn (aD α 22 p)) (hk0 : k0 < 4) (ho4 : ¬ aI α 25 p = 4) (ho5 : ¬ aI α 25 p = 5) : Dn (fillF α p k0) nb nk np (n + 1) := by
  have L := Lc.fill (p := p) (k := k0) (Lc.rf (α := α))
  revert L
  unfold fillF
  split
  · intro L
    refine h.to (s := 5) L hp ho4 ho5 loseF_s (by omega) (fun q => by cases q) (Or.inl (loseF_I (by decide) (by omega) (by omega))) (fun k hk => ?_) (fun k hk => Or.inl (loseF_I (by decide) (by omega) (by omega))) (loseF_T h.2.2.2.2.2.2)
    rw [loseF_D]
    exact h.2.2.2.2.1 k hk
  · intro L
    refine h.to (s := 2) L hp ho4 ho5 ?_ (by omega) (fun q => by cases q) (Or.inl ?_) (fun k hk => ?_) (fun k hk => Or.inl ?_) (TT.note (h.2.2.2.2.2.2.same rfl))
    · rw [noteF_I (by decide) (by omega), qI_s]
      rfl
    · rw [noteF_I (by decide) (by omega)]
      rfl
    · rw [noteF_D]
      show dNn (aD (qD α 12 k0 _) 12 k)
      by_cases hkk : k = k0
      · subst hkk
        rw [qD_s]
        exact dadd_nn (h.2.2.2.2.1 k hk) hs
      · rw [qD_D (by omega)]
        exact h.2.2.2.2.1 k hk
    · rw [noteF_I (by decide) (by omega)]
      rfl
theorem Dn.keep {α β : Al} {nb nk np n n' : Nat} (h : Dn α nb nk np n) (h1 : aI β 0 35 = aI α 0 35) (h2 : ∀ j, aI β 25 j = aI α 25 j) (h3 : ∀ j, aI β 26 j = aI α 26 j) (h4 : aI β 0 38 = aI α 0 38) (h5 : ∀ k, aD β 12 k = aD α 12 k) (h6 : ∀ k, aI β 20 k = aI α 20 k) (hT : TT β n') : Dn β nb nk np n' := by
  obtain ⟨g1, g2, g3, g4, g5, g6, g7⟩ := h
  refine ⟨by rw [h1]; exact g1, fun j hj => by rw [h2]; exact g2 j hj, fun j hj => by rw [h2, h3]; exact g3 j hj, by rw [h4, ctF_congr h2]; exact g4, fun k hk => by rw [h5]; exact g5 k hk, fun k hk => by rw [h6, ctF_congr h2]; exact g6 k hk, hT⟩
theorem Dn.pass {α : Al} {nb nk np n p : Nat} (h : Dn α nb nk np n) (m : Nat) : Dn (passL α p m) nb nk np (n + m) := h.keep (passL_I (by decide) (by omega) m) (fun _ => passL_I (by decide) (by omega) m) (fun _ => passL_I (by decide) (by omega) m) (passL_I (by decide) (by omega) m) (fun _ => by rw [passL_D]) (fun _ => passL_I (by decide) (by omega) m) (passL_T h.2.2.2.2.2.2 m)
theorem ff_lt {P : Nat → Bool} : ∀ {m i r : Nat}, ff P m i = some r → r < i + m
  | 0, i, r, h => by cases h
  | m + 1, i, r, h => by
    unfold ff at h
    cases hp : P i with
    | true => rw [hp] at h; cases h; omega
    | false =>
      rw [hp] at h
      have := ff_lt (P := P) (m := m) (i := i + 1) (r := r) h
      omega
theorem Dn.end {α : Al} {nb nh nu nr nk np n p : Nat} (c : Cf α nb nh nu nr nk np) (h : Dn α nb nk np n) (hp : p < np) (h1 : aI α 25 p = 1) : Dn (endF α p) nb nk np (n + 9) := by
  have ho4 : ¬ aI α 25 p = 4 := by rw [h1]; decide
  have ho5 : ¬ aI α 25 p = 5 := by rw [h1]; decide
  have up : ∀ {β : Al}, Dn β nb nk np (n + 1) → Dn β nb nk np (n + 9) := fun q => ⟨q.1, q.2.1, q.2.2.1, q.2.2.2.1, q.2.2.2.2.1, q.2.2.2.2.2.1, q.2.2.2.2.2.2.mono (by omega)⟩
  obtain ⟨b, hb, hbn⟩ := h.2.2.1 p hp h1
  have e1 : nn (aI α 26 p) = b := by rw [hb]; exact nn_nI (by have := c.1.2; omega)
  unfold endF
  split
  · unfold takenF
    split
    · rename_i γ hγ
      revert hγ
      split
      · intro hγ; cases hγ; exact up (h.tR hp ho4 ho5)
      · split
        · intro hγ; cases hγ; exact up (h.tP hp ho4 ho5)
        · intro hγ; cases hγ
    · rw [e1]
      unfold goF
      split
      · split
        · exact up (h.out hp ho4 ho5)
        · rename_i q1 q2
          rcases (c.2.2.2.2.2.2.1 b hbn).2.2.1 with ⟨t, ht, htn⟩ | ht | ⟨k, hk, hkn⟩
          · exact absurd (by rw [← ht]; exact q1) (nI_pos (n := t) (by have := c.1.2; omega))
          · exact absurd ht q2
          · have hk4 : k < 4 := by have := c.2.2.1.2; omega
            rw [hk, m2_2 hk4, nn_nI (by omega)]
            exact up (h.fill hp (c.2.2.2.2.2.2.2.2.2.2 p hp).2.1.nn hk4 ho4 ho5)
      · rename_i q1
        rcases (c.2.2.2.2.2.2.1 b hbn).2.2.1 with ⟨t, ht, htn⟩ | ht | ⟨k, hk, hkn⟩
        · rw [ht, nn_nI (by have := c.1.2; omega)]
          exact h.enter c.2.1.1 c.2.1.2 hp htn ho4 ho5
        · exact absurd (by rw [ht]; decide) q1
        · exact absurd (by rw [hk]; exact m2_n (by have := c.2.2.1.2; omega)) q1
  · exact ⟨h.1, h.2.1, h.2.2.1, h.2.2.2.1, h.2.2.2.2.1, h.2.2.2.2.2.1, h.2.2.2.2.2.2.mono (by omega)⟩
/-- a piece that moved is on a belt -/
def Mv (α : Al) (i np : Nat) : Prop := ∀ j, i ≤ j → j < np → ¬ aI α 28 j = 0 → aI α 25 j = 1
theorem Dn.actA {α : Al} {nb nh nu nr nk np n p : Nat} (c : Cf α nb nh nu nr nk np) (h : Dn α nb nk np n) (m : Mv α p np) (hp : p < np) : Dn (act1 α p) nb nk np (n + 17) ∧ Mv (act1 α p) (p + 1) np := by
  have e9 : nn (aI α 0 9) = nh := by rw [c.2.1.1]; exact nn_nI (by have := c.2.1.2; omega)
  have up : ∀ {β : Al} {k : Nat}, k ≤ n + 17 → Dn β nb nk np k → Dn β nb nk np (n + 17) := fun hk q => ⟨q.1, q.2.1, q.2.2.1, q.2.2.2.1, q.2.2.2.2.1, q.2.2.2.2.2.1, q.2.2.2.2.2.2.mono hk⟩
  refine ⟨?_, fun j hj hjn hm => ?_⟩
  · unfold act1
    split
    · rename_i q
      obtain ⟨b, hb, hbn⟩ := (c.2.2.2.2.2.2.2.2.2.2 p hp).2.2.1
      rw [hb, nn_nI (by have := c.1.2; omega)]
      exact up (by omega) (h.enter c.2.1.1 c.2.1.2 hp hbn (by rw [q.1]; decide) (by rw [q.1]; decide))
    · split
      · exact up (by omega) h
      · rename_i q1 q2
        have h1 : aI α 25 p = 1 := m p (Nat.le_refl _) hp q2
        rw [e9]
        have hq := (h.pass (p := p) nh).end (c.sm (Sm.rf.pass nh)) hp ((passL_I (by decide) (by omega) nh).trans h1)
        exact up (by have := c.2.1.2; omega) hq
  · have L := Lc.actA (p := p) (Lc.rf (α := α))
    rw [(L.1 j (by omega)).1]
    rw [L.2.1 j] at hm
    exact m j (by omega) hjn hm
end
section
theorem mv1_I {α : Al} {j k z : Nat} (h1 : ¬ (k = 27 ∧ z = j)) (h2 : ¬ (k = 28 ∧ z = j)) : aI (mv1 α j) k z = aI α k z := by
  unfold mv1
  rw [qI_I h1, qI_I h2]
theorem mvL_I {α : Al} {k z : Nat} (h1 : k ≠ 27) (h2 : k ≠ 28) : ∀ n, aI (mvL α n) k z = aI α k z
  | 0 => rfl
  | n + 1 => (mv1_I (fun q => h1 q.1) (fun q => h2 q.1)).trans (mvL_I h1 h2 n)
theorem mvL_J {α : Al} : ∀ n, aJ (mvL α n) = aJ α
  | 0 => rfl
  | n + 1 => mvL_J n
theorem mvL_D {α : Al} : ∀ n, aD (mvL α n) = aD α
  | 0 => rfl
  | n + 1 => mvL_D n
theorem mvL_28 {α : Al} {j : Nat} : ∀ n, j < n → (aI (mvL α n) 28 j = 0 ∨ aI α 25 j = 1)
  | 0, h => absurd h (Nat.not_lt_zero _)
  | n + 1, h => by
    by_cases hj : j = n
    · subst hj
      show aI (mv1 (mvL α j) j) 28 j = 0 ∨ _
      unfold mv1
      rw [qI_I (by omega), qI_s]
      split
      · rename_i q
        exact Or.inr ((mvL_I (by decide) (by decide) j).symm.trans q.1)
      · exact Or.inl rfl
    · rcases mvL_28 (α := α) (j := j) n (by omega) with q | q
      · exact Or.inl ((mv1_I (by omega) (by omega)).trans q)
      · exact Or.inr q
theorem mvL_Mv {α : Al} {np : Nat} : Mv (mvL α np) 0 np := by
  intro j _ hj hm
  rw [mvL_I (by decide) (by decide)]
  rcases mvL_28 (α := α) np hj with q | q
  · exact absurd q hm
  · exact q
theorem Dn.mv {α : Al} {nb nk np n : Nat} (h : Dn α nb nk np n) (m : Nat) : Dn (mvL α m) nb nk np n := h.keep (mvL_I (by decide) (by decide) m) (fun _ => mvL_I (by decide) (by decide) m) (fun _ => mvL_I (by decide) (by decide) m) (mvL_I (by decide) (by decide) m) (fun _ => by rw [mvL_D]) (fun _ => mvL_I (by decide) (by decide) m) (h.2.2.2.2.2.2.same (mvL_I (by decide) (by decide) m))
theorem Dn.tick {α : Al} {nb nk np n t : Nat} (h : Dn α nb nk np n) (ht : aI α 0 35 = nI t) (h1 : t < 10000) : Dn (qI α 0 35 (aI α 0 35 + 1)) nb nk np n := by
  obtain ⟨g1, g2, g3, g4, g5, g6, g7⟩ := h
  refine ⟨⟨t + 1, ?_, by omega⟩, fun j hj => ?_, fun j hj => ?_, ?_, g5, fun k hk => ?_, g7.same (qI_I (by omega))⟩
  · rw [qI_s, ht]
    exact nI_1 t
  · rw [qI_I (by omega)]
    exact g2 j hj
  · rw [qI_I (by omega), qI_I (by omega)]
    exact g3 j hj
  · rw [qI_I (by omega), ctF_congr (α := α) (fun j => qI_I (by omega))]
    exact g4
  · rw [qI_I (by omega), ctF_congr (α := α) (fun j => qI_I (by omega))]
    exact g6 k hk
theorem Dn.actB {α : Al} {nb nh nu nr nk np n : Nat} (c : Cf α nb nh nu nr nk np) (h : Dn α nb nk np n) (m : Mv α 0 np) : ∀ i, i ≤ np → Dn (actL α i) nb nk np (n + 17 * i) ∧ Mv (actL α i) i np
  | 0, _ => ⟨h, m⟩
  | i + 1, hi => by
    obtain ⟨h1, h2⟩ := Dn.actB c h m i (by omega)
    obtain ⟨h3, h4⟩ := h1.actA (c.sm (Sm.rf.actB i)) h2 (by omega)
    exact ⟨by rw [show n + 17 * (i + 1) = n + 17 * i + 17 by omega]; exact h3, h4⟩
theorem act1_now {α : Al} {p : Nat} : aI (act1 α p) 0 35 = aI α 0 35 := (Lc.actA (p := p) (Lc.rf (α := α))).2.2
theorem actL_now {α : Al} : ∀ n, aI (actL α n) 0 35 = aI α 0 35
  | 0 => rfl
  | n + 1 => act1_now.trans (actL_now n)
theorem tenth_now {α : Al} : aI (tenthF α) 0 35 = aI α 0 35 + 1 := by
  unfold tenthF
  rw [actL_now, mvL_I (by decide) (by decide), qI_s]
theorem Dn.tenth {α : Al} {nb nh nu nr nk np t : Nat} (c : Cf α nb nh nu nr nk np) (h : Dn α nb nk np (1020 * t)) (ht : aI α 0 35 = nI t) (h1 : t < 10000) : Dn (tenthF α) nb nk np (1020 * (t + 1)) := by
  have e : nn (aI α 0 26) = np := by rw [c.2.2.2.2.2.1.1]; exact nn_nI (by have := c.2.2.2.2.2.1.2; omega)
  unfold tenthF
  rw [e]
  have h2 := ((h.tick ht h1).mv np).actB (c.sm ((Sm.rf.I rfl (Or.inr rfl)).mvB np)) mvL_Mv np (Nat.le_refl _)
  obtain ⟨q1, q2, q3, q4, q5, q6, q7⟩ := h2.1
  exact ⟨q1, q2, q3, q4, q5, q6, q7.mono (by have := c.2.2.2.2.2.1.2; omega)⟩
theorem mv_y {α : Al} {h b : Nat} (c1 : aI (mvL α h) 25 h = 1) (hb : aI (mvL α h) 26 h = nI b) (hb6 : b < 6) (c2 : ¬ aI (mvL α h) 0 35 ≤ aI (mvL α h) 7 b) : mvL α (h + 1) = qI (qI (mvL α h) 28 h 1) 27 h (aI (mvL α h) 27 h + 1) := by
  show mv1 (mvL α h) h = _
  unfold mv1
  rw [hb, nn_nI (by omega), if_pos ⟨c1, c2⟩]
theorem mv_n1 {α : Al} {h : Nat} (c1 : ¬ aI (mvL α h) 25 h = 1) : mvL α (h + 1) = qI (qI (mvL α h) 28 h 0) 27 h (aI (mvL α h) 27 h + 0) := by
  show mv1 (mvL α h) h = _
  unfold mv1
  rw [if_neg (fun q => c1 q.1)]
theorem mv_n2 {α : Al} {h b : Nat} (hb : aI (mvL α h) 26 h = nI b) (hb6 : b < 6) (c2 : aI (mvL α h) 0 35 ≤ aI (mvL α h) 7 b) : mvL α (h + 1) = qI (qI (mvL α h) 28 h 0) 27 h (aI (mvL α h) 27 h + 0) := by
  show mv1 (mvL α h) h = _
  unfold mv1
  rw [hb, nn_nI (by omega), if_neg (fun q => q.2 c2)]
theorem act_e {γ : Al} {h b : Nat} (c1 : aI (actL γ h) 25 h = 0) (c2 : aI (actL γ h) 23 h = aI (actL γ h) 0 35) (hb : aI (actL γ h) 24 h = nI b) (hb6 : b < 6) : actL γ (h + 1) = enterF (actL γ h) h b := by
  show act1 (actL γ h) h = _
  unfold act1
  rw [if_pos ⟨c1, c2⟩, hb, nn_nI (by omega)]
theorem act_s {γ : Al} {h : Nat} (c : ¬ (aI (actL γ h) 25 h = 0 ∧ aI (actL γ h) 23 h = aI (actL γ h) 0 35)) (c2 : aI (actL γ h) 28 h = 0) : actL γ (h + 1) = actL γ h := by
  show act1 (actL γ h) h = _
  unfold act1
  rw [if_neg c, if_pos c2]
theorem act_m {γ : Al} {h nh : Nat} (c : ¬ (aI (actL γ h) 25 h = 0 ∧ aI (actL γ h) 23 h = aI (actL γ h) 0 35)) (c2 : ¬ aI (actL γ h) 28 h = 0) (e9 : nn (aI (actL γ h) 0 9) = nh) : actL γ (h + 1) = endF (passL (actL γ h) h nh) h := by
  show act1 (actL γ h) h = _
  unfold act1
  rw [if_neg c, if_neg c2, e9]
theorem end_n {β : Al} {p b : Nat} (hb : aI β 26 p = nI b) (hb6 : b < 6) (c : ¬ aI β 27 p = aI β 1 b) : endF β p = β := by
  unfold endF
  rw [hb, nn_nI (by omega), if_neg c]
theorem end_t {β δ : Al} {p b : Nat} (hb : aI β 26 p = nI b) (hb6 : b < 6) (c : aI β 27 p = aI β 1 b) (ht : takenF β p = some δ) : endF β p = δ := by
  unfold endF
  rw [hb, nn_nI (by omega), if_pos c, ht]
theorem end_g {β : Al} {p b : Nat} (hb : aI β 26 p = nI b) (hb6 : b < 6) (c : aI β 27 p = aI β 1 b) (ht : takenF β p = none) : endF β p = goF β p (aI β 3 b) := by
  unfold endF
  rw [hb, nn_nI (by omega), if_pos c, ht]
theorem takPost.s {S S' : St} {α δ : Al} {p : Nat} {r : Option Value} (h : takPost S α p r S') (ht : takenF α p = some δ) : r = some (.int 1) ∧ S' = wr S δ := by
  unfold takPost at h
  rw [ht] at h
  exact h
theorem takPost.o {S S' : St} {α : Al} {p : Nat} {r : Option Value} (h : takPost S α p r S') (ht : takenF α p = none) : r = some (.int 0) ∧ S' = wr S α := by
  unfold takPost at h
  rw [ht] at h
  exact h
theorem runL_inv {α : Al} {nb nh nu nr nk np t : Nat} (c : Cf α nb nh nu nr nk np) (d : Dn α nb nk np (1020 * t)) (ht : aI α 0 35 = nI t) : ∀ m, t + m ≤ 10000 → Cf (runL α m) nb nh nu nr nk np ∧ Dn (runL α m) nb nk np (1020 * (t + m)) ∧ aI (runL α m) 0 35 = nI (t + m)
  | 0, _ => ⟨c, d, ht⟩
  | m + 1, h => by
    obtain ⟨h1, h2, h3⟩ := runL_inv c d ht m (by omega)
    have h4 := h2.tenth h1 h3 (show t + m < 10000 by omega)
    exact ⟨h1.sm Sm.rf.tenth, h4, tenth_now.trans (by rw [h3]; exact nI_1 _)⟩
end
section
set_option maxHeartbeats 4000000 in
set_option maxRecDepth 100000 in
theorem c_10_tenth (l : Launch) (S : St) (α : Al) (nb nh nu nr nk np n t : Nat) (hm : MSh S) (c : Cf α nb nh nu nr nk np) (d : Dn α nb nk np n) (ht : aI α 0 35 = nI t) (ht1 : t < 10000) (hn : n + 2000 < 2 ^ 30) : Ct l yX10_tenth cX10_tenth 2 (none : Option Jvm.ClassFile.FieldType) (rm 4 0 0 93) [.ref (sA S 10 0)] (wr S α) (fun r S' => r = none ∧ S' = wr S (tenthF α)) := by
  refine Ct.of (by decide) (Nat.le_of_ble_eq_true rfl) (fun X hM => ?_)
  have hO := hM.1
  obtain rfl := hM.l
  show Jg X 0 0 (wr S α) 0 [(0, .ref (sA S 10 0))] []
  have loop2 : ∀ γ, Cf γ nb nh nu nr nk np → Dn γ nb nk np n → Mv γ 0 np → wr S (actL γ np) = wr S (tenthF α) → ∀ m h, h + m = np → Jg X 0 0 (wr S (actL γ h)) 90 [(0, .ref (sA S 10 0)), (1, .int (nI h))] [] := by
    intro γ c1 d1 m1 hfin m
    induction m with
    | zero =>
      intro h hz
      obtain rfl : h = np := by omega
      have hnp := (c1.sm (Sm.rf.actB h)).2.2.2.2.2.1.1
      have h60 := (c1.sm (Sm.rf.actB h)).2.2.2.2.2.1.2
      refine j_iload_n (q := 91) hO dX10_tenth_90 rfl rfl ?_
      refine j_aload_n (q := 92) hO dX10_tenth_91 rfl rfl ?_
      refine m_getI (j := 26) (q := 95) hO hm dX10_tenth_92 rfl mw_524 (by decide) rfl ?_
      refine j_icmp_ge (tgt := 187) (q := 98) hO dX10_tenth_95 rfl (by decide) (fun c95 => ?_) (fun c95 => ?_)
      · exact j_vret hM dX10_tenth_187 (Nat.le_of_ble_eq_true rfl) (Nat.le_of_ble_eq_true rfl) ⟨rfl, hfin⟩
      · exact absurd (by rw [hnp]; exact nI_le (Nat.le_refl _) (by omega)) c95
    | succ m ih =>
      intro h hz
      obtain ⟨hd, hmv⟩ := Dn.actB c1 d1 m1 h (by omega)
      have cc := c1.sm (Sm.rf.actB h)
      have hnp := cc.2.2.2.2.2.1.1
      have hp60 : h < 60 := by have := cc.2.2.2.2.2.1.2; omega
      have hsz : ∀ j, j < np → dNn (aD (actL γ h) 22 j) := fun j hj => (cc.2.2.2.2.2.2.2.2.2.2 j hj).2.1.nn
      obtain ⟨jm, hjm, hjl⟩ := hd.2.2.2.1
      have hb6 := cc.1.2
      have np60 := cc.2.2.2.2.2.1.2
      have e9 : nn (aI (actL γ h) 0 9) = nh := by rw [cc.2.1.1]; exact nn_nI (by have := cc.2.1.2; omega)
      refine j_iload_n (q := 91) hO dX10_tenth_90 rfl rfl ?_
      refine j_aload_n (q := 92) hO dX10_tenth_91 rfl rfl ?_
      refine m_getI (j := 26) (q := 95) hO hm dX10_tenth_92 rfl mw_524 (by decide) rfl ?_
      refine j_icmp_ge (tgt := 187) (q := 98) hO dX10_tenth_95 rfl (by decide) (fun c95 => ?_) (fun c95 => ?_)
      · exact absurd c95 (by rw [hnp]; exact nI_ge (by omega) (by omega))
      · refine j_aload_n (q := 99) hO dX10_tenth_98 rfl rfl ?_
        refine m_getA (j := 31) (x := 44) (q := 102) hO hm dX10_tenth_99 rfl mw_529 (by decide) rfl rfl ?_
        refine j_iload_n (q := 103) hO dX10_tenth_102 rfl rfl ?_
        refine m_iald (x := 44) (a := 25) (q := 104) hO hm MK_44 dX10_tenth_103 rfl rfl rfl (by omega) ?_
        refine j_if_ne (tgt := 134) (q := 107) hO dX10_tenth_104 rfl (by decide) (fun c104 => ?_) (fun c104 => ?_)
        · refine j_aload_n (q := 135) hO dX10_tenth_134 rfl rfl ?_
          refine m_getA (j := 34) (x := 47) (q := 138) hO hm dX10_tenth_135 rfl mw_532 (by decide) rfl rfl ?_
          refine j_iload_n (q := 139) hO dX10_tenth_138 rfl rfl ?_
          refine m_zald (x := 47) (a := 28) (q := 140) hO hm MK_47 dX10_tenth_139 rfl rfl rfl (by omega) ?_
          refine j_if_eq (tgt := 181) (q := 143) hO dX10_tenth_140 rfl (by decide) (fun c140 => ?_) (fun c140 => ?_)
          · refine j_iinc (v := nI (h + 1)) (q := 184) hO dX10_tenth_181 rfl rfl (nI_S h) (by rw [hM.nL]; decide) rfl ?_
            refine j_goto (tgt := 90) hO dX10_tenth_184 (by decide) ?_
            refine Jg.lv (lv' := [(0, .ref (sA S 10 0)), (1, .int (nI (h + 1)))]) ⟨rfl, rfl, trivial⟩ ?_
            have hI := ih (h + 1) (by omega)
            rw [(act_s (fun z => c104 z.1) c140 : actL γ (h + 1) = _)] at hI
            exact hI
          · have s1 : aI (actL γ h) 25 h = 1 := hmv h (Nat.le_refl _) (by omega) c140
            obtain ⟨b, hb, hbn⟩ := hd.2.2.1 h (by omega) s1
            have hb' : aI (passL (actL γ h) h nh) 26 h = nI b := (passL_I (by decide) (by omega) nh).trans hb
            have hj60 : jm < 60 := by have := ctF_lt (α := actL γ h) (s := 5) (p := h) (n := np) (by omega) (by rw [s1]; decide); have := cc.2.2.2.2.2.1.2; omega
            refine j_aload_n (q := 144) hO dX10_tenth_143 rfl rfl ?_
            refine j_iload_n (q := 145) hO dX10_tenth_144 rfl rfl ?_
            refine j_callV (x := 10) (q := 148) hO (c_10_pass (lx X) S (actL γ h) _ nh h hm cc.2.1.1 cc.2.1.2 hp60 hd.2.2.2.2.2.2 (by have := cc.2.2.2.2.2.1.2; omega)) M_10_pass mw_713 CK_10 rfl hm.1 rfl rfl rfl (by unfold roomy; rw [hM.R]; exact ⟨⟨Nat.le_of_ble_eq_true rfl, Nat.le_of_ble_eq_true rfl⟩, ⟨Nat.le_of_ble_eq_true rfl, Nat.le_of_ble_eq_true rfl⟩, Nat.le_of_ble_eq_true rfl⟩) dX10_tenth_145 rfl (fun v_145 S_145 hp_145 => ?_)
            obtain ⟨rfl, rfl⟩ := hp_145
            refine j_aload_n (q := 149) hO dX10_tenth_148 rfl rfl ?_
            refine m_getA (j := 33) (x := 46) (q := 152) hO hm dX10_tenth_149 rfl mw_531 (by decide) rfl rfl ?_
            refine j_iload_n (q := 153) hO dX10_tenth_152 rfl rfl ?_
            refine m_iald (x := 46) (a := 27) (q := 154) hO hm MK_46 dX10_tenth_153 rfl rfl rfl (by omega) ?_
            refine j_aload_n (q := 155) hO dX10_tenth_154 rfl rfl ?_
            refine m_getA (j := 2) (x := 20) (q := 158) hO hm dX10_tenth_155 rfl mw_500 (by decide) rfl rfl ?_
            refine j_aload_n (q := 159) hO dX10_tenth_158 rfl rfl ?_
            refine m_getA (j := 32) (x := 45) (q := 162) hO hm dX10_tenth_159 rfl mw_530 (by decide) rfl rfl ?_
            refine j_iload_n (q := 163) hO dX10_tenth_162 rfl rfl ?_
            refine m_iald (x := 45) (a := 26) (q := 164) hO hm MK_45 dX10_tenth_163 rfl rfl rfl (by omega) ?_
            refine m_iald (x := 20) (a := 1) (q := 165) hO hm MK_20 dX10_tenth_164 rfl rfl (j := b) hb' (by omega) ?_
            refine j_icmp_ne (tgt := 181) (q := 168) hO dX10_tenth_165 rfl (by decide) (fun c165 => ?_) (fun c165 => ?_)
            · refine j_iinc (v := nI (h + 1)) (q := 184) hO dX10_tenth_181 rfl rfl (nI_S h) (by rw [hM.nL]; decide) rfl ?_
              refine j_goto (tgt := 90) hO dX10_tenth_184 (by decide) ?_
              refine Jg.lv (lv' := [(0, .ref (sA S 10 0)), (1, .int (nI (h + 1)))]) ⟨rfl, rfl, trivial⟩ ?_
              have hI := ih (h + 1) (by omega)
              rw [((act_m (fun z => c104 z.1) c140 e9).trans (end_n hb' (by omega) c165) : actL γ (h + 1) = _)] at hI
              exact hI
            · obtain ⟨kd, hkd, hk5⟩ := (cc.2.2.2.2.2.2.2.2.2.2 h (by omega)).1
              have cp := cc.sm (Sm.rf.pass (p := h) nh)
              have dp := hd.pass (p := h) nh
              have hc165 : aI (passL (actL γ h) h nh) 27 h = aI (passL (actL γ h) h nh) 1 b := c165
              rcases hTk : takenF (passL (actL γ h) h nh) h with _ | δ
              · refine j_aload_n (q := 169) hO dX10_tenth_168 rfl rfl ?_
                refine j_iload_n (q := 170) hO dX10_tenth_169 rfl rfl ?_
                refine j_callV (x := 10) (q := 173) hO (c_10_isTaken (lx X) S (passL (actL γ h) h nh) _ nr nk h hm cp.2.2.2.1.1 cp.2.2.2.1.2 cp.2.2.2.2.1.1 cp.2.2.2.2.1.2 hp60 (fun k hk => by obtain ⟨w, hw, hwl⟩ := dp.2.2.2.2.2.1 k hk; rw [hw]; exact (cp.2.2.2.2.2.2.2.2.2.1 k hk).2 w (by have := ctF_le (α := (passL (actL γ h) h nh)) (s := 4) np; have := cp.2.2.2.2.2.1.2; omega)) dp.2.2.2.2.2.2 (by have := cp.2.1.2; have := cc.2.2.2.2.2.1.2; omega)) M_10_isTaken mw_726 CK_10 rfl hm.1 rfl rfl rfl (by unfold roomy; rw [hM.R]; exact ⟨⟨Nat.le_of_ble_eq_true rfl, Nat.le_of_ble_eq_true rfl⟩, ⟨Nat.le_of_ble_eq_true rfl, Nat.le_of_ble_eq_true rfl⟩, Nat.le_of_ble_eq_true rfl⟩) dX10_tenth_170 rfl (fun v_170 S_170 hp_170 => ?_)
                obtain ⟨rfl, rfl⟩ := hp_170.o hTk
                refine j_if_ne (tgt := 181) (q := 176) hO dX10_tenth_173 rfl (by decide) (fun c173 => ?_) (fun c173 => ?_)
                · exact absurd rfl c173
                · refine j_aload_n (q := 177) hO dX10_tenth_176 rfl rfl ?_
                  refine j_iload_n (q := 178) hO dX10_tenth_177 rfl rfl ?_
                  refine j_callV (x := 10) (q := 181) hO (c_10_goOn (lx X) S (passL (actL γ h) h nh) _ np nh jm h b kd hm cp.2.2.2.2.2.1.1 cp.2.2.2.2.2.1.2 cp.2.1.1 cp.2.1.2 ((passL_I (by decide) (by decide) nh).trans hjm) hj60 hp60 hb' (by omega) ((passL_I (by decide) (by omega) nh).trans hkd) hk5 (by rcases (cp.2.2.2.2.2.2.1 b hbn).2.2.1 with ⟨t, q1, q2⟩ | q1 | ⟨k, q1, q2⟩; exact Or.inl ⟨t, q1, by omega⟩; exact Or.inr (Or.inl q1); exact Or.inr (Or.inr ⟨k, q1, by have := cp.2.2.1.2; omega⟩)) (fun j hj => (cp.2.2.2.2.2.2.2.2.2.2 j hj).2.1.nn) dp.2.2.2.2.1 ((cp.2.2.2.2.2.2.2.2.2.2 h (by omega)).2.1.nn) dp.2.2.2.2.2.2 (by have := cp.2.1.2; have := cc.2.2.2.2.2.1.2; omega)) M_10_goOn mw_730 CK_10 rfl hm.1 rfl rfl rfl (by unfold roomy; rw [hM.R]; exact ⟨⟨Nat.le_of_ble_eq_true rfl, Nat.le_of_ble_eq_true rfl⟩, ⟨Nat.le_of_ble_eq_true rfl, Nat.le_of_ble_eq_true rfl⟩, Nat.le_of_ble_eq_true rfl⟩) dX10_tenth_178 rfl (fun v_178 S_178 hp_178 => ?_)
                  obtain ⟨rfl, rfl⟩ := hp_178
                  refine j_iinc (v := nI (h + 1)) (q := 184) hO dX10_tenth_181 rfl rfl (nI_S h) (by rw [hM.nL]; decide) rfl ?_
                  refine j_goto (tgt := 90) hO dX10_tenth_184 (by decide) ?_
                  refine Jg.lv (lv' := [(0, .ref (sA S 10 0)), (1, .int (nI (h + 1)))]) ⟨rfl, rfl, trivial⟩ ?_
                  have hI := ih (h + 1) (by omega)
                  rw [((act_m (fun z => c104 z.1) c140 e9).trans (end_g hb' (by omega) hc165 hTk) : actL γ (h + 1) = _)] at hI
                  exact hI
              · refine j_aload_n (q := 169) hO dX10_tenth_168 rfl rfl ?_
                refine j_iload_n (q := 170) hO dX10_tenth_169 rfl rfl ?_
                refine j_callV (x := 10) (q := 173) hO (c_10_isTaken (lx X) S (passL (actL γ h) h nh) _ nr nk h hm cp.2.2.2.1.1 cp.2.2.2.1.2 cp.2.2.2.2.1.1 cp.2.2.2.2.1.2 hp60 (fun k hk => by obtain ⟨w, hw, hwl⟩ := dp.2.2.2.2.2.1 k hk; rw [hw]; exact (cp.2.2.2.2.2.2.2.2.2.1 k hk).2 w (by have := ctF_le (α := (passL (actL γ h) h nh)) (s := 4) np; have := cp.2.2.2.2.2.1.2; omega)) dp.2.2.2.2.2.2 (by have := cp.2.1.2; have := cc.2.2.2.2.2.1.2; omega)) M_10_isTaken mw_726 CK_10 rfl hm.1 rfl rfl rfl (by unfold roomy; rw [hM.R]; exact ⟨⟨Nat.le_of_ble_eq_true rfl, Nat.le_of_ble_eq_true rfl⟩, ⟨Nat.le_of_ble_eq_true rfl, Nat.le_of_ble_eq_true rfl⟩, Nat.le_of_ble_eq_true rfl⟩) dX10_tenth_170 rfl (fun v_170 S_170 hp_170 => ?_)
                obtain ⟨rfl, rfl⟩ := hp_170.s hTk
                refine j_if_ne (tgt := 181) (q := 176) hO dX10_tenth_173 rfl (by decide) (fun c173 => ?_) (fun c173 => ?_)
                · refine j_iinc (v := nI (h + 1)) (q := 184) hO dX10_tenth_181 rfl rfl (nI_S h) (by rw [hM.nL]; decide) rfl ?_
                  refine j_goto (tgt := 90) hO dX10_tenth_184 (by decide) ?_
                  refine Jg.lv (lv' := [(0, .ref (sA S 10 0)), (1, .int (nI (h + 1)))]) ⟨rfl, rfl, trivial⟩ ?_
                  have hI := ih (h + 1) (by omega)
                  rw [((act_m (fun z => c104 z.1) c140 e9).trans (end_t hb' (by omega) hc165 hTk) : actL γ (h + 1) = _)] at hI
                  exact hI
                · exact absurd c173 (by decide)
        · refine j_aload_n (q := 108) hO dX10_tenth_107 rfl rfl ?_
          refine m_getA (j := 29) (x := 42) (q := 111) hO hm dX10_tenth_108 rfl mw_527 (by decide) rfl rfl ?_
          refine j_iload_n (q := 112) hO dX10_tenth_111 rfl rfl ?_
          refine m_iald (x := 42) (a := 23) (q := 113) hO hm MK_42 dX10_tenth_112 rfl rfl rfl (by omega) ?_
          refine j_aload_n (q := 114) hO dX10_tenth_113 rfl rfl ?_
          refine m_getI (j := 35) (q := 117) hO hm dX10_tenth_114 rfl mw_533 (by decide) rfl ?_
          refine j_icmp_ne (tgt := 134) (q := 120) hO dX10_tenth_117 rfl (by decide) (fun c117 => ?_) (fun c117 => ?_)
          · refine j_aload_n (q := 135) hO dX10_tenth_134 rfl rfl ?_
            refine m_getA (j := 34) (x := 47) (q := 138) hO hm dX10_tenth_135 rfl mw_532 (by decide) rfl rfl ?_
            refine j_iload_n (q := 139) hO dX10_tenth_138 rfl rfl ?_
            refine m_zald (x := 47) (a := 28) (q := 140) hO hm MK_47 dX10_tenth_139 rfl rfl rfl (by omega) ?_
            refine j_if_eq (tgt := 181) (q := 143) hO dX10_tenth_140 rfl (by decide) (fun c140 => ?_) (fun c140 => ?_)
            · refine j_iinc (v := nI (h + 1)) (q := 184) hO dX10_tenth_181 rfl rfl (nI_S h) (by rw [hM.nL]; decide) rfl ?_
              refine j_goto (tgt := 90) hO dX10_tenth_184 (by decide) ?_
              refine Jg.lv (lv' := [(0, .ref (sA S 10 0)), (1, .int (nI (h + 1)))]) ⟨rfl, rfl, trivial⟩ ?_
              have hI := ih (h + 1) (by omega)
              rw [(act_s (fun z => c117 z.2) c140 : actL γ (h + 1) = _)] at hI
              exact hI
            · have s1 : aI (actL γ h) 25 h = 1 := hmv h (Nat.le_refl _) (by omega) c140
              obtain ⟨b, hb, hbn⟩ := hd.2.2.1 h (by omega) s1
              have hb' : aI (passL (actL γ h) h nh) 26 h = nI b := (passL_I (by decide) (by omega) nh).trans hb
              have hj60 : jm < 60 := by have := ctF_lt (α := actL γ h) (s := 5) (p := h) (n := np) (by omega) (by rw [s1]; decide); have := cc.2.2.2.2.2.1.2; omega
              refine j_aload_n (q := 144) hO dX10_tenth_143 rfl rfl ?_
              refine j_iload_n (q := 145) hO dX10_tenth_144 rfl rfl ?_
              refine j_callV (x := 10) (q := 148) hO (c_10_pass (lx X) S (actL γ h) _ nh h hm cc.2.1.1 cc.2.1.2 hp60 hd.2.2.2.2.2.2 (by have := cc.2.2.2.2.2.1.2; omega)) M_10_pass mw_713 CK_10 rfl hm.1 rfl rfl rfl (by unfold roomy; rw [hM.R]; exact ⟨⟨Nat.le_of_ble_eq_true rfl, Nat.le_of_ble_eq_true rfl⟩, ⟨Nat.le_of_ble_eq_true rfl, Nat.le_of_ble_eq_true rfl⟩, Nat.le_of_ble_eq_true rfl⟩) dX10_tenth_145 rfl (fun v_145 S_145 hp_145 => ?_)
              obtain ⟨rfl, rfl⟩ := hp_145
              refine j_aload_n (q := 149) hO dX10_tenth_148 rfl rfl ?_
              refine m_getA (j := 33) (x := 46) (q := 152) hO hm dX10_tenth_149 rfl mw_531 (by decide) rfl rfl ?_
              refine j_iload_n (q := 153) hO dX10_tenth_152 rfl rfl ?_
              refine m_iald (x := 46) (a := 27) (q := 154) hO hm MK_46 dX10_tenth_153 rfl rfl rfl (by omega) ?_
              refine j_aload_n (q := 155) hO dX10_tenth_154 rfl rfl ?_
              refine m_getA (j := 2) (x := 20) (q := 158) hO hm dX10_tenth_155 rfl mw_500 (by decide) rfl rfl ?_
              refine j_aload_n (q := 159) hO dX10_tenth_158 rfl rfl ?_
              refine m_getA (j := 32) (x := 45) (q := 162) hO hm dX10_tenth_159 rfl mw_530 (by decide) rfl rfl ?_
              refine j_iload_n (q := 163) hO dX10_tenth_162 rfl rfl ?_
              refine m_iald (x := 45) (a := 26) (q := 164) hO hm MK_45 dX10_tenth_163 rfl rfl rfl (by omega) ?_
              refine m_iald (x := 20) (a := 1) (q := 165) hO hm MK_20 dX10_tenth_164 rfl rfl (j := b) hb' (by omega) ?_
              refine j_icmp_ne (tgt := 181) (q := 168) hO dX10_tenth_165 rfl (by decide) (fun c165 => ?_) (fun c165 => ?_)
              · refine j_iinc (v := nI (h + 1)) (q := 184) hO dX10_tenth_181 rfl rfl (nI_S h) (by rw [hM.nL]; decide) rfl ?_
                refine j_goto (tgt := 90) hO dX10_tenth_184 (by decide) ?_
                refine Jg.lv (lv' := [(0, .ref (sA S 10 0)), (1, .int (nI (h + 1)))]) ⟨rfl, rfl, trivial⟩ ?_
                have hI := ih (h + 1) (by omega)
                rw [((act_m (fun z => c117 z.2) c140 e9).trans (end_n hb' (by omega) c165) : actL γ (h + 1) = _)] at hI
                exact hI
              · obtain ⟨kd, hkd, hk5⟩ := (cc.2.2.2.2.2.2.2.2.2.2 h (by omega)).1
                have cp := cc.sm (Sm.rf.pass (p := h) nh)
                have dp := hd.pass (p := h) nh
                have hc165 : aI (passL (actL γ h) h nh) 27 h = aI (passL (actL γ h) h nh) 1 b := c165
                rcases hTk : takenF (passL (actL γ h) h nh) h with _ | δ
                · refine j_aload_n (q := 169) hO dX10_tenth_168 rfl rfl ?_
                  refine j_iload_n (q := 170) hO dX10_tenth_169 rfl rfl ?_
                  refine j_callV (x := 10) (q := 173) hO (c_10_isTaken (lx X) S (passL (actL γ h) h nh) _ nr nk h hm cp.2.2.2.1.1 cp.2.2.2.1.2 cp.2.2.2.2.1.1 cp.2.2.2.2.1.2 hp60 (fun k hk => by obtain ⟨w, hw, hwl⟩ := dp.2.2.2.2.2.1 k hk; rw [hw]; exact (cp.2.2.2.2.2.2.2.2.2.1 k hk).2 w (by have := ctF_le (α := (passL (actL γ h) h nh)) (s := 4) np; have := cp.2.2.2.2.2.1.2; omega)) dp.2.2.2.2.2.2 (by have := cp.2.1.2; have := cc.2.2.2.2.2.1.2; omega)) M_10_isTaken mw_726 CK_10 rfl hm.1 rfl rfl rfl (by unfold roomy; rw [hM.R]; exact ⟨⟨Nat.le_of_ble_eq_true rfl, Nat.le_of_ble_eq_true rfl⟩, ⟨Nat.le_of_ble_eq_true rfl, Nat.le_of_ble_eq_true rfl⟩, Nat.le_of_ble_eq_true rfl⟩) dX10_tenth_170 rfl (fun v_170 S_170 hp_170 => ?_)
                  obtain ⟨rfl, rfl⟩ := hp_170.o hTk
                  refine j_if_ne (tgt := 181) (q := 176) hO dX10_tenth_173 rfl (by decide) (fun c173 => ?_) (fun c173 => ?_)
                  · exact absurd rfl c173
                  · refine j_aload_n (q := 177) hO dX10_tenth_176 rfl rfl ?_
                    refine j_iload_n (q := 178) hO dX10_tenth_177 rfl rfl ?_
                    refine j_callV (x := 10) (q := 181) hO (c_10_goOn (lx X) S (passL (actL γ h) h nh) _ np nh jm h b kd hm cp.2.2.2.2.2.1.1 cp.2.2.2.2.2.1.2 cp.2.1.1 cp.2.1.2 ((passL_I (by decide) (by decide) nh).trans hjm) hj60 hp60 hb' (by omega) ((passL_I (by decide) (by omega) nh).trans hkd) hk5 (by rcases (cp.2.2.2.2.2.2.1 b hbn).2.2.1 with ⟨t, q1, q2⟩ | q1 | ⟨k, q1, q2⟩; exact Or.inl ⟨t, q1, by omega⟩; exact Or.inr (Or.inl q1); exact Or.inr (Or.inr ⟨k, q1, by have := cp.2.2.1.2; omega⟩)) (fun j hj => (cp.2.2.2.2.2.2.2.2.2.2 j hj).2.1.nn) dp.2.2.2.2.1 ((cp.2.2.2.2.2.2.2.2.2.2 h (by omega)).2.1.nn) dp.2.2.2.2.2.2 (by have := cp.2.1.2; have := cc.2.2.2.2.2.1.2; omega)) M_10_goOn mw_730 CK_10 rfl hm.1 rfl rfl rfl (by unfold roomy; rw [hM.R]; exact ⟨⟨Nat.le_of_ble_eq_true rfl, Nat.le_of_ble_eq_true rfl⟩, ⟨Nat.le_of_ble_eq_true rfl, Nat.le_of_ble_eq_true rfl⟩, Nat.le_of_ble_eq_true rfl⟩) dX10_tenth_178 rfl (fun v_178 S_178 hp_178 => ?_)
                    obtain ⟨rfl, rfl⟩ := hp_178
                    refine j_iinc (v := nI (h + 1)) (q := 184) hO dX10_tenth_181 rfl rfl (nI_S h) (by rw [hM.nL]; decide) rfl ?_
                    refine j_goto (tgt := 90) hO dX10_tenth_184 (by decide) ?_
                    refine Jg.lv (lv' := [(0, .ref (sA S 10 0)), (1, .int (nI (h + 1)))]) ⟨rfl, rfl, trivial⟩ ?_
                    have hI := ih (h + 1) (by omega)
                    rw [((act_m (fun z => c117 z.2) c140 e9).trans (end_g hb' (by omega) hc165 hTk) : actL γ (h + 1) = _)] at hI
                    exact hI
                · refine j_aload_n (q := 169) hO dX10_tenth_168 rfl rfl ?_
                  refine j_iload_n (q := 170) hO dX10_tenth_169 rfl rfl ?_
                  refine j_callV (x := 10) (q := 173) hO (c_10_isTaken (lx X) S (passL (actL γ h) h nh) _ nr nk h hm cp.2.2.2.1.1 cp.2.2.2.1.2 cp.2.2.2.2.1.1 cp.2.2.2.2.1.2 hp60 (fun k hk => by obtain ⟨w, hw, hwl⟩ := dp.2.2.2.2.2.1 k hk; rw [hw]; exact (cp.2.2.2.2.2.2.2.2.2.1 k hk).2 w (by have := ctF_le (α := (passL (actL γ h) h nh)) (s := 4) np; have := cp.2.2.2.2.2.1.2; omega)) dp.2.2.2.2.2.2 (by have := cp.2.1.2; have := cc.2.2.2.2.2.1.2; omega)) M_10_isTaken mw_726 CK_10 rfl hm.1 rfl rfl rfl (by unfold roomy; rw [hM.R]; exact ⟨⟨Nat.le_of_ble_eq_true rfl, Nat.le_of_ble_eq_true rfl⟩, ⟨Nat.le_of_ble_eq_true rfl, Nat.le_of_ble_eq_true rfl⟩, Nat.le_of_ble_eq_true rfl⟩) dX10_tenth_170 rfl (fun v_170 S_170 hp_170 => ?_)
                  obtain ⟨rfl, rfl⟩ := hp_170.s hTk
                  refine j_if_ne (tgt := 181) (q := 176) hO dX10_tenth_173 rfl (by decide) (fun c173 => ?_) (fun c173 => ?_)
                  · refine j_iinc (v := nI (h + 1)) (q := 184) hO dX10_tenth_181 rfl rfl (nI_S h) (by rw [hM.nL]; decide) rfl ?_
                    refine j_goto (tgt := 90) hO dX10_tenth_184 (by decide) ?_
                    refine Jg.lv (lv' := [(0, .ref (sA S 10 0)), (1, .int (nI (h + 1)))]) ⟨rfl, rfl, trivial⟩ ?_
                    have hI := ih (h + 1) (by omega)
                    rw [((act_m (fun z => c117 z.2) c140 e9).trans (end_t hb' (by omega) hc165 hTk) : actL γ (h + 1) = _)] at hI
                    exact hI
                  · exact absurd c173 (by decide)
          · obtain ⟨b, hb, hbn⟩ := (cc.2.2.2.2.2.2.2.2.2.2 h (by omega)).2.2.1
            have hj60 : jm < 60 := by have := ctF_lt (α := actL γ h) (s := 5) (p := h) (n := np) (by omega) (by rw [c104]; decide); have := cc.2.2.2.2.2.1.2; omega
            refine j_aload_n (q := 121) hO dX10_tenth_120 rfl rfl ?_
            refine j_iload_n (q := 122) hO dX10_tenth_121 rfl rfl ?_
            refine j_aload_n (q := 123) hO dX10_tenth_122 rfl rfl ?_
            refine m_getA (j := 30) (x := 43) (q := 126) hO hm dX10_tenth_123 rfl mw_528 (by decide) rfl rfl ?_
            refine j_iload_n (q := 127) hO dX10_tenth_126 rfl rfl ?_
            refine m_iald (x := 43) (a := 24) (q := 128) hO hm MK_43 dX10_tenth_127 rfl rfl rfl (by omega) ?_
            refine j_callV (x := 10) (q := 131) hO (c_10_enter (lx X) S (actL γ h) _ np nh jm h b hm hnp cc.2.2.2.2.2.1.2 cc.2.1.1 cc.2.1.2 hjm hj60 hp60 (by omega) hsz hd.2.2.2.2.2.2 (by have := cc.2.2.2.2.2.1.2; omega)) M_10_enter mw_693 CK_10 rfl hm.1 rfl rfl (by rw [hb]; rfl) (by unfold roomy; rw [hM.R]; exact ⟨⟨Nat.le_of_ble_eq_true rfl, Nat.le_of_ble_eq_true rfl⟩, ⟨Nat.le_of_ble_eq_true rfl, Nat.le_of_ble_eq_true rfl⟩, Nat.le_of_ble_eq_true rfl⟩) dX10_tenth_128 rfl (fun v_128 S_128 hp_128 => ?_)
            obtain ⟨rfl, rfl⟩ := hp_128
            refine j_goto (tgt := 181) hO dX10_tenth_131 (by decide) ?_
            refine j_iinc (v := nI (h + 1)) (q := 184) hO dX10_tenth_181 rfl rfl (nI_S h) (by rw [hM.nL]; decide) rfl ?_
            refine j_goto (tgt := 90) hO dX10_tenth_184 (by decide) ?_
            refine Jg.lv (lv' := [(0, .ref (sA S 10 0)), (1, .int (nI (h + 1)))]) ⟨rfl, rfl, trivial⟩ ?_
            have hI := ih (h + 1) (by omega)
            rw [(act_e c104 c117 hb (by omega) : actL γ (h + 1) = _)] at hI
            exact hI
  have loop1 : ∀ m h, h + m = np → Jg X 0 0 (wr S (mvL (qI α 0 35 (aI α 0 35 + 1)) h)) 12 [(0, .ref (sA S 10 0)), (1, .int (nI h))] [] := by
    intro m
    induction m with
    | zero =>
      intro h hz
      obtain rfl : h = np := by omega
      have h60 := c.2.2.2.2.2.1.2
      have cm := c.sm ((Sm.rf.I rfl (Or.inr rfl)).mvB h : Sm α (mvL (qI α 0 35 (aI α 0 35 + 1)) h))
      have hnp := cm.2.2.2.2.2.1.1
      have dm := (d.tick ht ht1).mv h
      have hb6 := cm.1.2
      have np60 := cm.2.2.2.2.2.1.2
      refine j_iload_n (q := 13) hO dX10_tenth_12 rfl rfl ?_
      refine j_aload_n (q := 14) hO dX10_tenth_13 rfl rfl ?_
      refine m_getI (j := 26) (q := 17) hO hm dX10_tenth_14 rfl mw_524 (by decide) rfl ?_
      refine j_icmp_ge (tgt := 88) (q := 20) hO dX10_tenth_17 rfl (by decide) (fun c17 => ?_) (fun c17 => ?_)
      · refine j_iconst (v := 0) (q := 89) hO dX10_tenth_88 rfl (by decide) ?_
        refine j_istore_n (q := 90) hO dX10_tenth_89 rfl (by rw [hM.nL]; decide) rfl ?_
        refine Jg.lv (lv' := [(0, .ref (sA S 10 0)), (1, .int (nI 0))]) ⟨rfl, rfl, trivial⟩ ?_
        exact loop2 (mvL (qI α 0 35 (aI α 0 35 + 1)) h) cm dm mvL_Mv (by unfold tenthF; rw [show nn (aI α 0 26) = h from by rw [c.2.2.2.2.2.1.1]; exact nn_nI (by omega)]) h 0 (by omega)
      · exact absurd (by rw [hnp]; exact nI_le (Nat.le_refl _) (by omega)) c17
    | succ m ih =>
      intro h hz
      have cm := c.sm ((Sm.rf.I rfl (Or.inr rfl)).mvB h : Sm α (mvL (qI α 0 35 (aI α 0 35 + 1)) h))
      have hnp := cm.2.2.2.2.2.1.1
      have hp60 : h < 60 := by have := cm.2.2.2.2.2.1.2; omega
      have dm := (d.tick ht ht1).mv h
      have hb6 := cm.1.2
      have np60 := cm.2.2.2.2.2.1.2
      refine j_iload_n (q := 13) hO dX10_tenth_12 rfl rfl ?_
      refine j_aload_n (q := 14) hO dX10_tenth_13 rfl rfl ?_
      refine m_getI (j := 26) (q := 17) hO hm dX10_tenth_14 rfl mw_524 (by decide) rfl ?_
      refine j_icmp_ge (tgt := 88) (q := 20) hO dX10_tenth_17 rfl (by decide) (fun c17 => ?_) (fun c17 => ?_)
      · exact absurd c17 (by rw [hnp]; exact nI_ge (by omega) (by omega))
      · refine j_aload_n (q := 21) hO dX10_tenth_20 rfl rfl ?_
        refine m_getA (j := 34) (x := 47) (q := 24) hO hm dX10_tenth_21 rfl mw_532 (by decide) rfl rfl ?_
        refine j_iload_n (q := 25) hO dX10_tenth_24 rfl rfl ?_
        refine j_aload_n (q := 26) hO dX10_tenth_25 rfl rfl ?_
        refine m_getA (j := 31) (x := 44) (q := 29) hO hm dX10_tenth_26 rfl mw_529 (by decide) rfl rfl ?_
        refine j_iload_n (q := 30) hO dX10_tenth_29 rfl rfl ?_
        refine m_iald (x := 44) (a := 25) (q := 31) hO hm MK_44 dX10_tenth_30 rfl rfl rfl (by omega) ?_
        refine j_iconst (v := 1) (q := 32) hO dX10_tenth_31 rfl (by decide) ?_
        refine j_icmp_ne (tgt := 57) (q := 35) hO dX10_tenth_32 rfl (by decide) (fun c32 => ?_) (fun c32 => ?_)
        · refine j_iconst (v := 0) (q := 58) hO dX10_tenth_57 rfl (by decide) ?_
          refine m_zast (x := 47) (a := 28) (q := 59) hO hm MK_47 dX10_tenth_58 rfl rfl (by decide) rfl (by omega) ?_
          refine j_aload_n (q := 60) hO dX10_tenth_59 rfl rfl ?_
          refine m_getA (j := 33) (x := 46) (q := 63) hO hm dX10_tenth_60 rfl mw_531 (by decide) rfl rfl ?_
          refine j_iload_n (q := 64) hO dX10_tenth_63 rfl rfl ?_
          refine j_dup2_11 (q := 65) hO dX10_tenth_64 rfl rfl rfl ?_
          refine m_iald (x := 46) (a := 27) (q := 66) hO hm MK_46 dX10_tenth_65 rfl rfl rfl (by omega) ?_
          refine j_aload_n (q := 67) hO dX10_tenth_66 rfl rfl ?_
          refine m_getA (j := 34) (x := 47) (q := 70) hO hm dX10_tenth_67 rfl mw_532 (by decide) rfl rfl ?_
          refine j_iload_n (q := 71) hO dX10_tenth_70 rfl rfl ?_
          refine m_zald (x := 47) (a := 28) (q := 72) hO hm MK_47 dX10_tenth_71 rfl rfl rfl (by omega) ?_
          refine j_if_eq (tgt := 79) (q := 75) hO dX10_tenth_72 rfl (by decide) (fun c72 => ?_) (fun c72 => ?_)
          · refine j_iconst (v := 0) (q := 80) hO dX10_tenth_79 rfl (by decide) ?_
            refine j_iadd (q := 81) hO dX10_tenth_80 rfl ?_
            refine m_iast (x := 46) (a := 27) (q := 82) hO hm MK_46 dX10_tenth_81 rfl rfl rfl (by omega) ?_
            refine j_iinc (v := nI (h + 1)) (q := 85) hO dX10_tenth_82 rfl rfl (nI_S h) (by rw [hM.nL]; decide) rfl ?_
            refine j_goto (tgt := 12) hO dX10_tenth_85 (by decide) ?_
            refine Jg.lv (lv' := [(0, .ref (sA S 10 0)), (1, .int (nI (h + 1)))]) ⟨rfl, rfl, trivial⟩ ?_
            have hI := ih (h + 1) (by omega)
            rw [(mv_n1 c32 : mvL (qI α 0 35 (aI α 0 35 + 1)) (h + 1) = _)] at hI
            exact hI
          · exact absurd qI_s c72
        · obtain ⟨b, hb, hbn⟩ := dm.2.2.1 h (by omega) c32
          refine j_aload_n (q := 36) hO dX10_tenth_35 rfl rfl ?_
          refine m_getI (j := 35) (q := 39) hO hm dX10_tenth_36 rfl mw_533 (by decide) rfl ?_
          refine j_aload_n (q := 40) hO dX10_tenth_39 rfl rfl ?_
          refine m_getA (j := 8) (x := 26) (q := 43) hO hm dX10_tenth_40 rfl mw_506 (by decide) rfl rfl ?_
          refine j_aload_n (q := 44) hO dX10_tenth_43 rfl rfl ?_
          refine m_getA (j := 32) (x := 45) (q := 47) hO hm dX10_tenth_44 rfl mw_530 (by decide) rfl rfl ?_
          refine j_iload_n (q := 48) hO dX10_tenth_47 rfl rfl ?_
          refine m_iald (x := 45) (a := 26) (q := 49) hO hm MK_45 dX10_tenth_48 rfl rfl rfl (by omega) ?_
          refine m_iald (x := 26) (a := 7) (q := 50) hO hm MK_26 dX10_tenth_49 rfl rfl (j := b) hb (by omega) ?_
          refine j_icmp_le (tgt := 57) (q := 53) hO dX10_tenth_50 rfl (by decide) (fun c50 => ?_) (fun c50 => ?_)
          · refine j_iconst (v := 0) (q := 58) hO dX10_tenth_57 rfl (by decide) ?_
            refine m_zast (x := 47) (a := 28) (q := 59) hO hm MK_47 dX10_tenth_58 rfl rfl (by decide) rfl (by omega) ?_
            refine j_aload_n (q := 60) hO dX10_tenth_59 rfl rfl ?_
            refine m_getA (j := 33) (x := 46) (q := 63) hO hm dX10_tenth_60 rfl mw_531 (by decide) rfl rfl ?_
            refine j_iload_n (q := 64) hO dX10_tenth_63 rfl rfl ?_
            refine j_dup2_11 (q := 65) hO dX10_tenth_64 rfl rfl rfl ?_
            refine m_iald (x := 46) (a := 27) (q := 66) hO hm MK_46 dX10_tenth_65 rfl rfl rfl (by omega) ?_
            refine j_aload_n (q := 67) hO dX10_tenth_66 rfl rfl ?_
            refine m_getA (j := 34) (x := 47) (q := 70) hO hm dX10_tenth_67 rfl mw_532 (by decide) rfl rfl ?_
            refine j_iload_n (q := 71) hO dX10_tenth_70 rfl rfl ?_
            refine m_zald (x := 47) (a := 28) (q := 72) hO hm MK_47 dX10_tenth_71 rfl rfl rfl (by omega) ?_
            refine j_if_eq (tgt := 79) (q := 75) hO dX10_tenth_72 rfl (by decide) (fun c72 => ?_) (fun c72 => ?_)
            · refine j_iconst (v := 0) (q := 80) hO dX10_tenth_79 rfl (by decide) ?_
              refine j_iadd (q := 81) hO dX10_tenth_80 rfl ?_
              refine m_iast (x := 46) (a := 27) (q := 82) hO hm MK_46 dX10_tenth_81 rfl rfl rfl (by omega) ?_
              refine j_iinc (v := nI (h + 1)) (q := 85) hO dX10_tenth_82 rfl rfl (nI_S h) (by rw [hM.nL]; decide) rfl ?_
              refine j_goto (tgt := 12) hO dX10_tenth_85 (by decide) ?_
              refine Jg.lv (lv' := [(0, .ref (sA S 10 0)), (1, .int (nI (h + 1)))]) ⟨rfl, rfl, trivial⟩ ?_
              have hI := ih (h + 1) (by omega)
              rw [(mv_n2 hb (by omega) c50 : mvL (qI α 0 35 (aI α 0 35 + 1)) (h + 1) = _)] at hI
              exact hI
            · exact absurd qI_s c72
          · refine j_iconst (v := 1) (q := 54) hO dX10_tenth_53 rfl (by decide) ?_
            refine j_goto (tgt := 58) hO dX10_tenth_54 (by decide) ?_
            refine m_zast (x := 47) (a := 28) (q := 59) hO hm MK_47 dX10_tenth_58 rfl rfl (by decide) rfl (by omega) ?_
            refine j_aload_n (q := 60) hO dX10_tenth_59 rfl rfl ?_
            refine m_getA (j := 33) (x := 46) (q := 63) hO hm dX10_tenth_60 rfl mw_531 (by decide) rfl rfl ?_
            refine j_iload_n (q := 64) hO dX10_tenth_63 rfl rfl ?_
            refine j_dup2_11 (q := 65) hO dX10_tenth_64 rfl rfl rfl ?_
            refine m_iald (x := 46) (a := 27) (q := 66) hO hm MK_46 dX10_tenth_65 rfl rfl rfl (by omega) ?_
            refine j_aload_n (q := 67) hO dX10_tenth_66 rfl rfl ?_
            refine m_getA (j := 34) (x := 47) (q := 70) hO hm dX10_tenth_67 rfl mw_532 (by decide) rfl rfl ?_
            refine j_iload_n (q := 71) hO dX10_tenth_70 rfl rfl ?_
            refine m_zald (x := 47) (a := 28) (q := 72) hO hm MK_47 dX10_tenth_71 rfl rfl rfl (by omega) ?_
            refine j_if_eq (tgt := 79) (q := 75) hO dX10_tenth_72 rfl (by decide) (fun c72 => ?_) (fun c72 => ?_)
            · exact absurd (qI_s.symm.trans c72) (by decide)
            · refine j_iconst (v := 1) (q := 76) hO dX10_tenth_75 rfl (by decide) ?_
              refine j_goto (tgt := 80) hO dX10_tenth_76 (by decide) ?_
              refine j_iadd (q := 81) hO dX10_tenth_80 rfl ?_
              refine m_iast (x := 46) (a := 27) (q := 82) hO hm MK_46 dX10_tenth_81 rfl rfl rfl (by omega) ?_
              refine j_iinc (v := nI (h + 1)) (q := 85) hO dX10_tenth_82 rfl rfl (nI_S h) (by rw [hM.nL]; decide) rfl ?_
              refine j_goto (tgt := 12) hO dX10_tenth_85 (by decide) ?_
              refine Jg.lv (lv' := [(0, .ref (sA S 10 0)), (1, .int (nI (h + 1)))]) ⟨rfl, rfl, trivial⟩ ?_
              have hI := ih (h + 1) (by omega)
              rw [(mv_y c32 hb (by omega) c50 : mvL (qI α 0 35 (aI α 0 35 + 1)) (h + 1) = _)] at hI
              exact hI
  refine j_aload_n (q := 1) hO dX10_tenth_0 rfl rfl ?_
  refine j_dup (q := 2) hO dX10_tenth_1 rfl rfl ?_
  refine m_getI (j := 35) (q := 5) hO hm dX10_tenth_2 rfl mw_533 (by decide) rfl ?_
  refine j_iconst (v := 1) (q := 6) hO dX10_tenth_5 rfl (by decide) ?_
  refine j_iadd (q := 7) hO dX10_tenth_6 rfl ?_
  refine m_putI (j := 35) (q := 10) hO hm dX10_tenth_7 rfl mw_533 (by decide) rfl rfl (by decide +kernel) ?_
  refine j_iconst (v := 0) (q := 11) hO dX10_tenth_10 rfl (by decide) ?_
  refine j_istore_n (q := 12) hO dX10_tenth_11 rfl (by rw [hM.nL]; decide) rfl ?_
  refine Jg.lv (lv' := [(0, .ref (sA S 10 0)), (1, .int (nI 0))]) ⟨rfl, rfl, trivial⟩ ?_
  exact loop1 np 0 (by omega)
end
section
/-! THE CALLS: what each answers, and what it makes of the state -/
def iB (α : Al) (b : Int32) : Int32 := if b < 0 then 0 else if aI α 0 1 ≤ b then 0 else 1
def op (α : Al) : Bool := decide (aI α 0 26 = 0)
def kBelt (α : Al) (t : Int32) (len : UInt64) : Bool := decide (¬ aI α 0 1 = 6 ∧ ¬ t < 1 ∧ ¬ 1000 < t ∧ ¬ wi len 4602678819172646912 4652007308841189376 = 0 ∧ aI α 0 26 = 0)
def beltF (α : Al) (t : Int32) (len : UInt64) : Al := bif kBelt α t len then qI (qI (qD (qI α 1 (nn (aI α 0 1)) t) 2 (nn (aI α 0 1)) len) 3 (nn (aI α 0 1)) (-1)) 0 1 (aI α 0 1 + 1) else α
def beltA (α : Al) (t : Int32) (len : UInt64) : Int32 := bif kBelt α t len then aI α 0 1 else -1
def kHead (α : Al) (b : Int32) (at' miss : UInt64) : Bool := decide (¬ aI α 0 9 = 8 ∧ ¬ iB α b = 0 ∧ ¬ wi at' FP.dconst0 (aD α 2 (nn b)) = 0 ∧ ¬ wi miss FP.dconst0 FP.dconst1 = 0 ∧ aI α 0 26 = 0)
def plF (at' len : UInt64) (t : Int32) : Int32 := FP.d2i (FP.dmul (FP.ddiv at' len) (FP.i2d t))
def headF (α : Al) (b : Int32) (at' miss : UInt64) : Al := bif kHead α b at' miss then qI (qD (qI (qI α 8 (nn (aI α 0 9)) b) 9 (nn (aI α 0 9)) (plF at' (aD α 2 (nn b)) (aI α 1 (nn b)))) 10 (nn (aI α 0 9)) miss) 0 9 (aI α 0 9 + 1) else α
def headA (α : Al) (b : Int32) (at' miss : UInt64) : Int32 := bif kHead α b at' miss then aI α 0 9 else -1
def kBunk (α : Al) (room : UInt64) : Bool := decide (¬ aI α 0 13 = 4 ∧ ¬ wi room FP.dconst0 4666723172467343360 = 0 ∧ aI α 0 26 = 0)
def bunkF (α : Al) (room : UInt64) : Al := bif kBunk α room then qI (qD α 11 (nn (aI α 0 13)) room) 0 13 (aI α 0 13 + 1) else α
def bunkA (α : Al) (room : UInt64) : Int32 := bif kBunk α room then aI α 0 13 else -1
def jTo (α : Al) (to : Int32) : Bool := decide (to = -1 ∨ (¬ to < 0 ∧ to < aI α 0 1) ∨ (¬ -2 < to ∧ ¬ to ≤ -2 - aI α 0 13))
def kJoin (α : Al) (b to : Int32) : Bool := decide (¬ iB α b = 0 ∧ jTo α to = true ∧ aI α 0 26 = 0)
def joinF (α : Al) (b to : Int32) : Al := bif kJoin α b to then qI α 3 (nn b) to else α
def boA (k : Bool) : Int32 := bif k then 1 else 0
def kRule (α : Al) (b : Int32) (load : UInt64) (s : Int32) : Bool := decide (¬ iB α b = 0 ∧ ¬ wi load FP.dconst0 4666723172467343360 = 0 ∧ ¬ s < 1 ∧ ¬ 1000 < s ∧ aI α 0 26 = 0)
def ruleF (α : Al) (b : Int32) (load : UInt64) (s : Int32) : Al := bif kRule α b load s then qI (qD (qI α 4 (nn b) 1) 5 (nn b) load) 6 (nn b) s else α
def kPick (α : Al) (b : Int32) (rate tires : UInt64) : Bool := decide (¬ aI α 0 20 = 4 ∧ ¬ iB α b = 0 ∧ ¬ wi rate 4593671619917905920 4636737291354636288 = 0 ∧ ¬ wi tires FP.dconst0 4621819117588971520 = 0 ∧ aI α 0 26 = 0)
def picF (α : Al) (b : Int32) (rate tires : UInt64) : Al := bif kPick α b rate tires then qI (qD (qD (qI α 16 (nn (aI α 0 20)) b) 17 (nn (aI α 0 20)) rate) 18 (nn (aI α 0 20)) tires) 0 20 (aI α 0 20 + 1) else α
def picA (α : Al) (b : Int32) (rate tires : UInt64) : Int32 := bif kPick α b rate tires then aI α 0 20 else -1
def kRob (α : Al) (b : Int32) (reach miss : UInt64) : Bool := decide (¬ aI α 0 16 = 4 ∧ ¬ iB α b = 0 ∧ ¬ wi reach FP.dconst0 4621819117588971520 = 0 ∧ ¬ wi miss FP.dconst0 FP.dconst1 = 0 ∧ aI α 0 26 = 0)
def robotF (α : Al) (b : Int32) (reach miss : UInt64) : Al := bif kRob α b reach miss then qI (qD (qD (qI α 13 (nn (aI α 0 16)) b) 14 (nn (aI α 0 16)) reach) 15 (nn (aI α 0 16)) miss) 0 16 (aI α 0 16 + 1) else α
def robotA (α : Al) (b : Int32) (reach miss : UInt64) : Int32 := bif kRob α b reach miss then aI α 0 16 else -1
def kFeed (α : Al) (b t kd : Int32) (size : UInt64) : Bool := decide (¬ aI α 0 26 = 60 ∧ ¬ iB α b = 0 ∧ ¬ t ≤ aI α 0 35 ∧ ¬ 10000 < t ∧ ¬ kd < 0 ∧ ¬ 5 ≤ kd ∧ ¬ wi size FP.dconst0 4621819117588971520 = 0)
def feedF (α : Al) (b t kd : Int32) (size : UInt64) : Al := bif kFeed α b t kd size then qI (qI (qI (qI (qD (qI α 21 (nn (aI α 0 26)) kd) 22 (nn (aI α 0 26)) size) 23 (nn (aI α 0 26)) t) 24 (nn (aI α 0 26)) b) 25 (nn (aI α 0 26)) 0) 0 26 (aI α 0 26 + 1) else α
def kRun (α : Al) (u : Int32) : Bool := decide (¬ u < aI α 0 35 ∧ ¬ 10000 < u)
def runF (α : Al) (u : Int32) : Al := bif kRun α u then runL α (nn u - nn (aI α 0 35)) else α
def runA (α : Al) (u : Int32) : Int32 := bif kRun α u then aI (runF α u) 0 36 else -1
def evA (α : Al) (k w : Int32) : Int32 := if ¬ k < 0 ∧ ¬ aI α 0 36 ≤ k ∧ ¬ 2000 ≤ k ∧ ¬ w < 0 ∧ ¬ 4 ≤ w then aI α 29 (4 * nn k + nn w) else -1
def isK (α : Al) (b kd : Int32) : Int32 := if ¬ iB α b = 0 ∧ ¬ kd < 0 ∧ ¬ 5 ≤ kd then 1 else 0
def outA (α : Al) (b kd : Int32) : Int64 := if isK α b kd = 0 then -1 else (aI α 32 (5 * nn b + nn kd)).toInt64
def inA (α : Al) (np : Nat) : Int64 := (nI (ctF α 1 np) + nI (ctF α 2 np)).toInt64
def jamA (α : Al) (k w : Int32) : Int32 := if ¬ k < 0 ∧ ¬ aI α 0 38 ≤ k ∧ ¬ w < 0 ∧ ¬ 4 ≤ w then aI α 30 (4 * nn k + nn w) else -1
def lostA (α : Al) (c : Int32) : Int64 := if ¬ c < 0 ∧ ¬ 4 ≤ c then aJ α 31 (nn c) else -1
def intA (α : Al) (b kd e : Int32) : UInt64 := if ¬ isK α b kd = 0 ∧ ¬ e < 0 ∧ ¬ 1 < e ∧ 2 ≤ aI α 32 (5 * nn b + nn kd) then FP.ddiv (FP.i2d (if e = 0 then aI α 34 (5 * nn b + nn kd) else aI α 35 (5 * nn b + nn kd))) 4621819117588971520 else 13830554455654793216
/-- how many pieces' times have come -/
def enF (α : Al) : Nat → Nat
  | 0 => 0
  | j + 1 => enF α j + (if aI α 0 35 < aI α 23 j then 0 else 1)
def sameA (α : Al) (np : Nat) : Int32 := if lg_cmp (nI (enF α np)).toInt64 (inA α np + (nI (ctF α 3 np)).toInt64 + (nI (ctF α 4 np)).toInt64 + (nI (ctF α 5 np)).toInt64) = 0 then 1 else 0
def pkA (α : Al) (x : Int64) : Int32 := if ¬ lg_cmp x 0 < 0 ∧ ¬ 0 ≤ lg_cmp x (aI α 0 26).toInt64 then aI α 21 (nn x.toInt32) else -1
theorem op1 {p : Prop} {h : Decidable p} (c : ¬ (if p then (1 : Int32) else 0) = 0) : p := by
  by_cases q : p
  · exact q
  · rw [if_neg q] at c
    exact absurd rfl c
theorem op0 {p : Prop} {h : Decidable p} (c : (if p then (1 : Int32) else 0) = 0) : ¬ p := fun q => by
  rw [if_pos q] at c
  exact absurd c (by decide)
theorem iB_in {α : Al} {b : Int32} {nb : Nat} (h : aI α 0 1 = nI nb) (hn : nb ≤ 6) (c : ¬ iB α b = 0) : ∃ j, j < nb ∧ b = nI j := by
  unfold iB at c
  rcases pk_ix b (n := nb) (by omega) with q | q | q
  · rw [if_pos q] at c
    exact absurd rfl c
  · rw [h, if_pos q] at c
    split at c <;> exact absurd rfl c
  · exact q
theorem nI_m1 (n : Nat) : nI n + 1 - 1 = nI n := by rw [← nI_succ]; exact nI_pred n
theorem iB_1 {α : Al} {b : Int32} (c : iB α b = 0) : ¬ ¬ iB α b = 0 := fun q => q c
theorem isK_in {α : Al} {b kd : Int32} (c : ¬ isK α b kd = 0) : ¬ iB α b = 0 ∧ ¬ kd < 0 ∧ ¬ 5 ≤ kd := by
  unfold isK at c
  by_cases q : ¬ iB α b = 0 ∧ ¬ kd < 0 ∧ ¬ 5 ≤ kd
  · exact q
  · rw [if_neg q] at c
    exact absurd rfl c
theorem kd_in {kd : Int32} (c1 : ¬ kd < 0) (c2 : ¬ 5 ≤ kd) : ∃ j, j < 5 ∧ kd = nI j := by
  rcases pk_ix kd (n := 5) (by omega) with q | q | q
  · exact absurd q c1
  · exact absurd q c2
  · exact q
theorem w_in {w : Int32} (c1 : ¬ w < 0) (c2 : ¬ 4 ≤ w) : ∃ j, j < 4 ∧ w = nI j := by
  rcases pk_ix w (n := 4) (by omega) with q | q | q
  · exact absurd q c1
  · exact absurd q c2
  · exact q
theorem ix5 (b kd : Nat) : (5 : Int32) * nI b + nI kd = nI (5 * b + kd) := by
  rw [show (5 : Int32) = nI 5 from rfl, pk_mul, nI_add]
theorem wi_ok {v a b : UInt64} (h : ¬ wi v a b = 0) : dOk v := by
  intro hn
  apply h
  unfold wi
  have e : FP.dcmp v a = none := by
    show FP.Core.order (FP.Core.val64 v) (FP.Core.val64 a) = none
    rw [hn]
    rfl
  rw [e]
  rfl
end
section
set_option maxHeartbeats 4000000 in
set_option maxRecDepth 100000 in
theorem c_10_belt (l : Launch) (S : St) (α : Al) (nb : Nat) (t : Int32) (len : UInt64) (hm : MSh S) (hnb : aI α 0 1 = nI nb) (hb6 : nb ≤ 6) : Ct l yX10_belt cX10_belt 4 (some .int) (rm 1 0 0 25) [.ref (sA S 10 0), .int t, .double len] (wr S α) (fun r S' => r = some (.int (beltA α t len)) ∧ S' = wr S (beltF α t len)) := by
  refine Ct.of (by decide) (Nat.le_of_ble_eq_true rfl) (fun X hM => ?_)
  have hO := hM.1
  obtain rfl := hM.l
  show Jg X 0 0 (wr S α) 0 [(0, .ref (sA S 10 0)), (1, .int t), (2, .double len)] []
  refine j_aload_n (q := 1) hO dX10_belt_0 rfl rfl ?_
  refine m_getI (j := 1) (q := 4) hO hm dX10_belt_1 rfl mw_499 (by decide) rfl ?_
  refine j_bipush (v := 6) (q := 6) hO dX10_belt_4 rfl (by decide) ?_
  refine j_icmp_eq (tgt := 41) (q := 9) hO dX10_belt_6 rfl (by decide) (fun c6 => ?_) (fun c6 => ?_)
  · refine j_iconst (v := (-1)) (q := 42) hO dX10_belt_41 rfl (by decide) ?_
    exact j_iret hM dX10_belt_42 (Nat.le_of_ble_eq_true rfl) (Nat.le_of_ble_eq_true rfl) ⟨by unfold beltA kBelt; rw [decide_eq_false (fun z => z.1 c6)]; rfl, by unfold beltF kBelt; rw [decide_eq_false (fun z => z.1 c6)]; rfl⟩
  · refine j_iload_n (q := 10) hO dX10_belt_9 rfl rfl ?_
    refine j_iconst (v := 1) (q := 11) hO dX10_belt_10 rfl (by decide) ?_
    refine j_icmp_lt (tgt := 41) (q := 14) hO dX10_belt_11 rfl (by decide) (fun c11 => ?_) (fun c11 => ?_)
    · refine j_iconst (v := (-1)) (q := 42) hO dX10_belt_41 rfl (by decide) ?_
      exact j_iret hM dX10_belt_42 (Nat.le_of_ble_eq_true rfl) (Nat.le_of_ble_eq_true rfl) ⟨by unfold beltA kBelt; rw [decide_eq_false (fun z => z.2.1 c11)]; rfl, by unfold beltF kBelt; rw [decide_eq_false (fun z => z.2.1 c11)]; rfl⟩
    · refine j_iload_n (q := 15) hO dX10_belt_14 rfl rfl ?_
      refine j_sipush (v := 1000) (q := 18) hO dX10_belt_15 rfl (by decide) ?_
      refine j_icmp_gt (tgt := 41) (q := 21) hO dX10_belt_18 rfl (by decide) (fun c18 => ?_) (fun c18 => ?_)
      · refine j_iconst (v := (-1)) (q := 42) hO dX10_belt_41 rfl (by decide) ?_
        exact j_iret hM dX10_belt_42 (Nat.le_of_ble_eq_true rfl) (Nat.le_of_ble_eq_true rfl) ⟨by unfold beltA kBelt; rw [decide_eq_false (fun z => z.2.2.1 c18)]; rfl, by unfold beltF kBelt; rw [decide_eq_false (fun z => z.2.2.1 c18)]; rfl⟩
      · refine j_dload_n (q := 22) hO dX10_belt_21 rfl rfl ?_
        refine j_ldc2d (q := 25) hO dX10_belt_22 rfl mw_640 ?_
        refine j_ldc2d (q := 28) hO dX10_belt_25 rfl mw_641 ?_
        refine j_callS (q := 31) hO (c_10_isIn (lx X) _ _ _ _) M_10_isIn mw_642 rfl rfl (by unfold roomy; rw [hM.R]; exact ⟨⟨Nat.le_of_ble_eq_true rfl, Nat.le_of_ble_eq_true rfl⟩, ⟨Nat.le_of_ble_eq_true rfl, Nat.le_of_ble_eq_true rfl⟩, Nat.le_of_ble_eq_true rfl⟩) dX10_belt_28 rfl (fun v_28 S_28 hp_28 => ?_)
        obtain ⟨rfl, rfl⟩ := hp_28
        refine j_if_eq (tgt := 41) (q := 34) hO dX10_belt_31 rfl (by decide) (fun c31 => ?_) (fun c31 => ?_)
        · refine j_iconst (v := (-1)) (q := 42) hO dX10_belt_41 rfl (by decide) ?_
          exact j_iret hM dX10_belt_42 (Nat.le_of_ble_eq_true rfl) (Nat.le_of_ble_eq_true rfl) ⟨by unfold beltA kBelt; rw [decide_eq_false (fun z => z.2.2.2.1 c31)]; rfl, by unfold beltF kBelt; rw [decide_eq_false (fun z => z.2.2.2.1 c31)]; rfl⟩
        · refine j_aload_n (q := 35) hO dX10_belt_34 rfl rfl ?_
          refine j_callV (x := 10) (q := 38) hO (c_10_isOpen (lx X) _ hm.1) M_10_isOpen mw_645 CK_10 rfl hm.1 rfl rfl rfl (by unfold roomy; rw [hM.R]; exact ⟨⟨Nat.le_of_ble_eq_true rfl, Nat.le_of_ble_eq_true rfl⟩, ⟨Nat.le_of_ble_eq_true rfl, Nat.le_of_ble_eq_true rfl⟩, Nat.le_of_ble_eq_true rfl⟩) dX10_belt_35 rfl (fun v_35 S_35 hp_35 => ?_)
          obtain ⟨rfl, rfl⟩ := hp_35
          refine j_if_ne (tgt := 43) (q := 41) hO dX10_belt_38 rfl (by decide) (fun c38 => ?_) (fun c38 => ?_)
          · have hlt : nb < 6 := by rcases Nat.lt_or_ge nb 6 with q | q; exact q; exact absurd (by rw [hnb, show nb = 6 by omega]; rfl) c6
            refine j_aload_n (q := 44) hO dX10_belt_43 rfl rfl ?_
            refine m_getA (j := 2) (x := 20) (q := 47) hO hm dX10_belt_44 rfl mw_500 (by decide) rfl rfl ?_
            refine j_aload_n (q := 48) hO dX10_belt_47 rfl rfl ?_
            refine m_getI (j := 1) (q := 51) hO hm dX10_belt_48 rfl mw_499 (by decide) rfl ?_
            refine j_iload_n (q := 52) hO dX10_belt_51 rfl rfl ?_
            refine m_iast (x := 20) (a := 1) (q := 53) hO hm MK_20 dX10_belt_52 rfl rfl (j := nb) hnb (by omega) ?_
            refine j_aload_n (q := 54) hO dX10_belt_53 rfl rfl ?_
            refine m_getA (j := 3) (x := 21) (q := 57) hO hm dX10_belt_54 rfl mw_501 (by decide) rfl rfl ?_
            refine j_aload_n (q := 58) hO dX10_belt_57 rfl rfl ?_
            refine m_getI (j := 1) (q := 61) hO hm dX10_belt_58 rfl mw_499 (by decide) rfl ?_
            refine j_dload_n (q := 62) hO dX10_belt_61 rfl rfl ?_
            refine m_dast (x := 21) (a := 2) (q := 63) hO hm MK_21 dX10_belt_62 rfl rfl (j := nb) hnb (by omega) ?_
            refine j_aload_n (q := 64) hO dX10_belt_63 rfl rfl ?_
            refine m_getA (j := 4) (x := 22) (q := 67) hO hm dX10_belt_64 rfl mw_502 (by decide) rfl rfl ?_
            refine j_aload_n (q := 68) hO dX10_belt_67 rfl rfl ?_
            refine m_getI (j := 1) (q := 71) hO hm dX10_belt_68 rfl mw_499 (by decide) rfl ?_
            refine j_iconst (v := (-1)) (q := 72) hO dX10_belt_71 rfl (by decide) ?_
            refine m_iast (x := 22) (a := 3) (q := 73) hO hm MK_22 dX10_belt_72 rfl rfl (j := nb) hnb (by omega) ?_
            refine j_aload_n (q := 74) hO dX10_belt_73 rfl rfl ?_
            refine j_dup (q := 75) hO dX10_belt_74 rfl rfl ?_
            refine m_getI (j := 1) (q := 78) hO hm dX10_belt_75 rfl mw_499 (by decide) rfl ?_
            refine j_iconst (v := 1) (q := 79) hO dX10_belt_78 rfl (by decide) ?_
            refine j_iadd (q := 80) hO dX10_belt_79 rfl ?_
            refine m_putI (j := 1) (q := 83) hO hm dX10_belt_80 rfl mw_499 (by decide) rfl rfl (by decide +kernel) ?_
            refine j_aload_n (q := 84) hO dX10_belt_83 rfl rfl ?_
            refine m_getI (j := 1) (q := 87) hO hm dX10_belt_84 rfl mw_499 (by decide) rfl ?_
            refine j_iconst (v := 1) (q := 88) hO dX10_belt_87 rfl (by decide) ?_
            refine j_isub (q := 89) hO dX10_belt_88 rfl ?_
            exact j_iret hM dX10_belt_89 (Nat.le_of_ble_eq_true rfl) (Nat.le_of_ble_eq_true rfl) ⟨by unfold beltA kBelt; rw [decide_eq_true ⟨c6, c11, c18, c31, op1 c38⟩]; show some (Value.int (aI α 0 1 + 1 - 1)) = some (Value.int (aI α 0 1)); rw [hnb, nI_m1], by unfold beltF kBelt; rw [decide_eq_true ⟨c6, c11, c18, c31, op1 c38⟩, show nn (aI α 0 1) = nb from by rw [hnb]; exact nn_nI (by omega)]; rfl⟩
          · refine j_iconst (v := (-1)) (q := 42) hO dX10_belt_41 rfl (by decide) ?_
            exact j_iret hM dX10_belt_42 (Nat.le_of_ble_eq_true rfl) (Nat.le_of_ble_eq_true rfl) ⟨by unfold beltA kBelt; rw [decide_eq_false (fun z => op0 c38 z.2.2.2.2)]; rfl, by unfold beltF kBelt; rw [decide_eq_false (fun z => op0 c38 z.2.2.2.2)]; rfl⟩
set_option maxHeartbeats 4000000 in
set_option maxRecDepth 100000 in
theorem c_10_head (l : Launch) (S : St) (α : Al) (nb nh : Nat) (b0 : Int32) (at' miss : UInt64) (hm : MSh S) (hnb : aI α 0 1 = nI nb) (hb6 : nb ≤ 6) (hnh : aI α 0 9 = nI nh) (hn8 : nh ≤ 8) (hlen : ∀ b, b < nb → dNz (aD α 2 b)) (hten : ∀ b, b < nb → ∃ t, aI α 1 b = nI t ∧ 1 ≤ t ∧ t ≤ 1000) : Ct l yX10_head cX10_head 6 (some .int) (rm 1 0 0 25) [.ref (sA S 10 0), .int b0, .double at', .double miss] (wr S α) (fun r S' => r = some (.int (headA α b0 at' miss)) ∧ S' = wr S (headF α b0 at' miss)) := by
  refine Ct.of (by decide) (Nat.le_of_ble_eq_true rfl) (fun X hM => ?_)
  have hO := hM.1
  obtain rfl := hM.l
  show Jg X 0 0 (wr S α) 0 [(0, .ref (sA S 10 0)), (1, .int b0), (2, .double at'), (4, .double miss)] []
  refine j_aload_n (q := 1) hO dX10_head_0 rfl rfl ?_
  refine m_getI (j := 9) (q := 4) hO hm dX10_head_1 rfl mw_507 (by decide) rfl ?_
  refine j_bipush (v := 8) (q := 6) hO dX10_head_4 rfl (by decide) ?_
  refine j_icmp_eq (tgt := 48) (q := 9) hO dX10_head_6 rfl (by decide) (fun c6 => ?_) (fun c6 => ?_)
  · refine j_iconst (v := (-1)) (q := 49) hO dX10_head_48 rfl (by decide) ?_
    exact j_iret hM dX10_head_49 (Nat.le_of_ble_eq_true rfl) (Nat.le_of_ble_eq_true rfl) ⟨by unfold headA kHead; rw [decide_eq_false (fun z => z.1 c6)]; rfl, by unfold headF kHead; rw [decide_eq_false (fun z => z.1 c6)]; rfl⟩
  · refine j_aload_n (q := 10) hO dX10_head_9 rfl rfl ?_
    refine j_iload_n (q := 11) hO dX10_head_10 rfl rfl ?_
    refine j_callV (x := 10) (q := 14) hO (c_10_isBelt (lx X) _ _ hm.1) M_10_isBelt mw_653 CK_10 rfl hm.1 rfl rfl rfl (by unfold roomy; rw [hM.R]; exact ⟨⟨Nat.le_of_ble_eq_true rfl, Nat.le_of_ble_eq_true rfl⟩, ⟨Nat.le_of_ble_eq_true rfl, Nat.le_of_ble_eq_true rfl⟩, Nat.le_of_ble_eq_true rfl⟩) dX10_head_11 rfl (fun v_11 S_11 hp_11 => ?_)
    obtain ⟨rfl, rfl⟩ := hp_11
    refine j_if_eq (tgt := 48) (q := 17) hO dX10_head_14 rfl (by decide) (fun c14 => ?_) (fun c14 => ?_)
    · refine j_iconst (v := (-1)) (q := 49) hO dX10_head_48 rfl (by decide) ?_
      exact j_iret hM dX10_head_49 (Nat.le_of_ble_eq_true rfl) (Nat.le_of_ble_eq_true rfl) ⟨by unfold headA kHead; rw [decide_eq_false (fun z => z.2.1 c14)]; rfl, by unfold headF kHead; rw [decide_eq_false (fun z => z.2.1 c14)]; rfl⟩
    · obtain ⟨b, hbn, rfl⟩ := iB_in hnb hb6 c14
      have enb : nn (nI b) = b := nn_nI (by omega)
      refine j_dload_n (q := 18) hO dX10_head_17 rfl rfl ?_
      refine j_dconst0 (q := 19) hO dX10_head_18 rfl ?_
      refine j_aload_n (q := 20) hO dX10_head_19 rfl rfl ?_
      refine m_getA (j := 3) (x := 21) (q := 23) hO hm dX10_head_20 rfl mw_501 (by decide) rfl rfl ?_
      refine j_iload_n (q := 24) hO dX10_head_23 rfl rfl ?_
      refine m_dald (x := 21) (a := 2) (q := 25) hO hm MK_21 dX10_head_24 rfl rfl (j := b) rfl (by omega) ?_
      refine j_callS (q := 28) hO (c_10_isIn (lx X) _ _ _ _) M_10_isIn mw_642 rfl rfl (by unfold roomy; rw [hM.R]; exact ⟨⟨Nat.le_of_ble_eq_true rfl, Nat.le_of_ble_eq_true rfl⟩, ⟨Nat.le_of_ble_eq_true rfl, Nat.le_of_ble_eq_true rfl⟩, Nat.le_of_ble_eq_true rfl⟩) dX10_head_25 rfl (fun v_25 S_25 hp_25 => ?_)
      obtain ⟨rfl, rfl⟩ := hp_25
      refine j_if_eq (tgt := 48) (q := 31) hO dX10_head_28 rfl (by decide) (fun c28 => ?_) (fun c28 => ?_)
      · refine j_iconst (v := (-1)) (q := 49) hO dX10_head_48 rfl (by decide) ?_
        exact j_iret hM dX10_head_49 (Nat.le_of_ble_eq_true rfl) (Nat.le_of_ble_eq_true rfl) ⟨by unfold headA kHead; rw [decide_eq_false (fun z => z.2.2.1 (by rw [enb]; exact c28))]; rfl, by unfold headF kHead; rw [decide_eq_false (fun z => z.2.2.1 (by rw [enb]; exact c28))]; rfl⟩
      · refine j_dload (q := 33) hO dX10_head_31 rfl rfl ?_
        refine j_dconst0 (q := 34) hO dX10_head_33 rfl ?_
        refine j_dconst1 (q := 35) hO dX10_head_34 rfl ?_
        refine j_callS (q := 38) hO (c_10_isIn (lx X) _ _ _ _) M_10_isIn mw_642 rfl rfl (by unfold roomy; rw [hM.R]; exact ⟨⟨Nat.le_of_ble_eq_true rfl, Nat.le_of_ble_eq_true rfl⟩, ⟨Nat.le_of_ble_eq_true rfl, Nat.le_of_ble_eq_true rfl⟩, Nat.le_of_ble_eq_true rfl⟩) dX10_head_35 rfl (fun v_35 S_35 hp_35 => ?_)
        obtain ⟨rfl, rfl⟩ := hp_35
        refine j_if_eq (tgt := 48) (q := 41) hO dX10_head_38 rfl (by decide) (fun c38 => ?_) (fun c38 => ?_)
        · refine j_iconst (v := (-1)) (q := 49) hO dX10_head_48 rfl (by decide) ?_
          exact j_iret hM dX10_head_49 (Nat.le_of_ble_eq_true rfl) (Nat.le_of_ble_eq_true rfl) ⟨by unfold headA kHead; rw [decide_eq_false (fun z => z.2.2.2.1 c38)]; rfl, by unfold headF kHead; rw [decide_eq_false (fun z => z.2.2.2.1 c38)]; rfl⟩
        · refine j_aload_n (q := 42) hO dX10_head_41 rfl rfl ?_
          refine j_callV (x := 10) (q := 45) hO (c_10_isOpen (lx X) _ hm.1) M_10_isOpen mw_645 CK_10 rfl hm.1 rfl rfl rfl (by unfold roomy; rw [hM.R]; exact ⟨⟨Nat.le_of_ble_eq_true rfl, Nat.le_of_ble_eq_true rfl⟩, ⟨Nat.le_of_ble_eq_true rfl, Nat.le_of_ble_eq_true rfl⟩, Nat.le_of_ble_eq_true rfl⟩) dX10_head_42 rfl (fun v_42 S_42 hp_42 => ?_)
          obtain ⟨rfl, rfl⟩ := hp_42
          refine j_if_ne (tgt := 50) (q := 48) hO dX10_head_45 rfl (by decide) (fun c45 => ?_) (fun c45 => ?_)
          · have hlt : nh < 8 := by rcases Nat.lt_or_ge nh 8 with q | q; exact q; exact absurd (by rw [hnh, show nh = 8 by omega]; rfl) c6
            obtain ⟨t, ht, ht1, ht2⟩ := hten b hbn
            refine j_aload_n (q := 51) hO dX10_head_50 rfl rfl ?_
            refine m_getA (j := 10) (x := 27) (q := 54) hO hm dX10_head_51 rfl mw_508 (by decide) rfl rfl ?_
            refine j_aload_n (q := 55) hO dX10_head_54 rfl rfl ?_
            refine m_getI (j := 9) (q := 58) hO hm dX10_head_55 rfl mw_507 (by decide) rfl ?_
            refine j_iload_n (q := 59) hO dX10_head_58 rfl rfl ?_
            refine m_iast (x := 27) (a := 8) (q := 60) hO hm MK_27 dX10_head_59 rfl rfl (j := nh) hnh (by omega) ?_
            refine j_aload_n (q := 61) hO dX10_head_60 rfl rfl ?_
            refine m_getA (j := 11) (x := 28) (q := 64) hO hm dX10_head_61 rfl mw_509 (by decide) rfl rfl ?_
            refine j_aload_n (q := 65) hO dX10_head_64 rfl rfl ?_
            refine m_getI (j := 9) (q := 68) hO hm dX10_head_65 rfl mw_507 (by decide) rfl ?_
            refine j_dload_n (q := 69) hO dX10_head_68 rfl rfl ?_
            refine j_aload_n (q := 70) hO dX10_head_69 rfl rfl ?_
            refine m_getA (j := 3) (x := 21) (q := 73) hO hm dX10_head_70 rfl mw_501 (by decide) rfl rfl ?_
            refine j_iload_n (q := 74) hO dX10_head_73 rfl rfl ?_
            refine m_dald (x := 21) (a := 2) (q := 75) hO hm MK_21 dX10_head_74 rfl rfl (j := b) rfl (by omega) ?_
            refine j_ddiv (q := 76) hO dX10_head_75 rfl (n64_of (ddiv_ok (wi_ok c28) (hlen b hbn))) ?_
            refine j_aload_n (q := 77) hO dX10_head_76 rfl rfl ?_
            refine m_getA (j := 2) (x := 20) (q := 80) hO hm dX10_head_77 rfl mw_500 (by decide) rfl rfl ?_
            refine j_iload_n (q := 81) hO dX10_head_80 rfl rfl ?_
            refine m_iald (x := 20) (a := 1) (q := 82) hO hm MK_20 dX10_head_81 rfl rfl (j := b) rfl (by omega) ?_
            refine j_i2d (q := 83) hO dX10_head_82 rfl ?_
            refine j_dmul (q := 84) hO dX10_head_83 rfl (n64_of (by show dOk (FP.dmul _ (FP.i2d (aI α 1 b))); rw [ht]; exact dmul_okz (ddiv_ok (wi_ok c28) (hlen b hbn)) (i2d_nz t (by omega) (by omega)))) ?_
            refine j_d2i (q := 85) hO dX10_head_84 rfl ?_
            refine m_iast (x := 28) (a := 9) (q := 86) hO hm MK_28 dX10_head_85 rfl rfl (j := nh) hnh (by omega) ?_
            refine j_aload_n (q := 87) hO dX10_head_86 rfl rfl ?_
            refine m_getA (j := 12) (x := 29) (q := 90) hO hm dX10_head_87 rfl mw_510 (by decide) rfl rfl ?_
            refine j_aload_n (q := 91) hO dX10_head_90 rfl rfl ?_
            refine m_getI (j := 9) (q := 94) hO hm dX10_head_91 rfl mw_507 (by decide) rfl ?_
            refine j_dload (q := 96) hO dX10_head_94 rfl rfl ?_
            refine m_dast (x := 29) (a := 10) (q := 97) hO hm MK_29 dX10_head_96 rfl rfl (j := nh) hnh (by omega) ?_
            refine j_aload_n (q := 98) hO dX10_head_97 rfl rfl ?_
            refine j_dup (q := 99) hO dX10_head_98 rfl rfl ?_
            refine m_getI (j := 9) (q := 102) hO hm dX10_head_99 rfl mw_507 (by decide) rfl ?_
            refine j_iconst (v := 1) (q := 103) hO dX10_head_102 rfl (by decide) ?_
            refine j_iadd (q := 104) hO dX10_head_103 rfl ?_
            refine m_putI (j := 9) (q := 107) hO hm dX10_head_104 rfl mw_507 (by decide) rfl rfl (by decide +kernel) ?_
            refine j_aload_n (q := 108) hO dX10_head_107 rfl rfl ?_
            refine m_getI (j := 9) (q := 111) hO hm dX10_head_108 rfl mw_507 (by decide) rfl ?_
            refine j_iconst (v := 1) (q := 112) hO dX10_head_111 rfl (by decide) ?_
            refine j_isub (q := 113) hO dX10_head_112 rfl ?_
            exact j_iret hM dX10_head_113 (Nat.le_of_ble_eq_true rfl) (Nat.le_of_ble_eq_true rfl) ⟨by unfold headA kHead; rw [enb, decide_eq_true ⟨c6, c14, c28, c38, op1 c45⟩]; show some (Value.int (aI α 0 9 + 1 - 1)) = some (Value.int (aI α 0 9)); rw [hnh, nI_m1], by unfold headF kHead; rw [enb, decide_eq_true ⟨c6, c14, c28, c38, op1 c45⟩, show nn (aI α 0 9) = nh from by rw [hnh]; exact nn_nI (by omega)]; rfl⟩
          · refine j_iconst (v := (-1)) (q := 49) hO dX10_head_48 rfl (by decide) ?_
            exact j_iret hM dX10_head_49 (Nat.le_of_ble_eq_true rfl) (Nat.le_of_ble_eq_true rfl) ⟨by unfold headA kHead; rw [decide_eq_false (fun z => op0 c45 z.2.2.2.2)]; rfl, by unfold headF kHead; rw [decide_eq_false (fun z => op0 c45 z.2.2.2.2)]; rfl⟩
set_option maxHeartbeats 4000000 in
set_option maxRecDepth 100000 in
theorem c_10_bunker (l : Launch) (S : St) (α : Al) (nu : Nat) (room : UInt64) (hm : MSh S) (hnu : aI α 0 13 = nI nu) (hn4 : nu ≤ 4) : Ct l yX10_bunker cX10_bunker 3 (some .int) (rm 1 0 0 25) [.ref (sA S 10 0), .double room] (wr S α) (fun r S' => r = some (.int (bunkA α room)) ∧ S' = wr S (bunkF α room)) := by
  refine Ct.of (by decide) (Nat.le_of_ble_eq_true rfl) (fun X hM => ?_)
  have hO := hM.1
  obtain rfl := hM.l
  show Jg X 0 0 (wr S α) 0 [(0, .ref (sA S 10 0)), (1, .double room)] []
  refine j_aload_n (q := 1) hO dX10_bunker_0 rfl rfl ?_
  refine m_getI (j := 13) (q := 4) hO hm dX10_bunker_1 rfl mw_511 (by decide) rfl ?_
  refine j_iconst (v := 4) (q := 5) hO dX10_bunker_4 rfl (by decide) ?_
  refine j_icmp_eq (tgt := 26) (q := 8) hO dX10_bunker_5 rfl (by decide) (fun c5 => ?_) (fun c5 => ?_)
  · refine j_iconst (v := (-1)) (q := 27) hO dX10_bunker_26 rfl (by decide) ?_
    exact j_iret hM dX10_bunker_27 (Nat.le_of_ble_eq_true rfl) (Nat.le_of_ble_eq_true rfl) ⟨by unfold bunkA kBunk; rw [decide_eq_false (fun z => z.1 c5)]; rfl, by unfold bunkF kBunk; rw [decide_eq_false (fun z => z.1 c5)]; rfl⟩
  · refine j_dload_n (q := 9) hO dX10_bunker_8 rfl rfl ?_
    refine j_dconst0 (q := 10) hO dX10_bunker_9 rfl ?_
    refine j_ldc2d (q := 13) hO dX10_bunker_10 rfl mw_661 ?_
    refine j_callS (q := 16) hO (c_10_isIn (lx X) _ _ _ _) M_10_isIn mw_642 rfl rfl (by unfold roomy; rw [hM.R]; exact ⟨⟨Nat.le_of_ble_eq_true rfl, Nat.le_of_ble_eq_true rfl⟩, ⟨Nat.le_of_ble_eq_true rfl, Nat.le_of_ble_eq_true rfl⟩, Nat.le_of_ble_eq_true rfl⟩) dX10_bunker_13 rfl (fun v_13 S_13 hp_13 => ?_)
    obtain ⟨rfl, rfl⟩ := hp_13
    refine j_if_eq (tgt := 26) (q := 19) hO dX10_bunker_16 rfl (by decide) (fun c16 => ?_) (fun c16 => ?_)
    · refine j_iconst (v := (-1)) (q := 27) hO dX10_bunker_26 rfl (by decide) ?_
      exact j_iret hM dX10_bunker_27 (Nat.le_of_ble_eq_true rfl) (Nat.le_of_ble_eq_true rfl) ⟨by unfold bunkA kBunk; rw [decide_eq_false (fun z => z.2.1 c16)]; rfl, by unfold bunkF kBunk; rw [decide_eq_false (fun z => z.2.1 c16)]; rfl⟩
    · refine j_aload_n (q := 20) hO dX10_bunker_19 rfl rfl ?_
      refine j_callV (x := 10) (q := 23) hO (c_10_isOpen (lx X) _ hm.1) M_10_isOpen mw_645 CK_10 rfl hm.1 rfl rfl rfl (by unfold roomy; rw [hM.R]; exact ⟨⟨Nat.le_of_ble_eq_true rfl, Nat.le_of_ble_eq_true rfl⟩, ⟨Nat.le_of_ble_eq_true rfl, Nat.le_of_ble_eq_true rfl⟩, Nat.le_of_ble_eq_true rfl⟩) dX10_bunker_20 rfl (fun v_20 S_20 hp_20 => ?_)
      obtain ⟨rfl, rfl⟩ := hp_20
      refine j_if_ne (tgt := 28) (q := 26) hO dX10_bunker_23 rfl (by decide) (fun c23 => ?_) (fun c23 => ?_)
      · have hlt : nu < 4 := by rcases Nat.lt_or_ge nu 4 with q | q; exact q; exact absurd (by rw [hnu, show nu = 4 by omega]; rfl) c5
        refine j_aload_n (q := 29) hO dX10_bunker_28 rfl rfl ?_
        refine m_getA (j := 14) (x := 30) (q := 32) hO hm dX10_bunker_29 rfl mw_512 (by decide) rfl rfl ?_
        refine j_aload_n (q := 33) hO dX10_bunker_32 rfl rfl ?_
        refine m_getI (j := 13) (q := 36) hO hm dX10_bunker_33 rfl mw_511 (by decide) rfl ?_
        refine j_dload_n (q := 37) hO dX10_bunker_36 rfl rfl ?_
        refine m_dast (x := 30) (a := 11) (q := 38) hO hm MK_30 dX10_bunker_37 rfl rfl (j := nu) hnu (by omega) ?_
        refine j_aload_n (q := 39) hO dX10_bunker_38 rfl rfl ?_
        refine j_dup (q := 40) hO dX10_bunker_39 rfl rfl ?_
        refine m_getI (j := 13) (q := 43) hO hm dX10_bunker_40 rfl mw_511 (by decide) rfl ?_
        refine j_iconst (v := 1) (q := 44) hO dX10_bunker_43 rfl (by decide) ?_
        refine j_iadd (q := 45) hO dX10_bunker_44 rfl ?_
        refine m_putI (j := 13) (q := 48) hO hm dX10_bunker_45 rfl mw_511 (by decide) rfl rfl (by decide +kernel) ?_
        refine j_aload_n (q := 49) hO dX10_bunker_48 rfl rfl ?_
        refine m_getI (j := 13) (q := 52) hO hm dX10_bunker_49 rfl mw_511 (by decide) rfl ?_
        refine j_iconst (v := 1) (q := 53) hO dX10_bunker_52 rfl (by decide) ?_
        refine j_isub (q := 54) hO dX10_bunker_53 rfl ?_
        exact j_iret hM dX10_bunker_54 (Nat.le_of_ble_eq_true rfl) (Nat.le_of_ble_eq_true rfl) ⟨by unfold bunkA kBunk; rw [decide_eq_true ⟨c5, c16, op1 c23⟩]; show some (Value.int (aI α 0 13 + 1 - 1)) = some (Value.int (aI α 0 13)); rw [hnu, nI_m1], by unfold bunkF kBunk; rw [decide_eq_true ⟨c5, c16, op1 c23⟩, show nn (aI α 0 13) = nu from by rw [hnu]; exact nn_nI (by omega)]; rfl⟩
      · refine j_iconst (v := (-1)) (q := 27) hO dX10_bunker_26 rfl (by decide) ?_
        exact j_iret hM dX10_bunker_27 (Nat.le_of_ble_eq_true rfl) (Nat.le_of_ble_eq_true rfl) ⟨by unfold bunkA kBunk; rw [decide_eq_false (fun z => op0 c23 z.2.2)]; rfl, by unfold bunkF kBunk; rw [decide_eq_false (fun z => op0 c23 z.2.2)]; rfl⟩
set_option maxHeartbeats 4000000 in
set_option maxRecDepth 100000 in
theorem c_10_rule (l : Launch) (S : St) (α : Al) (nb : Nat) (b0 : Int32) (load : UInt64) (s : Int32) (hm : MSh S) (hnb : aI α 0 1 = nI nb) (hb6 : nb ≤ 6) : Ct l yX10_rule cX10_rule 5 (some .boolean) (rm 1 0 0 25) [.ref (sA S 10 0), .int b0, .double load, .int s] (wr S α) (fun r S' => r = some (.int (boA (kRule α b0 load s))) ∧ S' = wr S (ruleF α b0 load s)) := by
  refine Ct.of (by decide) (Nat.le_of_ble_eq_true rfl) (fun X hM => ?_)
  have hO := hM.1
  obtain rfl := hM.l
  show Jg X 0 0 (wr S α) 0 [(0, .ref (sA S 10 0)), (1, .int b0), (2, .double load), (4, .int s)] []
  refine j_aload_n (q := 1) hO dX10_rule_0 rfl rfl ?_
  refine j_iload_n (q := 2) hO dX10_rule_1 rfl rfl ?_
  refine j_callV (x := 10) (q := 5) hO (c_10_isBelt (lx X) _ _ hm.1) M_10_isBelt mw_653 CK_10 rfl hm.1 rfl rfl rfl (by unfold roomy; rw [hM.R]; exact ⟨⟨Nat.le_of_ble_eq_true rfl, Nat.le_of_ble_eq_true rfl⟩, ⟨Nat.le_of_ble_eq_true rfl, Nat.le_of_ble_eq_true rfl⟩, Nat.le_of_ble_eq_true rfl⟩) dX10_rule_2 rfl (fun v_2 S_2 hp_2 => ?_)
  obtain ⟨rfl, rfl⟩ := hp_2
  refine j_if_eq (tgt := 40) (q := 8) hO dX10_rule_5 rfl (by decide) (fun c5 => ?_) (fun c5 => ?_)
  · refine j_iconst (v := 0) (q := 41) hO dX10_rule_40 rfl (by decide) ?_
    exact j_zret hM dX10_rule_41 (Nat.le_of_ble_eq_true rfl) (Nat.le_of_ble_eq_true rfl) (by decide) ⟨by unfold boA kRule; rw [decide_eq_false (fun z => z.1 c5)]; rfl, by unfold ruleF kRule; rw [decide_eq_false (fun z => z.1 c5)]; rfl⟩
  · obtain ⟨b, hbn, rfl⟩ := iB_in hnb hb6 c5
    have enb : nn (nI b) = b := nn_nI (by omega)
    refine j_dload_n (q := 9) hO dX10_rule_8 rfl rfl ?_
    refine j_dconst0 (q := 10) hO dX10_rule_9 rfl ?_
    refine j_ldc2d (q := 13) hO dX10_rule_10 rfl mw_661 ?_
    refine j_callS (q := 16) hO (c_10_isIn (lx X) _ _ _ _) M_10_isIn mw_642 rfl rfl (by unfold roomy; rw [hM.R]; exact ⟨⟨Nat.le_of_ble_eq_true rfl, Nat.le_of_ble_eq_true rfl⟩, ⟨Nat.le_of_ble_eq_true rfl, Nat.le_of_ble_eq_true rfl⟩, Nat.le_of_ble_eq_true rfl⟩) dX10_rule_13 rfl (fun v_13 S_13 hp_13 => ?_)
    obtain ⟨rfl, rfl⟩ := hp_13
    refine j_if_eq (tgt := 40) (q := 19) hO dX10_rule_16 rfl (by decide) (fun c16 => ?_) (fun c16 => ?_)
    · refine j_iconst (v := 0) (q := 41) hO dX10_rule_40 rfl (by decide) ?_
      exact j_zret hM dX10_rule_41 (Nat.le_of_ble_eq_true rfl) (Nat.le_of_ble_eq_true rfl) (by decide) ⟨by unfold boA kRule; rw [decide_eq_false (fun z => z.2.1 c16)]; rfl, by unfold ruleF kRule; rw [decide_eq_false (fun z => z.2.1 c16)]; rfl⟩
    · refine j_iload (q := 21) hO dX10_rule_19 rfl rfl ?_
      refine j_iconst (v := 1) (q := 22) hO dX10_rule_21 rfl (by decide) ?_
      refine j_icmp_lt (tgt := 40) (q := 25) hO dX10_rule_22 rfl (by decide) (fun c22 => ?_) (fun c22 => ?_)
      · refine j_iconst (v := 0) (q := 41) hO dX10_rule_40 rfl (by decide) ?_
        exact j_zret hM dX10_rule_41 (Nat.le_of_ble_eq_true rfl) (Nat.le_of_ble_eq_true rfl) (by decide) ⟨by unfold boA kRule; rw [decide_eq_false (fun z => z.2.2.1 c22)]; rfl, by unfold ruleF kRule; rw [decide_eq_false (fun z => z.2.2.1 c22)]; rfl⟩
      · refine j_iload (q := 27) hO dX10_rule_25 rfl rfl ?_
        refine j_sipush (v := 1000) (q := 30) hO dX10_rule_27 rfl (by decide) ?_
        refine j_icmp_gt (tgt := 40) (q := 33) hO dX10_rule_30 rfl (by decide) (fun c30 => ?_) (fun c30 => ?_)
        · refine j_iconst (v := 0) (q := 41) hO dX10_rule_40 rfl (by decide) ?_
          exact j_zret hM dX10_rule_41 (Nat.le_of_ble_eq_true rfl) (Nat.le_of_ble_eq_true rfl) (by decide) ⟨by unfold boA kRule; rw [decide_eq_false (fun z => z.2.2.2.1 c30)]; rfl, by unfold ruleF kRule; rw [decide_eq_false (fun z => z.2.2.2.1 c30)]; rfl⟩
        · refine j_aload_n (q := 34) hO dX10_rule_33 rfl rfl ?_
          refine j_callV (x := 10) (q := 37) hO (c_10_isOpen (lx X) _ hm.1) M_10_isOpen mw_645 CK_10 rfl hm.1 rfl rfl rfl (by unfold roomy; rw [hM.R]; exact ⟨⟨Nat.le_of_ble_eq_true rfl, Nat.le_of_ble_eq_true rfl⟩, ⟨Nat.le_of_ble_eq_true rfl, Nat.le_of_ble_eq_true rfl⟩, Nat.le_of_ble_eq_true rfl⟩) dX10_rule_34 rfl (fun v_34 S_34 hp_34 => ?_)
          obtain ⟨rfl, rfl⟩ := hp_34
          refine j_if_ne (tgt := 42) (q := 40) hO dX10_rule_37 rfl (by decide) (fun c37 => ?_) (fun c37 => ?_)
          · refine j_aload_n (q := 43) hO dX10_rule_42 rfl rfl ?_
            refine m_getA (j := 5) (x := 23) (q := 46) hO hm dX10_rule_43 rfl mw_503 (by decide) rfl rfl ?_
            refine j_iload_n (q := 47) hO dX10_rule_46 rfl rfl ?_
            refine j_iconst (v := 1) (q := 48) hO dX10_rule_47 rfl (by decide) ?_
            refine m_zast (x := 23) (a := 4) (q := 49) hO hm MK_23 dX10_rule_48 rfl rfl (by decide) (j := b) rfl (by omega) ?_
            refine j_aload_n (q := 50) hO dX10_rule_49 rfl rfl ?_
            refine m_getA (j := 6) (x := 24) (q := 53) hO hm dX10_rule_50 rfl mw_504 (by decide) rfl rfl ?_
            refine j_iload_n (q := 54) hO dX10_rule_53 rfl rfl ?_
            refine j_dload_n (q := 55) hO dX10_rule_54 rfl rfl ?_
            refine m_dast (x := 24) (a := 5) (q := 56) hO hm MK_24 dX10_rule_55 rfl rfl (j := b) rfl (by omega) ?_
            refine j_aload_n (q := 57) hO dX10_rule_56 rfl rfl ?_
            refine m_getA (j := 7) (x := 25) (q := 60) hO hm dX10_rule_57 rfl mw_505 (by decide) rfl rfl ?_
            refine j_iload_n (q := 61) hO dX10_rule_60 rfl rfl ?_
            refine j_iload (q := 63) hO dX10_rule_61 rfl rfl ?_
            refine m_iast (x := 25) (a := 6) (q := 64) hO hm MK_25 dX10_rule_63 rfl rfl (j := b) rfl (by omega) ?_
            refine j_iconst (v := 1) (q := 65) hO dX10_rule_64 rfl (by decide) ?_
            exact j_zret hM dX10_rule_65 (Nat.le_of_ble_eq_true rfl) (Nat.le_of_ble_eq_true rfl) (by decide) ⟨by unfold boA kRule; rw [decide_eq_true ⟨c5, c16, c22, c30, op1 c37⟩]; rfl, by unfold ruleF kRule; rw [decide_eq_true ⟨c5, c16, c22, c30, op1 c37⟩, enb]; rfl⟩
          · refine j_iconst (v := 0) (q := 41) hO dX10_rule_40 rfl (by decide) ?_
            exact j_zret hM dX10_rule_41 (Nat.le_of_ble_eq_true rfl) (Nat.le_of_ble_eq_true rfl) (by decide) ⟨by unfold boA kRule; rw [decide_eq_false (fun z => op0 c37 z.2.2.2.2)]; rfl, by unfold ruleF kRule; rw [decide_eq_false (fun z => op0 c37 z.2.2.2.2)]; rfl⟩
set_option maxHeartbeats 4000000 in
set_option maxRecDepth 100000 in
theorem c_10_picker (l : Launch) (S : St) (α : Al) (nb nx : Nat) (b0 : Int32) (u v : UInt64) (hm : MSh S) (hnb : aI α 0 1 = nI nb) (hb6 : nb ≤ 6) (hnx : aI α 0 20 = nI nx) (hn4 : nx ≤ 4) : Ct l yX10_picker cX10_picker 6 (some .int) (rm 1 0 0 25) [.ref (sA S 10 0), .int b0, .double u, .double v] (wr S α) (fun r S' => r = some (.int (picA α b0 u v)) ∧ S' = wr S (picF α b0 u v)) := by
  refine Ct.of (by decide) (Nat.le_of_ble_eq_true rfl) (fun X hM => ?_)
  have hO := hM.1
  obtain rfl := hM.l
  show Jg X 0 0 (wr S α) 0 [(0, .ref (sA S 10 0)), (1, .int b0), (2, .double u), (4, .double v)] []
  refine j_aload_n (q := 1) hO dX10_picker_0 rfl rfl ?_
  refine m_getI (j := 20) (q := 4) hO hm dX10_picker_1 rfl mw_518 (by decide) rfl ?_
  refine j_iconst (v := 4) (q := 5) hO dX10_picker_4 rfl (by decide) ?_
  refine j_icmp_eq (tgt := 48) (q := 8) hO dX10_picker_5 rfl (by decide) (fun c5 => ?_) (fun c5 => ?_)
  · refine j_iconst (v := (-1)) (q := 49) hO dX10_picker_48 rfl (by decide) ?_
    exact j_iret hM dX10_picker_49 (Nat.le_of_ble_eq_true rfl) (Nat.le_of_ble_eq_true rfl) ⟨by unfold picA kPick; rw [decide_eq_false (fun z => z.1 c5)]; rfl, by unfold picF kPick; rw [decide_eq_false (fun z => z.1 c5)]; rfl⟩
  · refine j_aload_n (q := 9) hO dX10_picker_8 rfl rfl ?_
    refine j_iload_n (q := 10) hO dX10_picker_9 rfl rfl ?_
    refine j_callV (x := 10) (q := 13) hO (c_10_isBelt (lx X) _ _ hm.1) M_10_isBelt mw_653 CK_10 rfl hm.1 rfl rfl rfl (by unfold roomy; rw [hM.R]; exact ⟨⟨Nat.le_of_ble_eq_true rfl, Nat.le_of_ble_eq_true rfl⟩, ⟨Nat.le_of_ble_eq_true rfl, Nat.le_of_ble_eq_true rfl⟩, Nat.le_of_ble_eq_true rfl⟩) dX10_picker_10 rfl (fun v_10 S_10 hp_10 => ?_)
    obtain ⟨rfl, rfl⟩ := hp_10
    refine j_if_eq (tgt := 48) (q := 16) hO dX10_picker_13 rfl (by decide) (fun c13 => ?_) (fun c13 => ?_)
    · refine j_iconst (v := (-1)) (q := 49) hO dX10_picker_48 rfl (by decide) ?_
      exact j_iret hM dX10_picker_49 (Nat.le_of_ble_eq_true rfl) (Nat.le_of_ble_eq_true rfl) ⟨by unfold picA kPick; rw [decide_eq_false (fun z => z.2.1 c13)]; rfl, by unfold picF kPick; rw [decide_eq_false (fun z => z.2.1 c13)]; rfl⟩
    · obtain ⟨b, hbn, rfl⟩ := iB_in hnb hb6 c13
      have enb : nn (nI b) = b := nn_nI (by omega)
      refine j_dload_n (q := 17) hO dX10_picker_16 rfl rfl ?_
      refine j_ldc2d (q := 20) hO dX10_picker_17 rfl mw_674 ?_
      refine j_ldc2d (q := 23) hO dX10_picker_20 rfl mw_675 ?_
      refine j_callS (q := 26) hO (c_10_isIn (lx X) _ _ _ _) M_10_isIn mw_642 rfl rfl (by unfold roomy; rw [hM.R]; exact ⟨⟨Nat.le_of_ble_eq_true rfl, Nat.le_of_ble_eq_true rfl⟩, ⟨Nat.le_of_ble_eq_true rfl, Nat.le_of_ble_eq_true rfl⟩, Nat.le_of_ble_eq_true rfl⟩) dX10_picker_23 rfl (fun v_23 S_23 hp_23 => ?_)
      obtain ⟨rfl, rfl⟩ := hp_23
      refine j_if_eq (tgt := 48) (q := 29) hO dX10_picker_26 rfl (by decide) (fun c26 => ?_) (fun c26 => ?_)
      · refine j_iconst (v := (-1)) (q := 49) hO dX10_picker_48 rfl (by decide) ?_
        exact j_iret hM dX10_picker_49 (Nat.le_of_ble_eq_true rfl) (Nat.le_of_ble_eq_true rfl) ⟨by unfold picA kPick; rw [decide_eq_false (fun z => z.2.2.1 c26)]; rfl, by unfold picF kPick; rw [decide_eq_false (fun z => z.2.2.1 c26)]; rfl⟩
      · refine j_dload (q := 31) hO dX10_picker_29 rfl rfl ?_
        refine j_dconst0 (q := 32) hO dX10_picker_31 rfl ?_
        refine j_ldc2d (q := 35) hO dX10_picker_32 rfl mw_676 ?_
        refine j_callS (q := 38) hO (c_10_isIn (lx X) _ _ _ _) M_10_isIn mw_642 rfl rfl (by unfold roomy; rw [hM.R]; exact ⟨⟨Nat.le_of_ble_eq_true rfl, Nat.le_of_ble_eq_true rfl⟩, ⟨Nat.le_of_ble_eq_true rfl, Nat.le_of_ble_eq_true rfl⟩, Nat.le_of_ble_eq_true rfl⟩) dX10_picker_35 rfl (fun v_35 S_35 hp_35 => ?_)
        obtain ⟨rfl, rfl⟩ := hp_35
        refine j_if_eq (tgt := 48) (q := 41) hO dX10_picker_38 rfl (by decide) (fun c38 => ?_) (fun c38 => ?_)
        · refine j_iconst (v := (-1)) (q := 49) hO dX10_picker_48 rfl (by decide) ?_
          exact j_iret hM dX10_picker_49 (Nat.le_of_ble_eq_true rfl) (Nat.le_of_ble_eq_true rfl) ⟨by unfold picA kPick; rw [decide_eq_false (fun z => z.2.2.2.1 c38)]; rfl, by unfold picF kPick; rw [decide_eq_false (fun z => z.2.2.2.1 c38)]; rfl⟩
        · refine j_aload_n (q := 42) hO dX10_picker_41 rfl rfl ?_
          refine j_callV (x := 10) (q := 45) hO (c_10_isOpen (lx X) _ hm.1) M_10_isOpen mw_645 CK_10 rfl hm.1 rfl rfl rfl (by unfold roomy; rw [hM.R]; exact ⟨⟨Nat.le_of_ble_eq_true rfl, Nat.le_of_ble_eq_true rfl⟩, ⟨Nat.le_of_ble_eq_true rfl, Nat.le_of_ble_eq_true rfl⟩, Nat.le_of_ble_eq_true rfl⟩) dX10_picker_42 rfl (fun v_42 S_42 hp_42 => ?_)
          obtain ⟨rfl, rfl⟩ := hp_42
          refine j_if_ne (tgt := 50) (q := 48) hO dX10_picker_45 rfl (by decide) (fun c45 => ?_) (fun c45 => ?_)
          · have hlt : nx < 4 := by rcases Nat.lt_or_ge nx 4 with q | q; exact q; exact absurd (by rw [hnx, show nx = 4 by omega]; rfl) c5
            refine j_aload_n (q := 51) hO dX10_picker_50 rfl rfl ?_
            refine m_getA (j := 21) (x := 35) (q := 54) hO hm dX10_picker_51 rfl mw_519 (by decide) rfl rfl ?_
            refine j_aload_n (q := 55) hO dX10_picker_54 rfl rfl ?_
            refine m_getI (j := 20) (q := 58) hO hm dX10_picker_55 rfl mw_518 (by decide) rfl ?_
            refine j_iload_n (q := 59) hO dX10_picker_58 rfl rfl ?_
            refine m_iast (x := 35) (a := 16) (q := 60) hO hm MK_35 dX10_picker_59 rfl rfl (j := nx) hnx (by omega) ?_
            refine j_aload_n (q := 61) hO dX10_picker_60 rfl rfl ?_
            refine m_getA (j := 22) (x := 36) (q := 64) hO hm dX10_picker_61 rfl mw_520 (by decide) rfl rfl ?_
            refine j_aload_n (q := 65) hO dX10_picker_64 rfl rfl ?_
            refine m_getI (j := 20) (q := 68) hO hm dX10_picker_65 rfl mw_518 (by decide) rfl ?_
            refine j_dload_n (q := 69) hO dX10_picker_68 rfl rfl ?_
            refine m_dast (x := 36) (a := 17) (q := 70) hO hm MK_36 dX10_picker_69 rfl rfl (j := nx) hnx (by omega) ?_
            refine j_aload_n (q := 71) hO dX10_picker_70 rfl rfl ?_
            refine m_getA (j := 23) (x := 37) (q := 74) hO hm dX10_picker_71 rfl mw_521 (by decide) rfl rfl ?_
            refine j_aload_n (q := 75) hO dX10_picker_74 rfl rfl ?_
            refine m_getI (j := 20) (q := 78) hO hm dX10_picker_75 rfl mw_518 (by decide) rfl ?_
            refine j_dload (q := 80) hO dX10_picker_78 rfl rfl ?_
            refine m_dast (x := 37) (a := 18) (q := 81) hO hm MK_37 dX10_picker_80 rfl rfl (j := nx) hnx (by omega) ?_
            refine j_aload_n (q := 82) hO dX10_picker_81 rfl rfl ?_
            refine j_dup (q := 83) hO dX10_picker_82 rfl rfl ?_
            refine m_getI (j := 20) (q := 86) hO hm dX10_picker_83 rfl mw_518 (by decide) rfl ?_
            refine j_iconst (v := 1) (q := 87) hO dX10_picker_86 rfl (by decide) ?_
            refine j_iadd (q := 88) hO dX10_picker_87 rfl ?_
            refine m_putI (j := 20) (q := 91) hO hm dX10_picker_88 rfl mw_518 (by decide) rfl rfl (by decide +kernel) ?_
            refine j_aload_n (q := 92) hO dX10_picker_91 rfl rfl ?_
            refine m_getI (j := 20) (q := 95) hO hm dX10_picker_92 rfl mw_518 (by decide) rfl ?_
            refine j_iconst (v := 1) (q := 96) hO dX10_picker_95 rfl (by decide) ?_
            refine j_isub (q := 97) hO dX10_picker_96 rfl ?_
            exact j_iret hM dX10_picker_97 (Nat.le_of_ble_eq_true rfl) (Nat.le_of_ble_eq_true rfl) ⟨by unfold picA kPick; rw [decide_eq_true ⟨c5, c13, c26, c38, op1 c45⟩]; show some (Value.int (aI α 0 20 + 1 - 1)) = some (Value.int (aI α 0 20)); rw [hnx, nI_m1], by unfold picF kPick; rw [decide_eq_true ⟨c5, c13, c26, c38, op1 c45⟩, show nn (aI α 0 20) = nx from by rw [hnx]; exact nn_nI (by omega)]; rfl⟩
          · refine j_iconst (v := (-1)) (q := 49) hO dX10_picker_48 rfl (by decide) ?_
            exact j_iret hM dX10_picker_49 (Nat.le_of_ble_eq_true rfl) (Nat.le_of_ble_eq_true rfl) ⟨by unfold picA kPick; rw [decide_eq_false (fun z => op0 c45 z.2.2.2.2)]; rfl, by unfold picF kPick; rw [decide_eq_false (fun z => op0 c45 z.2.2.2.2)]; rfl⟩
set_option maxHeartbeats 4000000 in
set_option maxRecDepth 100000 in
theorem c_10_robot (l : Launch) (S : St) (α : Al) (nb nx : Nat) (b0 : Int32) (u v : UInt64) (hm : MSh S) (hnb : aI α 0 1 = nI nb) (hb6 : nb ≤ 6) (hnx : aI α 0 16 = nI nx) (hn4 : nx ≤ 4) : Ct l yX10_robot cX10_robot 6 (some .int) (rm 1 0 0 25) [.ref (sA S 10 0), .int b0, .double u, .double v] (wr S α) (fun r S' => r = some (.int (robotA α b0 u v)) ∧ S' = wr S (robotF α b0 u v)) := by
  refine Ct.of (by decide) (Nat.le_of_ble_eq_true rfl) (fun X hM => ?_)
  have hO := hM.1
  obtain rfl := hM.l
  show Jg X 0 0 (wr S α) 0 [(0, .ref (sA S 10 0)), (1, .int b0), (2, .double u), (4, .double v)] []
  refine j_aload_n (q := 1) hO dX10_robot_0 rfl rfl ?_
  refine m_getI (j := 16) (q := 4) hO hm dX10_robot_1 rfl mw_514 (by decide) rfl ?_
  refine j_iconst (v := 4) (q := 5) hO dX10_robot_4 rfl (by decide) ?_
  refine j_icmp_eq (tgt := 44) (q := 8) hO dX10_robot_5 rfl (by decide) (fun c5 => ?_) (fun c5 => ?_)
  · refine j_iconst (v := (-1)) (q := 45) hO dX10_robot_44 rfl (by decide) ?_
    exact j_iret hM dX10_robot_45 (Nat.le_of_ble_eq_true rfl) (Nat.le_of_ble_eq_true rfl) ⟨by unfold robotA kRob; rw [decide_eq_false (fun z => z.1 c5)]; rfl, by unfold robotF kRob; rw [decide_eq_false (fun z => z.1 c5)]; rfl⟩
  · refine j_aload_n (q := 9) hO dX10_robot_8 rfl rfl ?_
    refine j_iload_n (q := 10) hO dX10_robot_9 rfl rfl ?_
    refine j_callV (x := 10) (q := 13) hO (c_10_isBelt (lx X) _ _ hm.1) M_10_isBelt mw_653 CK_10 rfl hm.1 rfl rfl rfl (by unfold roomy; rw [hM.R]; exact ⟨⟨Nat.le_of_ble_eq_true rfl, Nat.le_of_ble_eq_true rfl⟩, ⟨Nat.le_of_ble_eq_true rfl, Nat.le_of_ble_eq_true rfl⟩, Nat.le_of_ble_eq_true rfl⟩) dX10_robot_10 rfl (fun v_10 S_10 hp_10 => ?_)
    obtain ⟨rfl, rfl⟩ := hp_10
    refine j_if_eq (tgt := 44) (q := 16) hO dX10_robot_13 rfl (by decide) (fun c13 => ?_) (fun c13 => ?_)
    · refine j_iconst (v := (-1)) (q := 45) hO dX10_robot_44 rfl (by decide) ?_
      exact j_iret hM dX10_robot_45 (Nat.le_of_ble_eq_true rfl) (Nat.le_of_ble_eq_true rfl) ⟨by unfold robotA kRob; rw [decide_eq_false (fun z => z.2.1 c13)]; rfl, by unfold robotF kRob; rw [decide_eq_false (fun z => z.2.1 c13)]; rfl⟩
    · obtain ⟨b, hbn, rfl⟩ := iB_in hnb hb6 c13
      have enb : nn (nI b) = b := nn_nI (by omega)
      refine j_dload_n (q := 17) hO dX10_robot_16 rfl rfl ?_
      refine j_dconst0 (q := 18) hO dX10_robot_17 rfl ?_
      refine j_ldc2d (q := 21) hO dX10_robot_18 rfl mw_676 ?_
      refine j_callS (q := 24) hO (c_10_isIn (lx X) _ _ _ _) M_10_isIn mw_642 rfl rfl (by unfold roomy; rw [hM.R]; exact ⟨⟨Nat.le_of_ble_eq_true rfl, Nat.le_of_ble_eq_true rfl⟩, ⟨Nat.le_of_ble_eq_true rfl, Nat.le_of_ble_eq_true rfl⟩, Nat.le_of_ble_eq_true rfl⟩) dX10_robot_21 rfl (fun v_21 S_21 hp_21 => ?_)
      obtain ⟨rfl, rfl⟩ := hp_21
      refine j_if_eq (tgt := 44) (q := 27) hO dX10_robot_24 rfl (by decide) (fun c24 => ?_) (fun c24 => ?_)
      · refine j_iconst (v := (-1)) (q := 45) hO dX10_robot_44 rfl (by decide) ?_
        exact j_iret hM dX10_robot_45 (Nat.le_of_ble_eq_true rfl) (Nat.le_of_ble_eq_true rfl) ⟨by unfold robotA kRob; rw [decide_eq_false (fun z => z.2.2.1 c24)]; rfl, by unfold robotF kRob; rw [decide_eq_false (fun z => z.2.2.1 c24)]; rfl⟩
      · refine j_dload (q := 29) hO dX10_robot_27 rfl rfl ?_
        refine j_dconst0 (q := 30) hO dX10_robot_29 rfl ?_
        refine j_dconst1 (q := 31) hO dX10_robot_30 rfl ?_
        refine j_callS (q := 34) hO (c_10_isIn (lx X) _ _ _ _) M_10_isIn mw_642 rfl rfl (by unfold roomy; rw [hM.R]; exact ⟨⟨Nat.le_of_ble_eq_true rfl, Nat.le_of_ble_eq_true rfl⟩, ⟨Nat.le_of_ble_eq_true rfl, Nat.le_of_ble_eq_true rfl⟩, Nat.le_of_ble_eq_true rfl⟩) dX10_robot_31 rfl (fun v_31 S_31 hp_31 => ?_)
        obtain ⟨rfl, rfl⟩ := hp_31
        refine j_if_eq (tgt := 44) (q := 37) hO dX10_robot_34 rfl (by decide) (fun c34 => ?_) (fun c34 => ?_)
        · refine j_iconst (v := (-1)) (q := 45) hO dX10_robot_44 rfl (by decide) ?_
          exact j_iret hM dX10_robot_45 (Nat.le_of_ble_eq_true rfl) (Nat.le_of_ble_eq_true rfl) ⟨by unfold robotA kRob; rw [decide_eq_false (fun z => z.2.2.2.1 c34)]; rfl, by unfold robotF kRob; rw [decide_eq_false (fun z => z.2.2.2.1 c34)]; rfl⟩
        · refine j_aload_n (q := 38) hO dX10_robot_37 rfl rfl ?_
          refine j_callV (x := 10) (q := 41) hO (c_10_isOpen (lx X) _ hm.1) M_10_isOpen mw_645 CK_10 rfl hm.1 rfl rfl rfl (by unfold roomy; rw [hM.R]; exact ⟨⟨Nat.le_of_ble_eq_true rfl, Nat.le_of_ble_eq_true rfl⟩, ⟨Nat.le_of_ble_eq_true rfl, Nat.le_of_ble_eq_true rfl⟩, Nat.le_of_ble_eq_true rfl⟩) dX10_robot_38 rfl (fun v_38 S_38 hp_38 => ?_)
          obtain ⟨rfl, rfl⟩ := hp_38
          refine j_if_ne (tgt := 46) (q := 44) hO dX10_robot_41 rfl (by decide) (fun c41 => ?_) (fun c41 => ?_)
          · have hlt : nx < 4 := by rcases Nat.lt_or_ge nx 4 with q | q; exact q; exact absurd (by rw [hnx, show nx = 4 by omega]; rfl) c5
            refine j_aload_n (q := 47) hO dX10_robot_46 rfl rfl ?_
            refine m_getA (j := 17) (x := 32) (q := 50) hO hm dX10_robot_47 rfl mw_515 (by decide) rfl rfl ?_
            refine j_aload_n (q := 51) hO dX10_robot_50 rfl rfl ?_
            refine m_getI (j := 16) (q := 54) hO hm dX10_robot_51 rfl mw_514 (by decide) rfl ?_
            refine j_iload_n (q := 55) hO dX10_robot_54 rfl rfl ?_
            refine m_iast (x := 32) (a := 13) (q := 56) hO hm MK_32 dX10_robot_55 rfl rfl (j := nx) hnx (by omega) ?_
            refine j_aload_n (q := 57) hO dX10_robot_56 rfl rfl ?_
            refine m_getA (j := 18) (x := 33) (q := 60) hO hm dX10_robot_57 rfl mw_516 (by decide) rfl rfl ?_
            refine j_aload_n (q := 61) hO dX10_robot_60 rfl rfl ?_
            refine m_getI (j := 16) (q := 64) hO hm dX10_robot_61 rfl mw_514 (by decide) rfl ?_
            refine j_dload_n (q := 65) hO dX10_robot_64 rfl rfl ?_
            refine m_dast (x := 33) (a := 14) (q := 66) hO hm MK_33 dX10_robot_65 rfl rfl (j := nx) hnx (by omega) ?_
            refine j_aload_n (q := 67) hO dX10_robot_66 rfl rfl ?_
            refine m_getA (j := 19) (x := 34) (q := 70) hO hm dX10_robot_67 rfl mw_517 (by decide) rfl rfl ?_
            refine j_aload_n (q := 71) hO dX10_robot_70 rfl rfl ?_
            refine m_getI (j := 16) (q := 74) hO hm dX10_robot_71 rfl mw_514 (by decide) rfl ?_
            refine j_dload (q := 76) hO dX10_robot_74 rfl rfl ?_
            refine m_dast (x := 34) (a := 15) (q := 77) hO hm MK_34 dX10_robot_76 rfl rfl (j := nx) hnx (by omega) ?_
            refine j_aload_n (q := 78) hO dX10_robot_77 rfl rfl ?_
            refine j_dup (q := 79) hO dX10_robot_78 rfl rfl ?_
            refine m_getI (j := 16) (q := 82) hO hm dX10_robot_79 rfl mw_514 (by decide) rfl ?_
            refine j_iconst (v := 1) (q := 83) hO dX10_robot_82 rfl (by decide) ?_
            refine j_iadd (q := 84) hO dX10_robot_83 rfl ?_
            refine m_putI (j := 16) (q := 87) hO hm dX10_robot_84 rfl mw_514 (by decide) rfl rfl (by decide +kernel) ?_
            refine j_aload_n (q := 88) hO dX10_robot_87 rfl rfl ?_
            refine m_getI (j := 16) (q := 91) hO hm dX10_robot_88 rfl mw_514 (by decide) rfl ?_
            refine j_iconst (v := 1) (q := 92) hO dX10_robot_91 rfl (by decide) ?_
            refine j_isub (q := 93) hO dX10_robot_92 rfl ?_
            exact j_iret hM dX10_robot_93 (Nat.le_of_ble_eq_true rfl) (Nat.le_of_ble_eq_true rfl) ⟨by unfold robotA kRob; rw [decide_eq_true ⟨c5, c13, c24, c34, op1 c41⟩]; show some (Value.int (aI α 0 16 + 1 - 1)) = some (Value.int (aI α 0 16)); rw [hnx, nI_m1], by unfold robotF kRob; rw [decide_eq_true ⟨c5, c13, c24, c34, op1 c41⟩, show nn (aI α 0 16) = nx from by rw [hnx]; exact nn_nI (by omega)]; rfl⟩
          · refine j_iconst (v := (-1)) (q := 45) hO dX10_robot_44 rfl (by decide) ?_
            exact j_iret hM dX10_robot_45 (Nat.le_of_ble_eq_true rfl) (Nat.le_of_ble_eq_true rfl) ⟨by unfold robotA kRob; rw [decide_eq_false (fun z => op0 c41 z.2.2.2.2)]; rfl, by unfold robotF kRob; rw [decide_eq_false (fun z => op0 c41 z.2.2.2.2)]; rfl⟩
set_option maxHeartbeats 4000000 in
set_option maxRecDepth 100000 in
theorem c_10_feed (l : Launch) (S : St) (α : Al) (np : Nat) (b0 t kd : Int32) (size : UInt64) (hm : MSh S) (hnp : aI α 0 26 = nI np) (hn60 : np ≤ 60) : Ct l yX10_feed cX10_feed 6 (some .boolean) (rm 1 0 0 25) [.ref (sA S 10 0), .int b0, .int t, .int kd, .double size] (wr S α) (fun r S' => r = some (.int (boA (kFeed α b0 t kd size))) ∧ S' = wr S (feedF α b0 t kd size)) := by
  refine Ct.of (by decide) (Nat.le_of_ble_eq_true rfl) (fun X hM => ?_)
  have hO := hM.1
  obtain rfl := hM.l
  show Jg X 0 0 (wr S α) 0 [(0, .ref (sA S 10 0)), (1, .int b0), (2, .int t), (3, .int kd), (4, .double size)] []
  refine j_aload_n (q := 1) hO dX10_feed_0 rfl rfl ?_
  refine m_getI (j := 26) (q := 4) hO hm dX10_feed_1 rfl mw_524 (by decide) rfl ?_
  refine j_bipush (v := 60) (q := 6) hO dX10_feed_4 rfl (by decide) ?_
  refine j_icmp_eq (tgt := 53) (q := 9) hO dX10_feed_6 rfl (by decide) (fun c6 => ?_) (fun c6 => ?_)
  · refine j_iconst (v := 0) (q := 54) hO dX10_feed_53 rfl (by decide) ?_
    exact j_zret hM dX10_feed_54 (Nat.le_of_ble_eq_true rfl) (Nat.le_of_ble_eq_true rfl) (by decide) ⟨by unfold boA kFeed; rw [decide_eq_false (fun z => z.1 c6)]; rfl, by unfold feedF kFeed; rw [decide_eq_false (fun z => z.1 c6)]; rfl⟩
  · refine j_aload_n (q := 10) hO dX10_feed_9 rfl rfl ?_
    refine j_iload_n (q := 11) hO dX10_feed_10 rfl rfl ?_
    refine j_callV (x := 10) (q := 14) hO (c_10_isBelt (lx X) _ _ hm.1) M_10_isBelt mw_653 CK_10 rfl hm.1 rfl rfl rfl (by unfold roomy; rw [hM.R]; exact ⟨⟨Nat.le_of_ble_eq_true rfl, Nat.le_of_ble_eq_true rfl⟩, ⟨Nat.le_of_ble_eq_true rfl, Nat.le_of_ble_eq_true rfl⟩, Nat.le_of_ble_eq_true rfl⟩) dX10_feed_11 rfl (fun v_11 S_11 hp_11 => ?_)
    obtain ⟨rfl, rfl⟩ := hp_11
    refine j_if_eq (tgt := 53) (q := 17) hO dX10_feed_14 rfl (by decide) (fun c14 => ?_) (fun c14 => ?_)
    · refine j_iconst (v := 0) (q := 54) hO dX10_feed_53 rfl (by decide) ?_
      exact j_zret hM dX10_feed_54 (Nat.le_of_ble_eq_true rfl) (Nat.le_of_ble_eq_true rfl) (by decide) ⟨by unfold boA kFeed; rw [decide_eq_false (fun z => z.2.1 c14)]; rfl, by unfold feedF kFeed; rw [decide_eq_false (fun z => z.2.1 c14)]; rfl⟩
    · refine j_iload_n (q := 18) hO dX10_feed_17 rfl rfl ?_
      refine j_aload_n (q := 19) hO dX10_feed_18 rfl rfl ?_
      refine m_getI (j := 35) (q := 22) hO hm dX10_feed_19 rfl mw_533 (by decide) rfl ?_
      refine j_icmp_le (tgt := 53) (q := 25) hO dX10_feed_22 rfl (by decide) (fun c22 => ?_) (fun c22 => ?_)
      · refine j_iconst (v := 0) (q := 54) hO dX10_feed_53 rfl (by decide) ?_
        exact j_zret hM dX10_feed_54 (Nat.le_of_ble_eq_true rfl) (Nat.le_of_ble_eq_true rfl) (by decide) ⟨by unfold boA kFeed; rw [decide_eq_false (fun z => z.2.2.1 c22)]; rfl, by unfold feedF kFeed; rw [decide_eq_false (fun z => z.2.2.1 c22)]; rfl⟩
      · refine j_iload_n (q := 26) hO dX10_feed_25 rfl rfl ?_
        refine j_sipush (v := 10000) (q := 29) hO dX10_feed_26 rfl (by decide) ?_
        refine j_icmp_gt (tgt := 53) (q := 32) hO dX10_feed_29 rfl (by decide) (fun c29 => ?_) (fun c29 => ?_)
        · refine j_iconst (v := 0) (q := 54) hO dX10_feed_53 rfl (by decide) ?_
          exact j_zret hM dX10_feed_54 (Nat.le_of_ble_eq_true rfl) (Nat.le_of_ble_eq_true rfl) (by decide) ⟨by unfold boA kFeed; rw [decide_eq_false (fun z => z.2.2.2.1 c29)]; rfl, by unfold feedF kFeed; rw [decide_eq_false (fun z => z.2.2.2.1 c29)]; rfl⟩
        · refine j_iload_n (q := 33) hO dX10_feed_32 rfl rfl ?_
          refine j_if_lt (tgt := 53) (q := 36) hO dX10_feed_33 rfl (by decide) (fun c33 => ?_) (fun c33 => ?_)
          · refine j_iconst (v := 0) (q := 54) hO dX10_feed_53 rfl (by decide) ?_
            exact j_zret hM dX10_feed_54 (Nat.le_of_ble_eq_true rfl) (Nat.le_of_ble_eq_true rfl) (by decide) ⟨by unfold boA kFeed; rw [decide_eq_false (fun z => z.2.2.2.2.1 c33)]; rfl, by unfold feedF kFeed; rw [decide_eq_false (fun z => z.2.2.2.2.1 c33)]; rfl⟩
          · refine j_iload_n (q := 37) hO dX10_feed_36 rfl rfl ?_
            refine j_iconst (v := 5) (q := 38) hO dX10_feed_37 rfl (by decide) ?_
            refine j_icmp_ge (tgt := 53) (q := 41) hO dX10_feed_38 rfl (by decide) (fun c38 => ?_) (fun c38 => ?_)
            · refine j_iconst (v := 0) (q := 54) hO dX10_feed_53 rfl (by decide) ?_
              exact j_zret hM dX10_feed_54 (Nat.le_of_ble_eq_true rfl) (Nat.le_of_ble_eq_true rfl) (by decide) ⟨by unfold boA kFeed; rw [decide_eq_false (fun z => z.2.2.2.2.2.1 c38)]; rfl, by unfold feedF kFeed; rw [decide_eq_false (fun z => z.2.2.2.2.2.1 c38)]; rfl⟩
            · refine j_dload (q := 43) hO dX10_feed_41 rfl rfl ?_
              refine j_dconst0 (q := 44) hO dX10_feed_43 rfl ?_
              refine j_ldc2d (q := 47) hO dX10_feed_44 rfl mw_676 ?_
              refine j_callS (q := 50) hO (c_10_isIn (lx X) _ _ _ _) M_10_isIn mw_642 rfl rfl (by unfold roomy; rw [hM.R]; exact ⟨⟨Nat.le_of_ble_eq_true rfl, Nat.le_of_ble_eq_true rfl⟩, ⟨Nat.le_of_ble_eq_true rfl, Nat.le_of_ble_eq_true rfl⟩, Nat.le_of_ble_eq_true rfl⟩) dX10_feed_47 rfl (fun v_47 S_47 hp_47 => ?_)
              obtain ⟨rfl, rfl⟩ := hp_47
              refine j_if_ne (tgt := 55) (q := 53) hO dX10_feed_50 rfl (by decide) (fun c50 => ?_) (fun c50 => ?_)
              · have hlt : np < 60 := by rcases Nat.lt_or_ge np 60 with q | q; exact q; exact absurd (by rw [hnp, show np = 60 by omega]; rfl) c6
                refine j_aload_n (q := 56) hO dX10_feed_55 rfl rfl ?_
                refine m_getA (j := 27) (x := 40) (q := 59) hO hm dX10_feed_56 rfl mw_525 (by decide) rfl rfl ?_
                refine j_aload_n (q := 60) hO dX10_feed_59 rfl rfl ?_
                refine m_getI (j := 26) (q := 63) hO hm dX10_feed_60 rfl mw_524 (by decide) rfl ?_
                refine j_iload_n (q := 64) hO dX10_feed_63 rfl rfl ?_
                refine m_iast (x := 40) (a := 21) (q := 65) hO hm MK_40 dX10_feed_64 rfl rfl (j := np) hnp (by omega) ?_
                refine j_aload_n (q := 66) hO dX10_feed_65 rfl rfl ?_
                refine m_getA (j := 28) (x := 41) (q := 69) hO hm dX10_feed_66 rfl mw_526 (by decide) rfl rfl ?_
                refine j_aload_n (q := 70) hO dX10_feed_69 rfl rfl ?_
                refine m_getI (j := 26) (q := 73) hO hm dX10_feed_70 rfl mw_524 (by decide) rfl ?_
                refine j_dload (q := 75) hO dX10_feed_73 rfl rfl ?_
                refine m_dast (x := 41) (a := 22) (q := 76) hO hm MK_41 dX10_feed_75 rfl rfl (j := np) hnp (by omega) ?_
                refine j_aload_n (q := 77) hO dX10_feed_76 rfl rfl ?_
                refine m_getA (j := 29) (x := 42) (q := 80) hO hm dX10_feed_77 rfl mw_527 (by decide) rfl rfl ?_
                refine j_aload_n (q := 81) hO dX10_feed_80 rfl rfl ?_
                refine m_getI (j := 26) (q := 84) hO hm dX10_feed_81 rfl mw_524 (by decide) rfl ?_
                refine j_iload_n (q := 85) hO dX10_feed_84 rfl rfl ?_
                refine m_iast (x := 42) (a := 23) (q := 86) hO hm MK_42 dX10_feed_85 rfl rfl (j := np) hnp (by omega) ?_
                refine j_aload_n (q := 87) hO dX10_feed_86 rfl rfl ?_
                refine m_getA (j := 30) (x := 43) (q := 90) hO hm dX10_feed_87 rfl mw_528 (by decide) rfl rfl ?_
                refine j_aload_n (q := 91) hO dX10_feed_90 rfl rfl ?_
                refine m_getI (j := 26) (q := 94) hO hm dX10_feed_91 rfl mw_524 (by decide) rfl ?_
                refine j_iload_n (q := 95) hO dX10_feed_94 rfl rfl ?_
                refine m_iast (x := 43) (a := 24) (q := 96) hO hm MK_43 dX10_feed_95 rfl rfl (j := np) hnp (by omega) ?_
                refine j_aload_n (q := 97) hO dX10_feed_96 rfl rfl ?_
                refine m_getA (j := 31) (x := 44) (q := 100) hO hm dX10_feed_97 rfl mw_529 (by decide) rfl rfl ?_
                refine j_aload_n (q := 101) hO dX10_feed_100 rfl rfl ?_
                refine m_getI (j := 26) (q := 104) hO hm dX10_feed_101 rfl mw_524 (by decide) rfl ?_
                refine j_iconst (v := 0) (q := 105) hO dX10_feed_104 rfl (by decide) ?_
                refine m_iast (x := 44) (a := 25) (q := 106) hO hm MK_44 dX10_feed_105 rfl rfl (j := np) hnp (by omega) ?_
                refine j_aload_n (q := 107) hO dX10_feed_106 rfl rfl ?_
                refine j_dup (q := 108) hO dX10_feed_107 rfl rfl ?_
                refine m_getI (j := 26) (q := 111) hO hm dX10_feed_108 rfl mw_524 (by decide) rfl ?_
                refine j_iconst (v := 1) (q := 112) hO dX10_feed_111 rfl (by decide) ?_
                refine j_iadd (q := 113) hO dX10_feed_112 rfl ?_
                refine m_putI (j := 26) (q := 116) hO hm dX10_feed_113 rfl mw_524 (by decide) rfl rfl (by decide +kernel) ?_
                refine j_iconst (v := 1) (q := 117) hO dX10_feed_116 rfl (by decide) ?_
                exact j_zret hM dX10_feed_117 (Nat.le_of_ble_eq_true rfl) (Nat.le_of_ble_eq_true rfl) (by decide) ⟨by unfold boA kFeed; rw [decide_eq_true ⟨c6, c14, c22, c29, c33, c38, c50⟩]; rfl, by unfold feedF kFeed; rw [decide_eq_true ⟨c6, c14, c22, c29, c33, c38, c50⟩, show nn (aI α 0 26) = np from by rw [hnp]; exact nn_nI (by omega)]; rfl⟩
              · refine j_iconst (v := 0) (q := 54) hO dX10_feed_53 rfl (by decide) ?_
                exact j_zret hM dX10_feed_54 (Nat.le_of_ble_eq_true rfl) (Nat.le_of_ble_eq_true rfl) (by decide) ⟨by unfold boA kFeed; rw [decide_eq_false (fun z => z.2.2.2.2.2.2 c50)]; rfl, by unfold feedF kFeed; rw [decide_eq_false (fun z => z.2.2.2.2.2.2 c50)]; rfl⟩
end
section
def runPost (S : St) (α : Al) (u : Int32) (r : Option Value) (S' : St) : Prop := r = some (.int (runA α u)) ∧ S' = wr S (runF α u)
theorem gt_of {x : Int32} (h : ¬ x ≤ 10000) : 10000 < x := by
  rw [Int32.lt_iff_toInt_lt]
  rw [Int32.le_iff_toInt_le] at h
  omega
theorem gt_nle {x : Int32} (h : 10000 < x) (h2 : x ≤ 10000) : False := by
  rw [Int32.lt_iff_toInt_lt] at h
  rw [Int32.le_iff_toInt_le] at h2
  omega
theorem run_in {now x : Int32} {t : Nat} (ht : now = nI t) (h1 : t < 2 ^ 31) (c1 : ¬ x < now) (c2 : x ≤ 10000) : ∃ u, (t ≤ u ∧ u ≤ 10000) ∧ x = nI u := by
  rw [ht] at c1
  have h0 : ¬ x < 0 := fun q => c1 (by
    rw [Int32.lt_iff_toInt_lt] at q ⊢
    rw [nI_toInt h1]
    have : (0 : Int32).toInt = 0 := rfl
    omega)
  obtain ⟨u, hu, rfl⟩ := nI_of2 (M := 10000) (n := 10000) rfl h0 c2
  refine ⟨u, ⟨?_, hu⟩, rfl⟩
  rcases Nat.lt_or_ge u t with q | q
  · exact absurd (nI_lt q h1) c1
  · exact q
theorem k_in {k : Int32} (c1 : ¬ k < 0) (c2 : ¬ 2000 ≤ k) : ∃ j, j < 2000 ∧ k = nI j := by
  rcases pk_ix k (n := 2000) (by omega) with q | q | q
  · exact absurd q c1
  · exact absurd q c2
  · exact q
theorem kj_in {k v : Int32} {jm : Nat} (hv : v = nI jm) (c1 : ¬ k < 0) (c2 : ¬ v ≤ k) (h : jm ≤ 60 := by omega) : ∃ j, j < jm ∧ k = nI j := by
  rcases pk_ix k (n := jm) (by omega) with q | q | q
  · exact absurd q c1
  · exact absurd (by rw [hv]; exact q) c2
  · exact q
theorem pk_in2 {x : Int64} {v : Int32} {np : Nat} (hv : v = nI np) (hn : np ≤ 60) (c1 : ¬ lg_cmp x 0 < 0) (c2 : ¬ 0 ≤ lg_cmp x v.toInt64) : ∃ j, j < np ∧ x = lN j := by
  rw [hv, nI_l (by omega)] at c2
  have h0 : ¬ x < 0 := fun q => c1 ((lg_cmp_lt x 0).mpr q)
  obtain ⟨j, hj, rfl⟩ := pk_lOf h0
  refine ⟨j, ?_, rfl⟩
  rcases Nat.lt_or_ge j np with q | q
  · exact q
  · exfalso
    exact c2 ((lg_cmp_ge _ _).mpr ((pk_lLE (by omega) hj).mpr q))
theorem en_s1 {α : Al} {h : Nat} (c : ¬ aI α 0 35 < aI α 23 h) : nI (enF α h) + 1 = nI (enF α (h + 1)) := by
  rw [show enF α (h + 1) = enF α h + 1 from by rw [enF, if_neg c]]
  exact nI_1 _
theorem en_s0 {α : Al} {h : Nat} (c : aI α 0 35 < aI α 23 h) : nI (enF α h) + 0 = nI (enF α (h + 1)) := by
  rw [show enF α (h + 1) = enF α h + 0 from by rw [enF, if_pos c]]
  exact nI_add _ 0
end
section
set_option maxHeartbeats 4000000 in
set_option maxRecDepth 100000 in
theorem c_10_joinTo (l : Launch) (S : St) (α : Al) (nb : Nat) (b0 to : Int32) (hm : MSh S) (hnb : aI α 0 1 = nI nb) (hb6 : nb ≤ 6) : Ct l yX10_joinTo cX10_joinTo 4 (some .boolean) (rm 1 0 0 21) [.ref (sA S 10 0), .int b0, .int to] (wr S α) (fun r S' => r = some (.int (boA (kJoin α b0 to))) ∧ S' = wr S (joinF α b0 to)) := by
  refine Ct.of (by decide) (Nat.le_of_ble_eq_true rfl) (fun X hM => ?_)
  have hO := hM.1
  obtain rfl := hM.l
  show Jg X 0 0 (wr S α) 0 [(0, .ref (sA S 10 0)), (1, .int b0), (2, .int to)] []
  refine j_iload_n (q := 1) hO dX10_joinTo_0 rfl rfl ?_
  refine j_iconst (v := (-1)) (q := 2) hO dX10_joinTo_1 rfl (by decide) ?_
  refine j_icmp_eq (tgt := 34) (q := 5) hO dX10_joinTo_2 rfl (by decide) (fun c2 => ?_) (fun c2 => ?_)
  · refine j_iconst (v := 1) (q := 35) hO dX10_joinTo_34 rfl (by decide) ?_
    refine j_goto (tgt := 39) hO dX10_joinTo_35 (by decide) ?_
    refine j_istore_n (q := 40) hO dX10_joinTo_39 rfl (by rw [hM.nL]; decide) rfl ?_
    refine j_aload_n (q := 41) hO dX10_joinTo_40 rfl rfl ?_
    refine j_iload_n (q := 42) hO dX10_joinTo_41 rfl rfl ?_
    refine j_callV (x := 10) (q := 45) hO (c_10_isBelt (lx X) _ _ hm.1) M_10_isBelt mw_653 CK_10 rfl hm.1 rfl rfl rfl (by unfold roomy; rw [hM.R]; exact ⟨⟨Nat.le_of_ble_eq_true rfl, Nat.le_of_ble_eq_true rfl⟩, ⟨Nat.le_of_ble_eq_true rfl, Nat.le_of_ble_eq_true rfl⟩, Nat.le_of_ble_eq_true rfl⟩) dX10_joinTo_42 rfl (fun v_42 S_42 hp_42 => ?_)
    obtain ⟨rfl, rfl⟩ := hp_42
    refine j_if_eq (tgt := 59) (q := 48) hO dX10_joinTo_45 rfl (by decide) (fun c45 => ?_) (fun c45 => ?_)
    · refine j_iconst (v := 0) (q := 60) hO dX10_joinTo_59 rfl (by decide) ?_
      exact j_zret hM dX10_joinTo_60 (Nat.le_of_ble_eq_true rfl) (Nat.le_of_ble_eq_true rfl) (by decide) ⟨by unfold boA kJoin; rw [decide_eq_false (fun z => z.1 c45)]; rfl, by unfold joinF kJoin; rw [decide_eq_false (fun z => z.1 c45)]; rfl⟩
    · refine j_iload_n (q := 49) hO dX10_joinTo_48 rfl rfl ?_
      refine j_if_eq (tgt := 59) (q := 52) hO dX10_joinTo_49 rfl (by decide) (fun c49 => ?_) (fun c49 => ?_)
      · exact absurd c49 (by decide)
      · refine j_aload_n (q := 53) hO dX10_joinTo_52 rfl rfl ?_
        refine j_callV (x := 10) (q := 56) hO (c_10_isOpen (lx X) _ hm.1) M_10_isOpen mw_645 CK_10 rfl hm.1 rfl rfl rfl (by unfold roomy; rw [hM.R]; exact ⟨⟨Nat.le_of_ble_eq_true rfl, Nat.le_of_ble_eq_true rfl⟩, ⟨Nat.le_of_ble_eq_true rfl, Nat.le_of_ble_eq_true rfl⟩, Nat.le_of_ble_eq_true rfl⟩) dX10_joinTo_53 rfl (fun v_53 S_53 hp_53 => ?_)
        obtain ⟨rfl, rfl⟩ := hp_53
        refine j_if_ne (tgt := 61) (q := 59) hO dX10_joinTo_56 rfl (by decide) (fun c56 => ?_) (fun c56 => ?_)
        · obtain ⟨b, hbn, rfl⟩ := iB_in hnb hb6 c45
          have enb : nn (nI b) = b := nn_nI (by omega)
          refine j_aload_n (q := 62) hO dX10_joinTo_61 rfl rfl ?_
          refine m_getA (j := 4) (x := 22) (q := 65) hO hm dX10_joinTo_62 rfl mw_502 (by decide) rfl rfl ?_
          refine j_iload_n (q := 66) hO dX10_joinTo_65 rfl rfl ?_
          refine j_iload_n (q := 67) hO dX10_joinTo_66 rfl rfl ?_
          refine m_iast (x := 22) (a := 3) (q := 68) hO hm MK_22 dX10_joinTo_67 rfl rfl (j := b) rfl (by omega) ?_
          refine j_iconst (v := 1) (q := 69) hO dX10_joinTo_68 rfl (by decide) ?_
          exact j_zret hM dX10_joinTo_69 (Nat.le_of_ble_eq_true rfl) (Nat.le_of_ble_eq_true rfl) (by decide) ⟨by unfold boA kJoin; rw [decide_eq_true ⟨c45, decide_eq_true (Or.inl c2), op1 c56⟩]; rfl, by unfold joinF kJoin; rw [decide_eq_true ⟨c45, decide_eq_true (Or.inl c2), op1 c56⟩, enb]; rfl⟩
        · refine j_iconst (v := 0) (q := 60) hO dX10_joinTo_59 rfl (by decide) ?_
          exact j_zret hM dX10_joinTo_60 (Nat.le_of_ble_eq_true rfl) (Nat.le_of_ble_eq_true rfl) (by decide) ⟨by unfold boA kJoin; rw [decide_eq_false (fun z => op0 c56 z.2.2)]; rfl, by unfold joinF kJoin; rw [decide_eq_false (fun z => op0 c56 z.2.2)]; rfl⟩
  · refine j_iload_n (q := 6) hO dX10_joinTo_5 rfl rfl ?_
    refine j_if_lt (tgt := 17) (q := 9) hO dX10_joinTo_6 rfl (by decide) (fun c6 => ?_) (fun c6 => ?_)
    · refine j_iload_n (q := 18) hO dX10_joinTo_17 rfl rfl ?_
      refine j_bipush (v := (-2)) (q := 20) hO dX10_joinTo_18 rfl (by decide) ?_
      refine j_icmp_gt (tgt := 38) (q := 23) hO dX10_joinTo_20 rfl (by decide) (fun c20 => ?_) (fun c20 => ?_)
      · refine j_iconst (v := 0) (q := 39) hO dX10_joinTo_38 rfl (by decide) ?_
        refine j_istore_n (q := 40) hO dX10_joinTo_39 rfl (by rw [hM.nL]; decide) rfl ?_
        refine j_aload_n (q := 41) hO dX10_joinTo_40 rfl rfl ?_
        refine j_iload_n (q := 42) hO dX10_joinTo_41 rfl rfl ?_
        refine j_callV (x := 10) (q := 45) hO (c_10_isBelt (lx X) _ _ hm.1) M_10_isBelt mw_653 CK_10 rfl hm.1 rfl rfl rfl (by unfold roomy; rw [hM.R]; exact ⟨⟨Nat.le_of_ble_eq_true rfl, Nat.le_of_ble_eq_true rfl⟩, ⟨Nat.le_of_ble_eq_true rfl, Nat.le_of_ble_eq_true rfl⟩, Nat.le_of_ble_eq_true rfl⟩) dX10_joinTo_42 rfl (fun v_42 S_42 hp_42 => ?_)
        obtain ⟨rfl, rfl⟩ := hp_42
        refine j_if_eq (tgt := 59) (q := 48) hO dX10_joinTo_45 rfl (by decide) (fun c45 => ?_) (fun c45 => ?_)
        · refine j_iconst (v := 0) (q := 60) hO dX10_joinTo_59 rfl (by decide) ?_
          exact j_zret hM dX10_joinTo_60 (Nat.le_of_ble_eq_true rfl) (Nat.le_of_ble_eq_true rfl) (by decide) ⟨by unfold boA kJoin; rw [decide_eq_false (fun z => z.1 c45)]; rfl, by unfold joinF kJoin; rw [decide_eq_false (fun z => z.1 c45)]; rfl⟩
        · refine j_iload_n (q := 49) hO dX10_joinTo_48 rfl rfl ?_
          refine j_if_eq (tgt := 59) (q := 52) hO dX10_joinTo_49 rfl (by decide) (fun c49 => ?_) (fun c49 => ?_)
          · refine j_iconst (v := 0) (q := 60) hO dX10_joinTo_59 rfl (by decide) ?_
            exact j_zret hM dX10_joinTo_60 (Nat.le_of_ble_eq_true rfl) (Nat.le_of_ble_eq_true rfl) (by decide) ⟨by unfold boA kJoin; rw [decide_eq_false (fun z => absurd z.2.1 (by unfold jTo; rw [decide_eq_false (fun z => z.elim c2 (fun z => z.elim (fun q => q.1 c6) (fun q => q.1 c20)))]; decide))]; rfl, by unfold joinF kJoin; rw [decide_eq_false (fun z => absurd z.2.1 (by unfold jTo; rw [decide_eq_false (fun z => z.elim c2 (fun z => z.elim (fun q => q.1 c6) (fun q => q.1 c20)))]; decide))]; rfl⟩
          · exact absurd rfl c49
      · refine j_iload_n (q := 24) hO dX10_joinTo_23 rfl rfl ?_
        refine j_bipush (v := (-2)) (q := 26) hO dX10_joinTo_24 rfl (by decide) ?_
        refine j_aload_n (q := 27) hO dX10_joinTo_26 rfl rfl ?_
        refine m_getI (j := 13) (q := 30) hO hm dX10_joinTo_27 rfl mw_511 (by decide) rfl ?_
        refine j_isub (q := 31) hO dX10_joinTo_30 rfl ?_
        refine j_icmp_le (tgt := 38) (q := 34) hO dX10_joinTo_31 rfl (by decide) (fun c31 => ?_) (fun c31 => ?_)
        · refine j_iconst (v := 0) (q := 39) hO dX10_joinTo_38 rfl (by decide) ?_
          refine j_istore_n (q := 40) hO dX10_joinTo_39 rfl (by rw [hM.nL]; decide) rfl ?_
          refine j_aload_n (q := 41) hO dX10_joinTo_40 rfl rfl ?_
          refine j_iload_n (q := 42) hO dX10_joinTo_41 rfl rfl ?_
          refine j_callV (x := 10) (q := 45) hO (c_10_isBelt (lx X) _ _ hm.1) M_10_isBelt mw_653 CK_10 rfl hm.1 rfl rfl rfl (by unfold roomy; rw [hM.R]; exact ⟨⟨Nat.le_of_ble_eq_true rfl, Nat.le_of_ble_eq_true rfl⟩, ⟨Nat.le_of_ble_eq_true rfl, Nat.le_of_ble_eq_true rfl⟩, Nat.le_of_ble_eq_true rfl⟩) dX10_joinTo_42 rfl (fun v_42 S_42 hp_42 => ?_)
          obtain ⟨rfl, rfl⟩ := hp_42
          refine j_if_eq (tgt := 59) (q := 48) hO dX10_joinTo_45 rfl (by decide) (fun c45 => ?_) (fun c45 => ?_)
          · refine j_iconst (v := 0) (q := 60) hO dX10_joinTo_59 rfl (by decide) ?_
            exact j_zret hM dX10_joinTo_60 (Nat.le_of_ble_eq_true rfl) (Nat.le_of_ble_eq_true rfl) (by decide) ⟨by unfold boA kJoin; rw [decide_eq_false (fun z => z.1 c45)]; rfl, by unfold joinF kJoin; rw [decide_eq_false (fun z => z.1 c45)]; rfl⟩
          · refine j_iload_n (q := 49) hO dX10_joinTo_48 rfl rfl ?_
            refine j_if_eq (tgt := 59) (q := 52) hO dX10_joinTo_49 rfl (by decide) (fun c49 => ?_) (fun c49 => ?_)
            · refine j_iconst (v := 0) (q := 60) hO dX10_joinTo_59 rfl (by decide) ?_
              exact j_zret hM dX10_joinTo_60 (Nat.le_of_ble_eq_true rfl) (Nat.le_of_ble_eq_true rfl) (by decide) ⟨by unfold boA kJoin; rw [decide_eq_false (fun z => absurd z.2.1 (by unfold jTo; rw [decide_eq_false (fun z => z.elim c2 (fun z => z.elim (fun q => q.1 c6) (fun q => q.2 c31)))]; decide))]; rfl, by unfold joinF kJoin; rw [decide_eq_false (fun z => absurd z.2.1 (by unfold jTo; rw [decide_eq_false (fun z => z.elim c2 (fun z => z.elim (fun q => q.1 c6) (fun q => q.2 c31)))]; decide))]; rfl⟩
            · exact absurd rfl c49
        · refine j_iconst (v := 1) (q := 35) hO dX10_joinTo_34 rfl (by decide) ?_
          refine j_goto (tgt := 39) hO dX10_joinTo_35 (by decide) ?_
          refine j_istore_n (q := 40) hO dX10_joinTo_39 rfl (by rw [hM.nL]; decide) rfl ?_
          refine j_aload_n (q := 41) hO dX10_joinTo_40 rfl rfl ?_
          refine j_iload_n (q := 42) hO dX10_joinTo_41 rfl rfl ?_
          refine j_callV (x := 10) (q := 45) hO (c_10_isBelt (lx X) _ _ hm.1) M_10_isBelt mw_653 CK_10 rfl hm.1 rfl rfl rfl (by unfold roomy; rw [hM.R]; exact ⟨⟨Nat.le_of_ble_eq_true rfl, Nat.le_of_ble_eq_true rfl⟩, ⟨Nat.le_of_ble_eq_true rfl, Nat.le_of_ble_eq_true rfl⟩, Nat.le_of_ble_eq_true rfl⟩) dX10_joinTo_42 rfl (fun v_42 S_42 hp_42 => ?_)
          obtain ⟨rfl, rfl⟩ := hp_42
          refine j_if_eq (tgt := 59) (q := 48) hO dX10_joinTo_45 rfl (by decide) (fun c45 => ?_) (fun c45 => ?_)
          · refine j_iconst (v := 0) (q := 60) hO dX10_joinTo_59 rfl (by decide) ?_
            exact j_zret hM dX10_joinTo_60 (Nat.le_of_ble_eq_true rfl) (Nat.le_of_ble_eq_true rfl) (by decide) ⟨by unfold boA kJoin; rw [decide_eq_false (fun z => z.1 c45)]; rfl, by unfold joinF kJoin; rw [decide_eq_false (fun z => z.1 c45)]; rfl⟩
          · refine j_iload_n (q := 49) hO dX10_joinTo_48 rfl rfl ?_
            refine j_if_eq (tgt := 59) (q := 52) hO dX10_joinTo_49 rfl (by decide) (fun c49 => ?_) (fun c49 => ?_)
            · exact absurd c49 (by decide)
            · refine j_aload_n (q := 53) hO dX10_joinTo_52 rfl rfl ?_
              refine j_callV (x := 10) (q := 56) hO (c_10_isOpen (lx X) _ hm.1) M_10_isOpen mw_645 CK_10 rfl hm.1 rfl rfl rfl (by unfold roomy; rw [hM.R]; exact ⟨⟨Nat.le_of_ble_eq_true rfl, Nat.le_of_ble_eq_true rfl⟩, ⟨Nat.le_of_ble_eq_true rfl, Nat.le_of_ble_eq_true rfl⟩, Nat.le_of_ble_eq_true rfl⟩) dX10_joinTo_53 rfl (fun v_53 S_53 hp_53 => ?_)
              obtain ⟨rfl, rfl⟩ := hp_53
              refine j_if_ne (tgt := 61) (q := 59) hO dX10_joinTo_56 rfl (by decide) (fun c56 => ?_) (fun c56 => ?_)
              · obtain ⟨b, hbn, rfl⟩ := iB_in hnb hb6 c45
                have enb : nn (nI b) = b := nn_nI (by omega)
                refine j_aload_n (q := 62) hO dX10_joinTo_61 rfl rfl ?_
                refine m_getA (j := 4) (x := 22) (q := 65) hO hm dX10_joinTo_62 rfl mw_502 (by decide) rfl rfl ?_
                refine j_iload_n (q := 66) hO dX10_joinTo_65 rfl rfl ?_
                refine j_iload_n (q := 67) hO dX10_joinTo_66 rfl rfl ?_
                refine m_iast (x := 22) (a := 3) (q := 68) hO hm MK_22 dX10_joinTo_67 rfl rfl (j := b) rfl (by omega) ?_
                refine j_iconst (v := 1) (q := 69) hO dX10_joinTo_68 rfl (by decide) ?_
                exact j_zret hM dX10_joinTo_69 (Nat.le_of_ble_eq_true rfl) (Nat.le_of_ble_eq_true rfl) (by decide) ⟨by unfold boA kJoin; rw [decide_eq_true ⟨c45, decide_eq_true (Or.inr (Or.inr ⟨c20, c31⟩)), op1 c56⟩]; rfl, by unfold joinF kJoin; rw [decide_eq_true ⟨c45, decide_eq_true (Or.inr (Or.inr ⟨c20, c31⟩)), op1 c56⟩, enb]; rfl⟩
              · refine j_iconst (v := 0) (q := 60) hO dX10_joinTo_59 rfl (by decide) ?_
                exact j_zret hM dX10_joinTo_60 (Nat.le_of_ble_eq_true rfl) (Nat.le_of_ble_eq_true rfl) (by decide) ⟨by unfold boA kJoin; rw [decide_eq_false (fun z => op0 c56 z.2.2)]; rfl, by unfold joinF kJoin; rw [decide_eq_false (fun z => op0 c56 z.2.2)]; rfl⟩
    · refine j_iload_n (q := 10) hO dX10_joinTo_9 rfl rfl ?_
      refine j_aload_n (q := 11) hO dX10_joinTo_10 rfl rfl ?_
      refine m_getI (j := 1) (q := 14) hO hm dX10_joinTo_11 rfl mw_499 (by decide) rfl ?_
      refine j_icmp_lt (tgt := 34) (q := 17) hO dX10_joinTo_14 rfl (by decide) (fun c14 => ?_) (fun c14 => ?_)
      · refine j_iconst (v := 1) (q := 35) hO dX10_joinTo_34 rfl (by decide) ?_
        refine j_goto (tgt := 39) hO dX10_joinTo_35 (by decide) ?_
        refine j_istore_n (q := 40) hO dX10_joinTo_39 rfl (by rw [hM.nL]; decide) rfl ?_
        refine j_aload_n (q := 41) hO dX10_joinTo_40 rfl rfl ?_
        refine j_iload_n (q := 42) hO dX10_joinTo_41 rfl rfl ?_
        refine j_callV (x := 10) (q := 45) hO (c_10_isBelt (lx X) _ _ hm.1) M_10_isBelt mw_653 CK_10 rfl hm.1 rfl rfl rfl (by unfold roomy; rw [hM.R]; exact ⟨⟨Nat.le_of_ble_eq_true rfl, Nat.le_of_ble_eq_true rfl⟩, ⟨Nat.le_of_ble_eq_true rfl, Nat.le_of_ble_eq_true rfl⟩, Nat.le_of_ble_eq_true rfl⟩) dX10_joinTo_42 rfl (fun v_42 S_42 hp_42 => ?_)
        obtain ⟨rfl, rfl⟩ := hp_42
        refine j_if_eq (tgt := 59) (q := 48) hO dX10_joinTo_45 rfl (by decide) (fun c45 => ?_) (fun c45 => ?_)
        · refine j_iconst (v := 0) (q := 60) hO dX10_joinTo_59 rfl (by decide) ?_
          exact j_zret hM dX10_joinTo_60 (Nat.le_of_ble_eq_true rfl) (Nat.le_of_ble_eq_true rfl) (by decide) ⟨by unfold boA kJoin; rw [decide_eq_false (fun z => z.1 c45)]; rfl, by unfold joinF kJoin; rw [decide_eq_false (fun z => z.1 c45)]; rfl⟩
        · refine j_iload_n (q := 49) hO dX10_joinTo_48 rfl rfl ?_
          refine j_if_eq (tgt := 59) (q := 52) hO dX10_joinTo_49 rfl (by decide) (fun c49 => ?_) (fun c49 => ?_)
          · exact absurd c49 (by decide)
          · refine j_aload_n (q := 53) hO dX10_joinTo_52 rfl rfl ?_
            refine j_callV (x := 10) (q := 56) hO (c_10_isOpen (lx X) _ hm.1) M_10_isOpen mw_645 CK_10 rfl hm.1 rfl rfl rfl (by unfold roomy; rw [hM.R]; exact ⟨⟨Nat.le_of_ble_eq_true rfl, Nat.le_of_ble_eq_true rfl⟩, ⟨Nat.le_of_ble_eq_true rfl, Nat.le_of_ble_eq_true rfl⟩, Nat.le_of_ble_eq_true rfl⟩) dX10_joinTo_53 rfl (fun v_53 S_53 hp_53 => ?_)
            obtain ⟨rfl, rfl⟩ := hp_53
            refine j_if_ne (tgt := 61) (q := 59) hO dX10_joinTo_56 rfl (by decide) (fun c56 => ?_) (fun c56 => ?_)
            · obtain ⟨b, hbn, rfl⟩ := iB_in hnb hb6 c45
              have enb : nn (nI b) = b := nn_nI (by omega)
              refine j_aload_n (q := 62) hO dX10_joinTo_61 rfl rfl ?_
              refine m_getA (j := 4) (x := 22) (q := 65) hO hm dX10_joinTo_62 rfl mw_502 (by decide) rfl rfl ?_
              refine j_iload_n (q := 66) hO dX10_joinTo_65 rfl rfl ?_
              refine j_iload_n (q := 67) hO dX10_joinTo_66 rfl rfl ?_
              refine m_iast (x := 22) (a := 3) (q := 68) hO hm MK_22 dX10_joinTo_67 rfl rfl (j := b) rfl (by omega) ?_
              refine j_iconst (v := 1) (q := 69) hO dX10_joinTo_68 rfl (by decide) ?_
              exact j_zret hM dX10_joinTo_69 (Nat.le_of_ble_eq_true rfl) (Nat.le_of_ble_eq_true rfl) (by decide) ⟨by unfold boA kJoin; rw [decide_eq_true ⟨c45, decide_eq_true (Or.inr (Or.inl ⟨c6, c14⟩)), op1 c56⟩]; rfl, by unfold joinF kJoin; rw [decide_eq_true ⟨c45, decide_eq_true (Or.inr (Or.inl ⟨c6, c14⟩)), op1 c56⟩, enb]; rfl⟩
            · refine j_iconst (v := 0) (q := 60) hO dX10_joinTo_59 rfl (by decide) ?_
              exact j_zret hM dX10_joinTo_60 (Nat.le_of_ble_eq_true rfl) (Nat.le_of_ble_eq_true rfl) (by decide) ⟨by unfold boA kJoin; rw [decide_eq_false (fun z => op0 c56 z.2.2)]; rfl, by unfold joinF kJoin; rw [decide_eq_false (fun z => op0 c56 z.2.2)]; rfl⟩
      · refine j_iload_n (q := 18) hO dX10_joinTo_17 rfl rfl ?_
        refine j_bipush (v := (-2)) (q := 20) hO dX10_joinTo_18 rfl (by decide) ?_
        refine j_icmp_gt (tgt := 38) (q := 23) hO dX10_joinTo_20 rfl (by decide) (fun c20 => ?_) (fun c20 => ?_)
        · refine j_iconst (v := 0) (q := 39) hO dX10_joinTo_38 rfl (by decide) ?_
          refine j_istore_n (q := 40) hO dX10_joinTo_39 rfl (by rw [hM.nL]; decide) rfl ?_
          refine j_aload_n (q := 41) hO dX10_joinTo_40 rfl rfl ?_
          refine j_iload_n (q := 42) hO dX10_joinTo_41 rfl rfl ?_
          refine j_callV (x := 10) (q := 45) hO (c_10_isBelt (lx X) _ _ hm.1) M_10_isBelt mw_653 CK_10 rfl hm.1 rfl rfl rfl (by unfold roomy; rw [hM.R]; exact ⟨⟨Nat.le_of_ble_eq_true rfl, Nat.le_of_ble_eq_true rfl⟩, ⟨Nat.le_of_ble_eq_true rfl, Nat.le_of_ble_eq_true rfl⟩, Nat.le_of_ble_eq_true rfl⟩) dX10_joinTo_42 rfl (fun v_42 S_42 hp_42 => ?_)
          obtain ⟨rfl, rfl⟩ := hp_42
          refine j_if_eq (tgt := 59) (q := 48) hO dX10_joinTo_45 rfl (by decide) (fun c45 => ?_) (fun c45 => ?_)
          · refine j_iconst (v := 0) (q := 60) hO dX10_joinTo_59 rfl (by decide) ?_
            exact j_zret hM dX10_joinTo_60 (Nat.le_of_ble_eq_true rfl) (Nat.le_of_ble_eq_true rfl) (by decide) ⟨by unfold boA kJoin; rw [decide_eq_false (fun z => z.1 c45)]; rfl, by unfold joinF kJoin; rw [decide_eq_false (fun z => z.1 c45)]; rfl⟩
          · refine j_iload_n (q := 49) hO dX10_joinTo_48 rfl rfl ?_
            refine j_if_eq (tgt := 59) (q := 52) hO dX10_joinTo_49 rfl (by decide) (fun c49 => ?_) (fun c49 => ?_)
            · refine j_iconst (v := 0) (q := 60) hO dX10_joinTo_59 rfl (by decide) ?_
              exact j_zret hM dX10_joinTo_60 (Nat.le_of_ble_eq_true rfl) (Nat.le_of_ble_eq_true rfl) (by decide) ⟨by unfold boA kJoin; rw [decide_eq_false (fun z => absurd z.2.1 (by unfold jTo; rw [decide_eq_false (fun z => z.elim c2 (fun z => z.elim (fun q => c14 q.2) (fun q => q.1 c20)))]; decide))]; rfl, by unfold joinF kJoin; rw [decide_eq_false (fun z => absurd z.2.1 (by unfold jTo; rw [decide_eq_false (fun z => z.elim c2 (fun z => z.elim (fun q => c14 q.2) (fun q => q.1 c20)))]; decide))]; rfl⟩
            · exact absurd rfl c49
        · refine j_iload_n (q := 24) hO dX10_joinTo_23 rfl rfl ?_
          refine j_bipush (v := (-2)) (q := 26) hO dX10_joinTo_24 rfl (by decide) ?_
          refine j_aload_n (q := 27) hO dX10_joinTo_26 rfl rfl ?_
          refine m_getI (j := 13) (q := 30) hO hm dX10_joinTo_27 rfl mw_511 (by decide) rfl ?_
          refine j_isub (q := 31) hO dX10_joinTo_30 rfl ?_
          refine j_icmp_le (tgt := 38) (q := 34) hO dX10_joinTo_31 rfl (by decide) (fun c31 => ?_) (fun c31 => ?_)
          · refine j_iconst (v := 0) (q := 39) hO dX10_joinTo_38 rfl (by decide) ?_
            refine j_istore_n (q := 40) hO dX10_joinTo_39 rfl (by rw [hM.nL]; decide) rfl ?_
            refine j_aload_n (q := 41) hO dX10_joinTo_40 rfl rfl ?_
            refine j_iload_n (q := 42) hO dX10_joinTo_41 rfl rfl ?_
            refine j_callV (x := 10) (q := 45) hO (c_10_isBelt (lx X) _ _ hm.1) M_10_isBelt mw_653 CK_10 rfl hm.1 rfl rfl rfl (by unfold roomy; rw [hM.R]; exact ⟨⟨Nat.le_of_ble_eq_true rfl, Nat.le_of_ble_eq_true rfl⟩, ⟨Nat.le_of_ble_eq_true rfl, Nat.le_of_ble_eq_true rfl⟩, Nat.le_of_ble_eq_true rfl⟩) dX10_joinTo_42 rfl (fun v_42 S_42 hp_42 => ?_)
            obtain ⟨rfl, rfl⟩ := hp_42
            refine j_if_eq (tgt := 59) (q := 48) hO dX10_joinTo_45 rfl (by decide) (fun c45 => ?_) (fun c45 => ?_)
            · refine j_iconst (v := 0) (q := 60) hO dX10_joinTo_59 rfl (by decide) ?_
              exact j_zret hM dX10_joinTo_60 (Nat.le_of_ble_eq_true rfl) (Nat.le_of_ble_eq_true rfl) (by decide) ⟨by unfold boA kJoin; rw [decide_eq_false (fun z => z.1 c45)]; rfl, by unfold joinF kJoin; rw [decide_eq_false (fun z => z.1 c45)]; rfl⟩
            · refine j_iload_n (q := 49) hO dX10_joinTo_48 rfl rfl ?_
              refine j_if_eq (tgt := 59) (q := 52) hO dX10_joinTo_49 rfl (by decide) (fun c49 => ?_) (fun c49 => ?_)
              · refine j_iconst (v := 0) (q := 60) hO dX10_joinTo_59 rfl (by decide) ?_
                exact j_zret hM dX10_joinTo_60 (Nat.le_of_ble_eq_true rfl) (Nat.le_of_ble_eq_true rfl) (by decide) ⟨by unfold boA kJoin; rw [decide_eq_false (fun z => absurd z.2.1 (by unfold jTo; rw [decide_eq_false (fun z => z.elim c2 (fun z => z.elim (fun q => c14 q.2) (fun q => q.2 c31)))]; decide))]; rfl, by unfold joinF kJoin; rw [decide_eq_false (fun z => absurd z.2.1 (by unfold jTo; rw [decide_eq_false (fun z => z.elim c2 (fun z => z.elim (fun q => c14 q.2) (fun q => q.2 c31)))]; decide))]; rfl⟩
              · exact absurd rfl c49
          · refine j_iconst (v := 1) (q := 35) hO dX10_joinTo_34 rfl (by decide) ?_
            refine j_goto (tgt := 39) hO dX10_joinTo_35 (by decide) ?_
            refine j_istore_n (q := 40) hO dX10_joinTo_39 rfl (by rw [hM.nL]; decide) rfl ?_
            refine j_aload_n (q := 41) hO dX10_joinTo_40 rfl rfl ?_
            refine j_iload_n (q := 42) hO dX10_joinTo_41 rfl rfl ?_
            refine j_callV (x := 10) (q := 45) hO (c_10_isBelt (lx X) _ _ hm.1) M_10_isBelt mw_653 CK_10 rfl hm.1 rfl rfl rfl (by unfold roomy; rw [hM.R]; exact ⟨⟨Nat.le_of_ble_eq_true rfl, Nat.le_of_ble_eq_true rfl⟩, ⟨Nat.le_of_ble_eq_true rfl, Nat.le_of_ble_eq_true rfl⟩, Nat.le_of_ble_eq_true rfl⟩) dX10_joinTo_42 rfl (fun v_42 S_42 hp_42 => ?_)
            obtain ⟨rfl, rfl⟩ := hp_42
            refine j_if_eq (tgt := 59) (q := 48) hO dX10_joinTo_45 rfl (by decide) (fun c45 => ?_) (fun c45 => ?_)
            · refine j_iconst (v := 0) (q := 60) hO dX10_joinTo_59 rfl (by decide) ?_
              exact j_zret hM dX10_joinTo_60 (Nat.le_of_ble_eq_true rfl) (Nat.le_of_ble_eq_true rfl) (by decide) ⟨by unfold boA kJoin; rw [decide_eq_false (fun z => z.1 c45)]; rfl, by unfold joinF kJoin; rw [decide_eq_false (fun z => z.1 c45)]; rfl⟩
            · refine j_iload_n (q := 49) hO dX10_joinTo_48 rfl rfl ?_
              refine j_if_eq (tgt := 59) (q := 52) hO dX10_joinTo_49 rfl (by decide) (fun c49 => ?_) (fun c49 => ?_)
              · exact absurd c49 (by decide)
              · refine j_aload_n (q := 53) hO dX10_joinTo_52 rfl rfl ?_
                refine j_callV (x := 10) (q := 56) hO (c_10_isOpen (lx X) _ hm.1) M_10_isOpen mw_645 CK_10 rfl hm.1 rfl rfl rfl (by unfold roomy; rw [hM.R]; exact ⟨⟨Nat.le_of_ble_eq_true rfl, Nat.le_of_ble_eq_true rfl⟩, ⟨Nat.le_of_ble_eq_true rfl, Nat.le_of_ble_eq_true rfl⟩, Nat.le_of_ble_eq_true rfl⟩) dX10_joinTo_53 rfl (fun v_53 S_53 hp_53 => ?_)
                obtain ⟨rfl, rfl⟩ := hp_53
                refine j_if_ne (tgt := 61) (q := 59) hO dX10_joinTo_56 rfl (by decide) (fun c56 => ?_) (fun c56 => ?_)
                · obtain ⟨b, hbn, rfl⟩ := iB_in hnb hb6 c45
                  have enb : nn (nI b) = b := nn_nI (by omega)
                  refine j_aload_n (q := 62) hO dX10_joinTo_61 rfl rfl ?_
                  refine m_getA (j := 4) (x := 22) (q := 65) hO hm dX10_joinTo_62 rfl mw_502 (by decide) rfl rfl ?_
                  refine j_iload_n (q := 66) hO dX10_joinTo_65 rfl rfl ?_
                  refine j_iload_n (q := 67) hO dX10_joinTo_66 rfl rfl ?_
                  refine m_iast (x := 22) (a := 3) (q := 68) hO hm MK_22 dX10_joinTo_67 rfl rfl (j := b) rfl (by omega) ?_
                  refine j_iconst (v := 1) (q := 69) hO dX10_joinTo_68 rfl (by decide) ?_
                  exact j_zret hM dX10_joinTo_69 (Nat.le_of_ble_eq_true rfl) (Nat.le_of_ble_eq_true rfl) (by decide) ⟨by unfold boA kJoin; rw [decide_eq_true ⟨c45, decide_eq_true (Or.inr (Or.inr ⟨c20, c31⟩)), op1 c56⟩]; rfl, by unfold joinF kJoin; rw [decide_eq_true ⟨c45, decide_eq_true (Or.inr (Or.inr ⟨c20, c31⟩)), op1 c56⟩, enb]; rfl⟩
                · refine j_iconst (v := 0) (q := 60) hO dX10_joinTo_59 rfl (by decide) ?_
                  exact j_zret hM dX10_joinTo_60 (Nat.le_of_ble_eq_true rfl) (Nat.le_of_ble_eq_true rfl) (by decide) ⟨by unfold boA kJoin; rw [decide_eq_false (fun z => op0 c56 z.2.2)]; rfl, by unfold joinF kJoin; rw [decide_eq_false (fun z => op0 c56 z.2.2)]; rfl⟩
set_option maxHeartbeats 4000000 in
set_option maxRecDepth 100000 in
theorem c_10_run (l : Launch) (S : St) (α : Al) (nb nh nu nr nk np t : Nat) (u0 : Int32) (hm : MSh S) (c : Cf α nb nh nu nr nk np) (d : Dn α nb nk np (1020 * t)) (ht : aI α 0 35 = nI t) (ht1 : t ≤ 10000) : Ct l yX10_run cX10_run 2 (some .int) (rm 5 0 0 114) [.ref (sA S 10 0), .int u0] (wr S α) (runPost S α u0) := by
  refine Ct.of (by decide) (Nat.le_of_ble_eq_true rfl) (fun X hM => ?_)
  have hO := hM.1
  obtain rfl := hM.l
  show Jg X 0 0 (wr S α) 0 [(0, .ref (sA S 10 0)), (1, .int u0)] []
  have loop : ∀ u, t ≤ u → u ≤ 10000 → kRun α (nI u) = true → ∀ f m, t + m + f = u → runPost S α (nI u) = runPost S α (nI u) → OkM X cX10_run yX10_run.cls (lx X) (rm 5 0 0 114) 2 (some .int) yX10_run.name (runPost S α (nI u)) → Jg X 0 0 (wr S (runL α m)) 17 [(0, .ref (sA S 10 0)), (1, .int (nI u))] [] := by
    intro u htu hu hk f
    induction f with
    | zero =>
      intro m hz _ hM
      obtain ⟨e1, e2, e3⟩ := runL_inv c d ht m (by omega)
      have em : nn (nI u) - nn (aI α 0 35) = m := by rw [nn_nI (by omega), ht, nn_nI (by omega)]; omega
      refine j_aload_n (q := 18) hO dX10_run_17 rfl rfl ?_
      refine m_getI (j := 35) (q := 21) hO hm dX10_run_18 rfl mw_533 (by decide) rfl ?_
      refine j_iload_n (q := 22) hO dX10_run_21 rfl rfl ?_
      refine j_icmp_ge (tgt := 32) (q := 25) hO dX10_run_22 rfl (by decide) (fun c22 => ?_) (fun c22 => ?_)
      · refine j_aload_n (q := 33) hO dX10_run_32 rfl rfl ?_
        refine m_getI (j := 36) (q := 36) hO hm dX10_run_33 rfl mw_534 (by decide) rfl ?_
        exact j_iret hM dX10_run_36 (Nat.le_of_ble_eq_true rfl) (Nat.le_of_ble_eq_true rfl) ⟨by unfold runA runF; rw [hk]; show some (Value.int (aI (runL α m) 0 36)) = some (Value.int (aI (runL α (nn (nI u) - nn (aI α 0 35))) 0 36)); rw [em], by unfold runF; rw [hk]; show wr S (runL α m) = wr S (runL α (nn (nI u) - nn (aI α 0 35))); rw [em]⟩
      · exact absurd (by rw [e3]; exact nI_le (by omega) (by omega)) c22
    | succ f ih =>
      intro m hz _ hM
      obtain ⟨e1, e2, e3⟩ := runL_inv c d ht m (by omega)
      refine j_aload_n (q := 18) hO dX10_run_17 rfl rfl ?_
      refine m_getI (j := 35) (q := 21) hO hm dX10_run_18 rfl mw_533 (by decide) rfl ?_
      refine j_iload_n (q := 22) hO dX10_run_21 rfl rfl ?_
      refine j_icmp_ge (tgt := 32) (q := 25) hO dX10_run_22 rfl (by decide) (fun c22 => ?_) (fun c22 => ?_)
      · exact absurd c22 (by rw [e3]; exact nI_ge (by omega) (by omega))
      · refine j_aload_n (q := 26) hO dX10_run_25 rfl rfl ?_
        refine j_callV (x := 10) (q := 29) hO (c_10_tenth (lx X) S (runL α m) nb nh nu nr nk np _ (t + m) hm e1 e2 e3 (by omega) (by omega)) M_10_tenth mw_689 CK_10 rfl hm.1 rfl rfl rfl (by unfold roomy; rw [hM.R]; exact ⟨⟨Nat.le_of_ble_eq_true rfl, Nat.le_of_ble_eq_true rfl⟩, ⟨Nat.le_of_ble_eq_true rfl, Nat.le_of_ble_eq_true rfl⟩, Nat.le_of_ble_eq_true rfl⟩) dX10_run_26 rfl (fun v_26 S_26 hp_26 => ?_)
        obtain ⟨rfl, rfl⟩ := hp_26
        refine j_goto (tgt := 17) hO dX10_run_29 (by decide) ?_
        refine Jg.lv (lv' := [(0, .ref (sA S 10 0)), (1, .int (nI u))]) ⟨rfl, rfl, trivial⟩ ?_
        exact ih (m + 1) (by omega) rfl hM
  refine j_iload_n (q := 1) hO dX10_run_0 rfl rfl ?_
  refine j_aload_n (q := 2) hO dX10_run_1 rfl rfl ?_
  refine m_getI (j := 35) (q := 5) hO hm dX10_run_2 rfl mw_533 (by decide) rfl ?_
  refine j_icmp_lt (tgt := 15) (q := 8) hO dX10_run_5 rfl (by decide) (fun c5 => ?_) (fun c5 => ?_)
  · refine j_iconst (v := (-1)) (q := 16) hO dX10_run_15 rfl (by decide) ?_
    exact j_iret hM dX10_run_16 (Nat.le_of_ble_eq_true rfl) (Nat.le_of_ble_eq_true rfl) ⟨by unfold runA kRun; rw [decide_eq_false (fun z => z.1 c5)]; rfl, by unfold runF kRun; rw [decide_eq_false (fun z => z.1 c5)]; rfl⟩
  · refine j_iload_n (q := 9) hO dX10_run_8 rfl rfl ?_
    refine j_sipush (v := 10000) (q := 12) hO dX10_run_9 rfl (by decide) ?_
    refine j_icmp_le (tgt := 17) (q := 15) hO dX10_run_12 rfl (by decide) (fun c12 => ?_) (fun c12 => ?_)
    · obtain ⟨u, hu, rfl⟩ := run_in ht (by omega) c5 c12
      refine Jg.lv (lv' := [(0, .ref (sA S 10 0)), (1, .int (nI u))]) ⟨rfl, rfl, trivial⟩ ?_
      exact loop u hu.1 hu.2 (decide_eq_true ⟨c5, fun z => gt_nle z c12⟩) (u - t) 0 (by omega) rfl hM
    · refine j_iconst (v := (-1)) (q := 16) hO dX10_run_15 rfl (by decide) ?_
      exact j_iret hM dX10_run_16 (Nat.le_of_ble_eq_true rfl) (Nat.le_of_ble_eq_true rfl) ⟨by unfold runA kRun; rw [decide_eq_false (fun z => z.2 (gt_of c12))]; rfl, by unfold runF kRun; rw [decide_eq_false (fun z => z.2 (gt_of c12))]; rfl⟩
set_option maxHeartbeats 4000000 in
set_option maxRecDepth 100000 in
theorem c_10_event (l : Launch) (S : St) (α : Al) (k w : Int32) (hm : MSh S) : Ct l yX10_event cX10_event 3 (some .int) (rm 0 0 0 0) [.ref (sA S 10 0), .int k, .int w] (wr S α) (fun r S' => r = some (.int (evA α k w)) ∧ S' = wr S α) := by
  refine Ct.of (by decide) (Nat.le_of_ble_eq_true rfl) (fun X hM => ?_)
  have hO := hM.1
  obtain rfl := hM.l
  show Jg X 0 0 (wr S α) 0 [(0, .ref (sA S 10 0)), (1, .int k), (2, .int w)] []
  refine j_iload_n (q := 1) hO dX10_event_0 rfl rfl ?_
  refine j_if_lt (tgt := 41) (q := 4) hO dX10_event_1 rfl (by decide) (fun c1 => ?_) (fun c1 => ?_)
  · refine j_iconst (v := (-1)) (q := 42) hO dX10_event_41 rfl (by decide) ?_
    exact j_iret hM dX10_event_42 (Nat.le_of_ble_eq_true rfl) (Nat.le_of_ble_eq_true rfl) ⟨by unfold evA; rw [if_neg (fun z => z.1 c1)], rfl⟩
  · refine j_iload_n (q := 5) hO dX10_event_4 rfl rfl ?_
    refine j_aload_n (q := 6) hO dX10_event_5 rfl rfl ?_
    refine m_getI (j := 36) (q := 9) hO hm dX10_event_6 rfl mw_534 (by decide) rfl ?_
    refine j_icmp_ge (tgt := 41) (q := 12) hO dX10_event_9 rfl (by decide) (fun c9 => ?_) (fun c9 => ?_)
    · refine j_iconst (v := (-1)) (q := 42) hO dX10_event_41 rfl (by decide) ?_
      exact j_iret hM dX10_event_42 (Nat.le_of_ble_eq_true rfl) (Nat.le_of_ble_eq_true rfl) ⟨by unfold evA; rw [if_neg (fun z => z.2.1 c9)], rfl⟩
    · refine j_iload_n (q := 13) hO dX10_event_12 rfl rfl ?_
      refine j_sipush (v := 2000) (q := 16) hO dX10_event_13 rfl (by decide) ?_
      refine j_icmp_ge (tgt := 41) (q := 19) hO dX10_event_16 rfl (by decide) (fun c16 => ?_) (fun c16 => ?_)
      · refine j_iconst (v := (-1)) (q := 42) hO dX10_event_41 rfl (by decide) ?_
        exact j_iret hM dX10_event_42 (Nat.le_of_ble_eq_true rfl) (Nat.le_of_ble_eq_true rfl) ⟨by unfold evA; rw [if_neg (fun z => z.2.2.1 c16)], rfl⟩
      · refine j_iload_n (q := 20) hO dX10_event_19 rfl rfl ?_
        refine j_if_lt (tgt := 41) (q := 23) hO dX10_event_20 rfl (by decide) (fun c20 => ?_) (fun c20 => ?_)
        · refine j_iconst (v := (-1)) (q := 42) hO dX10_event_41 rfl (by decide) ?_
          exact j_iret hM dX10_event_42 (Nat.le_of_ble_eq_true rfl) (Nat.le_of_ble_eq_true rfl) ⟨by unfold evA; rw [if_neg (fun z => z.2.2.2.1 c20)], rfl⟩
        · refine j_iload_n (q := 24) hO dX10_event_23 rfl rfl ?_
          refine j_iconst (v := 4) (q := 25) hO dX10_event_24 rfl (by decide) ?_
          refine j_icmp_ge (tgt := 41) (q := 28) hO dX10_event_25 rfl (by decide) (fun c25 => ?_) (fun c25 => ?_)
          · refine j_iconst (v := (-1)) (q := 42) hO dX10_event_41 rfl (by decide) ?_
            exact j_iret hM dX10_event_42 (Nat.le_of_ble_eq_true rfl) (Nat.le_of_ble_eq_true rfl) ⟨by unfold evA; rw [if_neg (fun z => z.2.2.2.2 c25)], rfl⟩
          · obtain ⟨kk, hkk, rfl⟩ := k_in c1 c16
            obtain ⟨ww, hww, rfl⟩ := w_in c20 c25
            refine j_aload_n (q := 29) hO dX10_event_28 rfl rfl ?_
            refine m_getA (j := 37) (x := 48) (q := 32) hO hm dX10_event_29 rfl mw_535 (by decide) rfl rfl ?_
            refine j_iconst (v := 4) (q := 33) hO dX10_event_32 rfl (by decide) ?_
            refine j_iload_n (q := 34) hO dX10_event_33 rfl rfl ?_
            refine j_imul (q := 35) hO dX10_event_34 rfl ?_
            refine j_iload_n (q := 36) hO dX10_event_35 rfl rfl ?_
            refine j_iadd (q := 37) hO dX10_event_36 rfl ?_
            refine m_iald (x := 48) (a := 29) (q := 38) hO hm MK_48 dX10_event_37 rfl rfl (j := 4 * kk + ww) (ix4 kk ww) (by omega) ?_
            refine j_goto (tgt := 42) hO dX10_event_38 (by decide) ?_
            exact j_iret hM dX10_event_42 (Nat.le_of_ble_eq_true rfl) (Nat.le_of_ble_eq_true rfl) ⟨by unfold evA; rw [if_pos ⟨c1, c9, c16, c20, c25⟩, nn_nI (by omega), nn_nI (by omega)], rfl⟩
set_option maxHeartbeats 4000000 in
set_option maxRecDepth 100000 in
theorem c_10_jam (l : Launch) (S : St) (α : Al) (jm : Nat) (k w : Int32) (hm : MSh S) (hjm : aI α 0 38 = nI jm) (hj60 : jm ≤ 60) : Ct l yX10_jam cX10_jam 3 (some .int) (rm 0 0 0 0) [.ref (sA S 10 0), .int k, .int w] (wr S α) (fun r S' => r = some (.int (jamA α k w)) ∧ S' = wr S α) := by
  refine Ct.of (by decide) (Nat.le_of_ble_eq_true rfl) (fun X hM => ?_)
  have hO := hM.1
  obtain rfl := hM.l
  show Jg X 0 0 (wr S α) 0 [(0, .ref (sA S 10 0)), (1, .int k), (2, .int w)] []
  refine j_iload_n (q := 1) hO dX10_jam_0 rfl rfl ?_
  refine j_if_lt (tgt := 34) (q := 4) hO dX10_jam_1 rfl (by decide) (fun c1 => ?_) (fun c1 => ?_)
  · refine j_iconst (v := (-1)) (q := 35) hO dX10_jam_34 rfl (by decide) ?_
    exact j_iret hM dX10_jam_35 (Nat.le_of_ble_eq_true rfl) (Nat.le_of_ble_eq_true rfl) ⟨by unfold jamA; rw [if_neg (fun z => z.1 c1)], rfl⟩
  · refine j_iload_n (q := 5) hO dX10_jam_4 rfl rfl ?_
    refine j_aload_n (q := 6) hO dX10_jam_5 rfl rfl ?_
    refine m_getI (j := 38) (q := 9) hO hm dX10_jam_6 rfl mw_536 (by decide) rfl ?_
    refine j_icmp_ge (tgt := 34) (q := 12) hO dX10_jam_9 rfl (by decide) (fun c9 => ?_) (fun c9 => ?_)
    · refine j_iconst (v := (-1)) (q := 35) hO dX10_jam_34 rfl (by decide) ?_
      exact j_iret hM dX10_jam_35 (Nat.le_of_ble_eq_true rfl) (Nat.le_of_ble_eq_true rfl) ⟨by unfold jamA; rw [if_neg (fun z => z.2.1 c9)], rfl⟩
    · refine j_iload_n (q := 13) hO dX10_jam_12 rfl rfl ?_
      refine j_if_lt (tgt := 34) (q := 16) hO dX10_jam_13 rfl (by decide) (fun c13 => ?_) (fun c13 => ?_)
      · refine j_iconst (v := (-1)) (q := 35) hO dX10_jam_34 rfl (by decide) ?_
        exact j_iret hM dX10_jam_35 (Nat.le_of_ble_eq_true rfl) (Nat.le_of_ble_eq_true rfl) ⟨by unfold jamA; rw [if_neg (fun z => z.2.2.1 c13)], rfl⟩
      · refine j_iload_n (q := 17) hO dX10_jam_16 rfl rfl ?_
        refine j_iconst (v := 4) (q := 18) hO dX10_jam_17 rfl (by decide) ?_
        refine j_icmp_ge (tgt := 34) (q := 21) hO dX10_jam_18 rfl (by decide) (fun c18 => ?_) (fun c18 => ?_)
        · refine j_iconst (v := (-1)) (q := 35) hO dX10_jam_34 rfl (by decide) ?_
          exact j_iret hM dX10_jam_35 (Nat.le_of_ble_eq_true rfl) (Nat.le_of_ble_eq_true rfl) ⟨by unfold jamA; rw [if_neg (fun z => z.2.2.2 c18)], rfl⟩
        · obtain ⟨kk, hkk, rfl⟩ := kj_in hjm c1 c9
          obtain ⟨ww, hww, rfl⟩ := w_in c13 c18
          refine j_aload_n (q := 22) hO dX10_jam_21 rfl rfl ?_
          refine m_getA (j := 39) (x := 49) (q := 25) hO hm dX10_jam_22 rfl mw_537 (by decide) rfl rfl ?_
          refine j_iconst (v := 4) (q := 26) hO dX10_jam_25 rfl (by decide) ?_
          refine j_iload_n (q := 27) hO dX10_jam_26 rfl rfl ?_
          refine j_imul (q := 28) hO dX10_jam_27 rfl ?_
          refine j_iload_n (q := 29) hO dX10_jam_28 rfl rfl ?_
          refine j_iadd (q := 30) hO dX10_jam_29 rfl ?_
          refine m_iald (x := 49) (a := 30) (q := 31) hO hm MK_49 dX10_jam_30 rfl rfl (j := 4 * kk + ww) (ix4 kk ww) (by omega) ?_
          refine j_goto (tgt := 35) hO dX10_jam_31 (by decide) ?_
          exact j_iret hM dX10_jam_35 (Nat.le_of_ble_eq_true rfl) (Nat.le_of_ble_eq_true rfl) ⟨by unfold jamA; rw [if_pos ⟨c1, c9, c13, c18⟩, nn_nI (by omega), nn_nI (by omega)], rfl⟩
set_option maxHeartbeats 4000000 in
set_option maxRecDepth 100000 in
theorem c_10_isKind (l : Launch) (S : St) (α : Al) (b kd : Int32) (hm : MSh S) : Ct l yX10_isKind cX10_isKind 3 (some .boolean) (rm 1 0 0 21) [.ref (sA S 10 0), .int b, .int kd] (wr S α) (fun r S' => r = some (.int (isK α b kd)) ∧ S' = wr S α) := by
  refine Ct.of (by decide) (Nat.le_of_ble_eq_true rfl) (fun X hM => ?_)
  have hO := hM.1
  obtain rfl := hM.l
  show Jg X 0 0 (wr S α) 0 [(0, .ref (sA S 10 0)), (1, .int b), (2, .int kd)] []
  refine j_aload_n (q := 1) hO dX10_isKind_0 rfl rfl ?_
  refine j_iload_n (q := 2) hO dX10_isKind_1 rfl rfl ?_
  refine j_callV (x := 10) (q := 5) hO (c_10_isBelt (lx X) _ _ hm.1) M_10_isBelt mw_653 CK_10 rfl hm.1 rfl rfl rfl (by unfold roomy; rw [hM.R]; exact ⟨⟨Nat.le_of_ble_eq_true rfl, Nat.le_of_ble_eq_true rfl⟩, ⟨Nat.le_of_ble_eq_true rfl, Nat.le_of_ble_eq_true rfl⟩, Nat.le_of_ble_eq_true rfl⟩) dX10_isKind_2 rfl (fun v_2 S_2 hp_2 => ?_)
  obtain ⟨rfl, rfl⟩ := hp_2
  refine j_if_eq (tgt := 21) (q := 8) hO dX10_isKind_5 rfl (by decide) (fun c5 => ?_) (fun c5 => ?_)
  · refine j_iconst (v := 0) (q := 22) hO dX10_isKind_21 rfl (by decide) ?_
    exact j_zret hM dX10_isKind_22 (Nat.le_of_ble_eq_true rfl) (Nat.le_of_ble_eq_true rfl) (by decide) ⟨by unfold isK; rw [if_neg (fun z => z.1 c5)], rfl⟩
  · refine j_iload_n (q := 9) hO dX10_isKind_8 rfl rfl ?_
    refine j_if_lt (tgt := 21) (q := 12) hO dX10_isKind_9 rfl (by decide) (fun c9 => ?_) (fun c9 => ?_)
    · refine j_iconst (v := 0) (q := 22) hO dX10_isKind_21 rfl (by decide) ?_
      exact j_zret hM dX10_isKind_22 (Nat.le_of_ble_eq_true rfl) (Nat.le_of_ble_eq_true rfl) (by decide) ⟨by unfold isK; rw [if_neg (fun z => z.2.1 c9)], rfl⟩
    · refine j_iload_n (q := 13) hO dX10_isKind_12 rfl rfl ?_
      refine j_iconst (v := 5) (q := 14) hO dX10_isKind_13 rfl (by decide) ?_
      refine j_icmp_ge (tgt := 21) (q := 17) hO dX10_isKind_14 rfl (by decide) (fun c14 => ?_) (fun c14 => ?_)
      · refine j_iconst (v := 0) (q := 22) hO dX10_isKind_21 rfl (by decide) ?_
        exact j_zret hM dX10_isKind_22 (Nat.le_of_ble_eq_true rfl) (Nat.le_of_ble_eq_true rfl) (by decide) ⟨by unfold isK; rw [if_neg (fun z => z.2.2 c14)], rfl⟩
      · refine j_iconst (v := 1) (q := 18) hO dX10_isKind_17 rfl (by decide) ?_
        refine j_goto (tgt := 22) hO dX10_isKind_18 (by decide) ?_
        exact j_zret hM dX10_isKind_22 (Nat.le_of_ble_eq_true rfl) (Nat.le_of_ble_eq_true rfl) (by decide) ⟨by unfold isK; rw [if_pos ⟨c5, c9, c14⟩], rfl⟩
set_option maxHeartbeats 4000000 in
set_option maxRecDepth 100000 in
theorem c_10_out (l : Launch) (S : St) (α : Al) (nb : Nat) (b kd : Int32) (hm : MSh S) (hnb : aI α 0 1 = nI nb) (hb6 : nb ≤ 6) : Ct l yX10_out cX10_out 3 (some .long) (rm 2 0 0 43) [.ref (sA S 10 0), .int b, .int kd] (wr S α) (fun r S' => r = some (.long (outA α b kd)) ∧ S' = wr S α) := by
  refine Ct.of (by decide) (Nat.le_of_ble_eq_true rfl) (fun X hM => ?_)
  have hO := hM.1
  obtain rfl := hM.l
  show Jg X 0 0 (wr S α) 0 [(0, .ref (sA S 10 0)), (1, .int b), (2, .int kd)] []
  refine j_aload_n (q := 1) hO dX10_out_0 rfl rfl ?_
  refine j_iload_n (q := 2) hO dX10_out_1 rfl rfl ?_
  refine j_iload_n (q := 3) hO dX10_out_2 rfl rfl ?_
  refine j_callV (x := 10) (q := 6) hO (c_10_isKind (lx X) S _ _ _ hm) M_10_isKind mw_746 CK_10 rfl hm.1 rfl rfl rfl (by unfold roomy; rw [hM.R]; exact ⟨⟨Nat.le_of_ble_eq_true rfl, Nat.le_of_ble_eq_true rfl⟩, ⟨Nat.le_of_ble_eq_true rfl, Nat.le_of_ble_eq_true rfl⟩, Nat.le_of_ble_eq_true rfl⟩) dX10_out_3 rfl (fun v_3 S_3 hp_3 => ?_)
  obtain ⟨rfl, rfl⟩ := hp_3
  refine j_if_eq (tgt := 23) (q := 9) hO dX10_out_6 rfl (by decide) (fun c6 => ?_) (fun c6 => ?_)
  · refine j_ldc2 (q := 26) hO dX10_out_23 rfl mw_750 ?_
    exact j_lret hM dX10_out_26 (Nat.le_of_ble_eq_true rfl) (Nat.le_of_ble_eq_true rfl) ⟨by unfold outA; rw [if_pos c6], rfl⟩
  · obtain ⟨q1, q2, q3⟩ := isK_in c6
    obtain ⟨bb, hbb, rfl⟩ := iB_in hnb hb6 q1
    obtain ⟨kk, hkk, rfl⟩ := kd_in q2 q3
    refine j_aload_n (q := 10) hO dX10_out_9 rfl rfl ?_
    refine m_getA (j := 41) (x := 51) (q := 13) hO hm dX10_out_10 rfl mw_539 (by decide) rfl rfl ?_
    refine j_iconst (v := 5) (q := 14) hO dX10_out_13 rfl (by decide) ?_
    refine j_iload_n (q := 15) hO dX10_out_14 rfl rfl ?_
    refine j_imul (q := 16) hO dX10_out_15 rfl ?_
    refine j_iload_n (q := 17) hO dX10_out_16 rfl rfl ?_
    refine j_iadd (q := 18) hO dX10_out_17 rfl ?_
    refine m_iald (x := 51) (a := 32) (q := 19) hO hm MK_51 dX10_out_18 rfl rfl (j := 5 * bb + kk) (ix5 bb kk) (by omega) ?_
    refine j_i2l (q := 20) hO dX10_out_19 rfl ?_
    refine j_goto (tgt := 26) hO dX10_out_20 (by decide) ?_
    exact j_lret hM dX10_out_26 (Nat.le_of_ble_eq_true rfl) (Nat.le_of_ble_eq_true rfl) ⟨by unfold outA; rw [if_neg c6, nn_nI (by omega), nn_nI (by omega)], rfl⟩
set_option maxHeartbeats 4000000 in
set_option maxRecDepth 100000 in
theorem c_10_lost (l : Launch) (S : St) (α : Al) (x : Int32) (hm : MSh S) : Ct l yX10_lost cX10_lost 2 (some .long) (rm 0 0 0 0) [.ref (sA S 10 0), .int x] (wr S α) (fun r S' => r = some (.long (lostA α x)) ∧ S' = wr S α) := by
  refine Ct.of (by decide) (Nat.le_of_ble_eq_true rfl) (fun X hM => ?_)
  have hO := hM.1
  obtain rfl := hM.l
  show Jg X 0 0 (wr S α) 0 [(0, .ref (sA S 10 0)), (1, .int x)] []
  refine j_iload_n (q := 1) hO dX10_lost_0 rfl rfl ?_
  refine j_if_lt (tgt := 18) (q := 4) hO dX10_lost_1 rfl (by decide) (fun c1 => ?_) (fun c1 => ?_)
  · refine j_ldc2 (q := 21) hO dX10_lost_18 rfl mw_750 ?_
    exact j_lret hM dX10_lost_21 (Nat.le_of_ble_eq_true rfl) (Nat.le_of_ble_eq_true rfl) ⟨by unfold lostA; rw [if_neg (fun z => z.1 c1)], rfl⟩
  · refine j_iload_n (q := 5) hO dX10_lost_4 rfl rfl ?_
    refine j_iconst (v := 4) (q := 6) hO dX10_lost_5 rfl (by decide) ?_
    refine j_icmp_ge (tgt := 18) (q := 9) hO dX10_lost_6 rfl (by decide) (fun c6 => ?_) (fun c6 => ?_)
    · refine j_ldc2 (q := 21) hO dX10_lost_18 rfl mw_750 ?_
      exact j_lret hM dX10_lost_21 (Nat.le_of_ble_eq_true rfl) (Nat.le_of_ble_eq_true rfl) ⟨by unfold lostA; rw [if_neg (fun z => z.2 c6)], rfl⟩
    · obtain ⟨cc, hcc, rfl⟩ := w_in c1 c6
      refine j_aload_n (q := 10) hO dX10_lost_9 rfl rfl ?_
      refine m_getA (j := 40) (x := 50) (q := 13) hO hm dX10_lost_10 rfl mw_538 (by decide) rfl rfl ?_
      refine j_iload_n (q := 14) hO dX10_lost_13 rfl rfl ?_
      refine m_lald (x := 50) (a := 31) (q := 15) hO hm MK_50 dX10_lost_14 rfl rfl (j := cc) rfl (by omega) ?_
      refine j_goto (tgt := 21) hO dX10_lost_15 (by decide) ?_
      exact j_lret hM dX10_lost_21 (Nat.le_of_ble_eq_true rfl) (Nat.le_of_ble_eq_true rfl) ⟨by unfold lostA; rw [if_pos ⟨c1, c6⟩, nn_nI (by omega)], rfl⟩
set_option maxHeartbeats 4000000 in
set_option maxRecDepth 100000 in
theorem c_10_inside (l : Launch) (S : St) (α : Al) (np : Nat) (hm : MSh S) (hnp : aI α 0 26 = nI np) (hn60 : np ≤ 60) : Ct l yX10_inside cX10_inside 1 (some .long) (rm 1 0 0 23) [.ref (sA S 10 0)] (wr S α) (fun r S' => r = some (.long (inA α np)) ∧ S' = wr S α) := by
  refine Ct.of (by decide) (Nat.le_of_ble_eq_true rfl) (fun X hM => ?_)
  have hO := hM.1
  obtain rfl := hM.l
  show Jg X 0 0 (wr S α) 0 [(0, .ref (sA S 10 0))] []
  refine j_aload_n (q := 1) hO dX10_inside_0 rfl rfl ?_
  refine j_iconst (v := 1) (q := 2) hO dX10_inside_1 rfl (by decide) ?_
  refine j_callV (x := 10) (q := 5) hO (c_10_count (lx X) S _ np 1 hm hnp hn60) M_10_count mw_755 CK_10 rfl hm.1 rfl rfl rfl (by unfold roomy; rw [hM.R]; exact ⟨⟨Nat.le_of_ble_eq_true rfl, Nat.le_of_ble_eq_true rfl⟩, ⟨Nat.le_of_ble_eq_true rfl, Nat.le_of_ble_eq_true rfl⟩, Nat.le_of_ble_eq_true rfl⟩) dX10_inside_2 rfl (fun v_2 S_2 hp_2 => ?_)
  obtain ⟨rfl, rfl⟩ := hp_2
  refine j_aload_n (q := 6) hO dX10_inside_5 rfl rfl ?_
  refine j_iconst (v := 2) (q := 7) hO dX10_inside_6 rfl (by decide) ?_
  refine j_callV (x := 10) (q := 10) hO (c_10_count (lx X) S _ np 2 hm hnp hn60) M_10_count mw_755 CK_10 rfl hm.1 rfl rfl rfl (by unfold roomy; rw [hM.R]; exact ⟨⟨Nat.le_of_ble_eq_true rfl, Nat.le_of_ble_eq_true rfl⟩, ⟨Nat.le_of_ble_eq_true rfl, Nat.le_of_ble_eq_true rfl⟩, Nat.le_of_ble_eq_true rfl⟩) dX10_inside_7 rfl (fun v_7 S_7 hp_7 => ?_)
  obtain ⟨rfl, rfl⟩ := hp_7
  refine j_iadd (q := 11) hO dX10_inside_10 rfl ?_
  refine j_i2l (q := 12) hO dX10_inside_11 rfl ?_
  exact j_lret hM dX10_inside_12 (Nat.le_of_ble_eq_true rfl) (Nat.le_of_ble_eq_true rfl) ⟨rfl, rfl⟩
set_option maxHeartbeats 4000000 in
set_option maxRecDepth 100000 in
theorem c_10_interval (l : Launch) (S : St) (α : Al) (nb : Nat) (b kd e : Int32) (hm : MSh S) (hnb : aI α 0 1 = nI nb) (hb6 : nb ≤ 6) : Ct l yX10_interval cX10_interval 4 (some .double) (rm 2 0 0 43) [.ref (sA S 10 0), .int b, .int kd, .int e] (wr S α) (fun r S' => r = some (.double (intA α b kd e)) ∧ S' = wr S α) := by
  refine Ct.of (by decide) (Nat.le_of_ble_eq_true rfl) (fun X hM => ?_)
  have hO := hM.1
  obtain rfl := hM.l
  show Jg X 0 0 (wr S α) 0 [(0, .ref (sA S 10 0)), (1, .int b), (2, .int kd), (3, .int e)] []
  refine j_aload_n (q := 1) hO dX10_interval_0 rfl rfl ?_
  refine j_iload_n (q := 2) hO dX10_interval_1 rfl rfl ?_
  refine j_iload_n (q := 3) hO dX10_interval_2 rfl rfl ?_
  refine j_callV (x := 10) (q := 6) hO (c_10_isKind (lx X) S _ _ _ hm) M_10_isKind mw_746 CK_10 rfl hm.1 rfl rfl rfl (by unfold roomy; rw [hM.R]; exact ⟨⟨Nat.le_of_ble_eq_true rfl, Nat.le_of_ble_eq_true rfl⟩, ⟨Nat.le_of_ble_eq_true rfl, Nat.le_of_ble_eq_true rfl⟩, Nat.le_of_ble_eq_true rfl⟩) dX10_interval_3 rfl (fun v_3 S_3 hp_3 => ?_)
  obtain ⟨rfl, rfl⟩ := hp_3
  refine j_if_eq (tgt := 32) (q := 9) hO dX10_interval_6 rfl (by decide) (fun c6 => ?_) (fun c6 => ?_)
  · refine j_ldc2d (q := 35) hO dX10_interval_32 rfl mw_771 ?_
    exact j_dret hM dX10_interval_35 (Nat.le_of_ble_eq_true rfl) (Nat.le_of_ble_eq_true rfl) ⟨by unfold intA; rw [if_neg (fun z => z.1 c6)], rfl⟩
  · refine j_iload_n (q := 10) hO dX10_interval_9 rfl rfl ?_
    refine j_if_lt (tgt := 32) (q := 13) hO dX10_interval_10 rfl (by decide) (fun c10 => ?_) (fun c10 => ?_)
    · refine j_ldc2d (q := 35) hO dX10_interval_32 rfl mw_771 ?_
      exact j_dret hM dX10_interval_35 (Nat.le_of_ble_eq_true rfl) (Nat.le_of_ble_eq_true rfl) ⟨by unfold intA; rw [if_neg (fun z => z.2.1 c10)], rfl⟩
    · refine j_iload_n (q := 14) hO dX10_interval_13 rfl rfl ?_
      refine j_iconst (v := 1) (q := 15) hO dX10_interval_14 rfl (by decide) ?_
      refine j_icmp_gt (tgt := 32) (q := 18) hO dX10_interval_15 rfl (by decide) (fun c15 => ?_) (fun c15 => ?_)
      · refine j_ldc2d (q := 35) hO dX10_interval_32 rfl mw_771 ?_
        exact j_dret hM dX10_interval_35 (Nat.le_of_ble_eq_true rfl) (Nat.le_of_ble_eq_true rfl) ⟨by unfold intA; rw [if_neg (fun z => z.2.2.1 c15)], rfl⟩
      · obtain ⟨q1, q2, q3⟩ := isK_in c6
        obtain ⟨bb, hbb, rfl⟩ := iB_in hnb hb6 q1
        obtain ⟨kk, hkk, rfl⟩ := kd_in q2 q3
        refine j_aload_n (q := 19) hO dX10_interval_18 rfl rfl ?_
        refine m_getA (j := 41) (x := 51) (q := 22) hO hm dX10_interval_19 rfl mw_539 (by decide) rfl rfl ?_
        refine j_iconst (v := 5) (q := 23) hO dX10_interval_22 rfl (by decide) ?_
        refine j_iload_n (q := 24) hO dX10_interval_23 rfl rfl ?_
        refine j_imul (q := 25) hO dX10_interval_24 rfl ?_
        refine j_iload_n (q := 26) hO dX10_interval_25 rfl rfl ?_
        refine j_iadd (q := 27) hO dX10_interval_26 rfl ?_
        refine m_iald (x := 51) (a := 32) (q := 28) hO hm MK_51 dX10_interval_27 rfl rfl (j := 5 * bb + kk) (ix5 bb kk) (by omega) ?_
        refine j_iconst (v := 2) (q := 29) hO dX10_interval_28 rfl (by decide) ?_
        refine j_icmp_ge (tgt := 36) (q := 32) hO dX10_interval_29 rfl (by decide) (fun c29 => ?_) (fun c29 => ?_)
        · refine j_iload_n (q := 37) hO dX10_interval_36 rfl rfl ?_
          refine j_if_ne (tgt := 53) (q := 40) hO dX10_interval_37 rfl (by decide) (fun c37 => ?_) (fun c37 => ?_)
          · refine j_aload_n (q := 54) hO dX10_interval_53 rfl rfl ?_
            refine m_getA (j := 44) (x := 54) (q := 57) hO hm dX10_interval_54 rfl mw_542 (by decide) rfl rfl ?_
            refine j_iconst (v := 5) (q := 58) hO dX10_interval_57 rfl (by decide) ?_
            refine j_iload_n (q := 59) hO dX10_interval_58 rfl rfl ?_
            refine j_imul (q := 60) hO dX10_interval_59 rfl ?_
            refine j_iload_n (q := 61) hO dX10_interval_60 rfl rfl ?_
            refine j_iadd (q := 62) hO dX10_interval_61 rfl ?_
            refine m_iald (x := 54) (a := 35) (q := 63) hO hm MK_54 dX10_interval_62 rfl rfl (j := 5 * bb + kk) (ix5 bb kk) (by omega) ?_
            refine j_i2d (q := 64) hO dX10_interval_63 rfl ?_
            refine j_ldc2d (q := 67) hO dX10_interval_64 rfl mw_676 ?_
            refine j_ddiv (q := 68) hO dX10_interval_67 rfl (n64_of (ddiv_ok (i2d_ok _) (dNz_of (by decide +kernel)))) ?_
            exact j_dret hM dX10_interval_68 (Nat.le_of_ble_eq_true rfl) (Nat.le_of_ble_eq_true rfl) ⟨by unfold intA; rw [nn_nI (by omega), nn_nI (by omega), if_pos ⟨c6, c10, c15, c29⟩, if_neg c37], rfl⟩
          · refine j_aload_n (q := 41) hO dX10_interval_40 rfl rfl ?_
            refine m_getA (j := 43) (x := 53) (q := 44) hO hm dX10_interval_41 rfl mw_541 (by decide) rfl rfl ?_
            refine j_iconst (v := 5) (q := 45) hO dX10_interval_44 rfl (by decide) ?_
            refine j_iload_n (q := 46) hO dX10_interval_45 rfl rfl ?_
            refine j_imul (q := 47) hO dX10_interval_46 rfl ?_
            refine j_iload_n (q := 48) hO dX10_interval_47 rfl rfl ?_
            refine j_iadd (q := 49) hO dX10_interval_48 rfl ?_
            refine m_iald (x := 53) (a := 34) (q := 50) hO hm MK_53 dX10_interval_49 rfl rfl (j := 5 * bb + kk) (ix5 bb kk) (by omega) ?_
            refine j_goto (tgt := 63) hO dX10_interval_50 (by decide) ?_
            refine j_i2d (q := 64) hO dX10_interval_63 rfl ?_
            refine j_ldc2d (q := 67) hO dX10_interval_64 rfl mw_676 ?_
            refine j_ddiv (q := 68) hO dX10_interval_67 rfl (n64_of (ddiv_ok (i2d_ok _) (dNz_of (by decide +kernel)))) ?_
            exact j_dret hM dX10_interval_68 (Nat.le_of_ble_eq_true rfl) (Nat.le_of_ble_eq_true rfl) ⟨by unfold intA; rw [nn_nI (by omega), nn_nI (by omega), if_pos ⟨c6, c10, c15, c29⟩, if_pos c37], rfl⟩
        · refine j_ldc2d (q := 35) hO dX10_interval_32 rfl mw_771 ?_
          exact j_dret hM dX10_interval_35 (Nat.le_of_ble_eq_true rfl) (Nat.le_of_ble_eq_true rfl) ⟨by unfold intA; rw [nn_nI (by omega), nn_nI (by omega), if_neg (fun z => c29 z.2.2.2)], rfl⟩
set_option maxHeartbeats 4000000 in
set_option maxRecDepth 100000 in
theorem c_10_pieceKind (l : Launch) (S : St) (α : Al) (np : Nat) (x : Int64) (hm : MSh S) (hnp : aI α 0 26 = nI np) (hn60 : np ≤ 60) : Ct l yX10_pieceKind cX10_pieceKind 3 (some .int) (rm 0 0 0 0) [.ref (sA S 10 0), .long x] (wr S α) (fun r S' => r = some (.int (pkA α x)) ∧ S' = wr S α) := by
  refine Ct.of (by decide) (Nat.le_of_ble_eq_true rfl) (fun X hM => ?_)
  have hO := hM.1
  obtain rfl := hM.l
  show Jg X 0 0 (wr S α) 0 [(0, .ref (sA S 10 0)), (1, .long x)] []
  refine j_lload_n (q := 1) hO dX10_pieceKind_0 rfl rfl ?_
  refine j_lconst (v := 0) (q := 2) hO dX10_pieceKind_1 rfl (by decide) ?_
  refine j_lcmp (q := 3) hO dX10_pieceKind_2 rfl ?_
  refine j_if_lt (tgt := 26) (q := 6) hO dX10_pieceKind_3 rfl (by decide) (fun c3 => ?_) (fun c3 => ?_)
  · refine j_iconst (v := (-1)) (q := 27) hO dX10_pieceKind_26 rfl (by decide) ?_
    exact j_iret hM dX10_pieceKind_27 (Nat.le_of_ble_eq_true rfl) (Nat.le_of_ble_eq_true rfl) ⟨by unfold pkA; rw [if_neg (fun z => z.1 c3)], rfl⟩
  · refine j_lload_n (q := 7) hO dX10_pieceKind_6 rfl rfl ?_
    refine j_aload_n (q := 8) hO dX10_pieceKind_7 rfl rfl ?_
    refine m_getI (j := 26) (q := 11) hO hm dX10_pieceKind_8 rfl mw_524 (by decide) rfl ?_
    refine j_i2l (q := 12) hO dX10_pieceKind_11 rfl ?_
    refine j_lcmp (q := 13) hO dX10_pieceKind_12 rfl ?_
    refine j_if_ge (tgt := 26) (q := 16) hO dX10_pieceKind_13 rfl (by decide) (fun c13 => ?_) (fun c13 => ?_)
    · refine j_iconst (v := (-1)) (q := 27) hO dX10_pieceKind_26 rfl (by decide) ?_
      exact j_iret hM dX10_pieceKind_27 (Nat.le_of_ble_eq_true rfl) (Nat.le_of_ble_eq_true rfl) ⟨by unfold pkA; rw [if_neg (fun z => z.2 c13)], rfl⟩
    · obtain ⟨jj, hjj, rfl⟩ := pk_in2 hnp hn60 c3 c13
      refine j_aload_n (q := 17) hO dX10_pieceKind_16 rfl rfl ?_
      refine m_getA (j := 27) (x := 40) (q := 20) hO hm dX10_pieceKind_17 rfl mw_525 (by decide) rfl rfl ?_
      refine j_lload_n (q := 21) hO dX10_pieceKind_20 rfl rfl ?_
      refine j_l2i (q := 22) hO dX10_pieceKind_21 rfl ?_
      refine m_iald (x := 40) (a := 21) (q := 23) hO hm MK_40 dX10_pieceKind_22 rfl rfl (j := jj) (lN_i jj) (by omega) ?_
      refine j_goto (tgt := 27) hO dX10_pieceKind_23 (by decide) ?_
      exact j_iret hM dX10_pieceKind_27 (Nat.le_of_ble_eq_true rfl) (Nat.le_of_ble_eq_true rfl) ⟨by unfold pkA; rw [if_pos ⟨c3, c13⟩, lN_i, nn_nI (by omega)], rfl⟩
end
section
set_option maxHeartbeats 4000000 in
set_option maxRecDepth 100000 in
theorem c_10_same (l : Launch) (S : St) (α : Al) (np : Nat) (hm : MSh S) (hnp : aI α 0 26 = nI np) (hn60 : np ≤ 60) : Ct l yX10_same cX10_same 3 (some .boolean) (rm 2 0 0 43) [.ref (sA S 10 0)] (wr S α) (fun r S' => r = some (.int (sameA α np)) ∧ S' = wr S α) := by
  refine Ct.of (by decide) (Nat.le_of_ble_eq_true rfl) (fun X hM => ?_)
  have hO := hM.1
  obtain rfl := hM.l
  show Jg X 0 0 (wr S α) 0 [(0, .ref (sA S 10 0))] []
  have loop : ∀ m h, h + m = np → Jg X 0 0 (wr S α) 4 [(0, .ref (sA S 10 0)), (1, .int (nI (enF α h))), (2, .int (nI h))] [] := by
    intro m
    induction m with
    | zero =>
      intro h hz
      obtain rfl : h = np := by omega
      refine j_iload_n (q := 5) hO dX10_same_4 rfl rfl ?_
      refine j_aload_n (q := 6) hO dX10_same_5 rfl rfl ?_
      refine m_getI (j := 26) (q := 9) hO hm dX10_same_6 rfl mw_524 (by decide) rfl ?_
      refine j_icmp_ge (tgt := 39) (q := 12) hO dX10_same_9 rfl (by decide) (fun ct => ?_) (fun ct => ?_)
      · refine j_iload_n (q := 40) hO dX10_same_39 rfl rfl ?_
        refine j_i2l (q := 41) hO dX10_same_40 rfl ?_
        refine j_aload_n (q := 42) hO dX10_same_41 rfl rfl ?_
        refine j_callV (x := 10) (q := 45) hO (c_10_inside (lx X) S _ _ hm hnp hn60) M_10_inside mw_776 CK_10 rfl hm.1 rfl rfl rfl (by unfold roomy; rw [hM.R]; exact ⟨⟨Nat.le_of_ble_eq_true rfl, Nat.le_of_ble_eq_true rfl⟩, ⟨Nat.le_of_ble_eq_true rfl, Nat.le_of_ble_eq_true rfl⟩, Nat.le_of_ble_eq_true rfl⟩) dX10_same_42 rfl (fun v_42 S_42 hp_42 => ?_)
        obtain ⟨hv, rfl⟩ := hp_42
        obtain ⟨zi, hzi⟩ : ∃ z, z = inA α h := ⟨_, rfl⟩
        rw [← hzi] at hv
        subst hv
        refine j_aload_n (q := 46) hO dX10_same_45 rfl rfl ?_
        refine j_iconst (v := 3) (q := 47) hO dX10_same_46 rfl (by decide) ?_
        refine j_callV (x := 10) (q := 50) hO (c_10_count (lx X) S _ _ 3 hm hnp hn60) M_10_count mw_755 CK_10 rfl hm.1 rfl rfl rfl (by unfold roomy; rw [hM.R]; exact ⟨⟨Nat.le_of_ble_eq_true rfl, Nat.le_of_ble_eq_true rfl⟩, ⟨Nat.le_of_ble_eq_true rfl, Nat.le_of_ble_eq_true rfl⟩, Nat.le_of_ble_eq_true rfl⟩) dX10_same_47 rfl (fun v_47 S_47 hp_47 => ?_)
        obtain ⟨hv, rfl⟩ := hp_47
        obtain ⟨z3, hz3⟩ : ∃ z, z = nI (ctF α 3 h) := ⟨_, rfl⟩
        rw [← hz3] at hv
        subst hv
        refine j_i2l (q := 51) hO dX10_same_50 rfl ?_
        refine j_ladd (q := 52) hO dX10_same_51 rfl ?_
        refine j_aload_n (q := 53) hO dX10_same_52 rfl rfl ?_
        refine j_iconst (v := 4) (q := 54) hO dX10_same_53 rfl (by decide) ?_
        refine j_callV (x := 10) (q := 57) hO (c_10_count (lx X) S _ _ 4 hm hnp hn60) M_10_count mw_755 CK_10 rfl hm.1 rfl rfl rfl (by unfold roomy; rw [hM.R]; exact ⟨⟨Nat.le_of_ble_eq_true rfl, Nat.le_of_ble_eq_true rfl⟩, ⟨Nat.le_of_ble_eq_true rfl, Nat.le_of_ble_eq_true rfl⟩, Nat.le_of_ble_eq_true rfl⟩) dX10_same_54 rfl (fun v_54 S_54 hp_54 => ?_)
        obtain ⟨hv, rfl⟩ := hp_54
        obtain ⟨z4, hz4⟩ : ∃ z, z = nI (ctF α 4 h) := ⟨_, rfl⟩
        rw [← hz4] at hv
        subst hv
        refine j_i2l (q := 58) hO dX10_same_57 rfl ?_
        refine j_ladd (q := 59) hO dX10_same_58 rfl ?_
        refine j_aload_n (q := 60) hO dX10_same_59 rfl rfl ?_
        refine j_iconst (v := 5) (q := 61) hO dX10_same_60 rfl (by decide) ?_
        refine j_callV (x := 10) (q := 64) hO (c_10_count (lx X) S _ _ 5 hm hnp hn60) M_10_count mw_755 CK_10 rfl hm.1 rfl rfl rfl (by unfold roomy; rw [hM.R]; exact ⟨⟨Nat.le_of_ble_eq_true rfl, Nat.le_of_ble_eq_true rfl⟩, ⟨Nat.le_of_ble_eq_true rfl, Nat.le_of_ble_eq_true rfl⟩, Nat.le_of_ble_eq_true rfl⟩) dX10_same_61 rfl (fun v_61 S_61 hp_61 => ?_)
        obtain ⟨hv, rfl⟩ := hp_61
        obtain ⟨z5, hz5⟩ : ∃ z, z = nI (ctF α 5 h) := ⟨_, rfl⟩
        rw [← hz5] at hv
        subst hv
        refine j_i2l (q := 65) hO dX10_same_64 rfl ?_
        refine j_ladd (q := 66) hO dX10_same_65 rfl ?_
        refine j_lcmp (q := 67) hO dX10_same_66 rfl ?_
        refine j_if_ne (tgt := 74) (q := 70) hO dX10_same_67 rfl (by decide) (fun c67 => ?_) (fun c67 => ?_)
        · refine j_iconst (v := 0) (q := 75) hO dX10_same_74 rfl (by decide) ?_
          exact j_zret hM dX10_same_75 (Nat.le_of_ble_eq_true rfl) (Nat.le_of_ble_eq_true rfl) (by decide) ⟨by unfold sameA; rw [hz3, hz4, hz5, hzi] at c67; rw [if_neg c67], rfl⟩
        · refine j_iconst (v := 1) (q := 71) hO dX10_same_70 rfl (by decide) ?_
          refine j_goto (tgt := 75) hO dX10_same_71 (by decide) ?_
          exact j_zret hM dX10_same_75 (Nat.le_of_ble_eq_true rfl) (Nat.le_of_ble_eq_true rfl) (by decide) ⟨by unfold sameA; rw [hz3, hz4, hz5, hzi] at c67; rw [if_pos c67], rfl⟩
      · exact absurd (by first | (rw [hnp]; exact nI_le (Nat.le_refl _) (by omega)) | exact Int32.le_refl _) ct
    | succ m ih =>
      intro h hz
      refine j_iload_n (q := 5) hO dX10_same_4 rfl rfl ?_
      refine j_aload_n (q := 6) hO dX10_same_5 rfl rfl ?_
      refine m_getI (j := 26) (q := 9) hO hm dX10_same_6 rfl mw_524 (by decide) rfl ?_
      refine j_icmp_ge (tgt := 39) (q := 12) hO dX10_same_9 rfl (by decide) (fun ct => ?_) (fun ct => ?_)
      · exact absurd ct (by first | (rw [hnp]; exact nI_ge (by omega) (by omega)) | exact nI_ge (by omega) (by omega))
      · refine j_iload_n (q := 13) hO dX10_same_12 rfl rfl ?_
        refine j_aload_n (q := 14) hO dX10_same_13 rfl rfl ?_
        refine m_getA (j := 29) (x := 42) (q := 17) hO hm dX10_same_14 rfl mw_527 (by decide) rfl rfl ?_
        refine j_iload_n (q := 18) hO dX10_same_17 rfl rfl ?_
        refine m_iald (x := 42) (a := 23) (q := 19) hO hm MK_42 dX10_same_18 rfl rfl rfl (by omega) ?_
        refine j_aload_n (q := 20) hO dX10_same_19 rfl rfl ?_
        refine m_getI (j := 35) (q := 23) hO hm dX10_same_20 rfl mw_533 (by decide) rfl ?_
        refine j_icmp_gt (tgt := 30) (q := 26) hO dX10_same_23 rfl (by decide) (fun c23 => ?_) (fun c23 => ?_)
        · refine j_iconst (v := 0) (q := 31) hO dX10_same_30 rfl (by decide) ?_
          refine j_iadd (q := 32) hO dX10_same_31 rfl ?_
          refine j_istore_n (q := 33) hO dX10_same_32 rfl (by rw [hM.nL]; decide) rfl ?_
          refine j_iinc (v := nI (h + 1)) (q := 36) hO dX10_same_33 rfl rfl (nI_S h) (by rw [hM.nL]; decide) rfl ?_
          refine j_goto (tgt := 4) hO dX10_same_36 (by decide) ?_
          refine Jg.lv (lv' := [(0, .ref (sA S 10 0)), (1, .int (nI (enF α (h + 1)))), (2, .int (nI (h + 1)))]) ⟨rfl, (congrArg (fun z => some (Value.int z)) (en_s0 c23)), rfl, trivial⟩ ?_
          exact ih (h + 1) (by omega)
        · refine j_iconst (v := 1) (q := 27) hO dX10_same_26 rfl (by decide) ?_
          refine j_goto (tgt := 31) hO dX10_same_27 (by decide) ?_
          refine j_iadd (q := 32) hO dX10_same_31 rfl ?_
          refine j_istore_n (q := 33) hO dX10_same_32 rfl (by rw [hM.nL]; decide) rfl ?_
          refine j_iinc (v := nI (h + 1)) (q := 36) hO dX10_same_33 rfl rfl (nI_S h) (by rw [hM.nL]; decide) rfl ?_
          refine j_goto (tgt := 4) hO dX10_same_36 (by decide) ?_
          refine Jg.lv (lv' := [(0, .ref (sA S 10 0)), (1, .int (nI (enF α (h + 1)))), (2, .int (nI (h + 1)))]) ⟨rfl, (congrArg (fun z => some (Value.int z)) (en_s1 c23)), rfl, trivial⟩ ?_
          exact ih (h + 1) (by omega)
  refine j_iconst (v := 0) (q := 1) hO dX10_same_0 rfl (by decide) ?_
  refine j_istore_n (q := 2) hO dX10_same_1 rfl (by rw [hM.nL]; decide) rfl ?_
  refine j_iconst (v := 0) (q := 3) hO dX10_same_2 rfl (by decide) ?_
  refine j_istore_n (q := 4) hO dX10_same_3 rfl (by rw [hM.nL]; decide) rfl ?_
  refine Jg.lv (lv' := [(0, .ref (sA S 10 0)), (1, .int (nI (enF α 0))), (2, .int (nI 0))]) ⟨rfl, rfl, rfl, trivial⟩ ?_
  exact loop np 0 (by omega)
end
section
/-! THE CLASS's cells, and the abstract state that they stand for -/
def dI (k j : Nat) : Bool := match k with
  | 0 => Nat.beq j 9
  | 3 => Nat.beq j 1
  | 4 => true
  | 5 => Nat.beq j 3 || Nat.beq j 4
  | 6 => Nat.beq j 6 || Nat.beq j 7
  | 8 => !(Nat.beq j 0)
  | 9 => Nat.beq j 16
  | 18 => true
  | _ => false
/-- S' has the line that S has: only what a run moves may be another -/
def Sc (S S' : St) : Prop := sC S' = sC S ∧ sA S' = sA S ∧ sN S' = sN S ∧ (∀ k i j, dI k j = false → sI S' k i j = sI S k i j) ∧ (∀ k i j, k ≠ 19 → sJ S' k i j = sJ S k i j) ∧ (∀ k i j, ¬ (k = 1 ∧ j = 2) → sD S' k i j = sD S k i j) ∧ ∀ k i j, ¬ (k = 6 ∧ j = 5) → sR S' k i j = sR S k i j
theorem Sc.rf {S : St} : Sc S S := ⟨rfl, rfl, rfl, fun _ _ _ _ => rfl, fun _ _ _ _ => rfl, fun _ _ _ _ => rfl, fun _ _ _ _ => rfl⟩
theorem Sc.tr {S T U : St} (h : Sc S T) (g : Sc T U) : Sc S U := ⟨g.1.trans h.1, g.2.1.trans h.2.1, g.2.2.1.trans h.2.2.1, fun k i j q => (g.2.2.2.1 k i j q).trans (h.2.2.2.1 k i j q), fun k i j q => (g.2.2.2.2.1 k i j q).trans (h.2.2.2.2.1 k i j q), fun k i j q => (g.2.2.2.2.2.1 k i j q).trans (h.2.2.2.2.2.1 k i j q), fun k i j q => (g.2.2.2.2.2.2 k i j q).trans (h.2.2.2.2.2.2 k i j q)⟩
theorem Sc.I {S T : St} {x i j : Nat} {v : Int32} (h : Sc S T) (hd : dI x j = true) : Sc S (pI T x i j v) := h.tr ⟨rfl, rfl, rfl, fun k z w q => u3_ne (fun e => by rw [e.1, e.2.2, hd] at q; cases q), fun _ _ _ _ => rfl, fun _ _ _ _ => rfl, fun _ _ _ _ => rfl⟩
theorem Sc.J {S T : St} {i j : Nat} {v : Int64} (h : Sc S T) : Sc S (pJ T 19 i j v) := h.tr ⟨rfl, rfl, rfl, fun _ _ _ _ => rfl, fun k z w q => u3_ne (fun e => q e.1), fun _ _ _ _ => rfl, fun _ _ _ _ => rfl⟩
theorem Sc.D {S T : St} {i : Nat} {v : UInt64} (h : Sc S T) : Sc S (pD T 1 i 2 v) := h.tr ⟨rfl, rfl, rfl, fun _ _ _ _ => rfl, fun _ _ _ _ => rfl, fun k z w q => u3_ne (fun e => q ⟨e.1, e.2.2⟩), fun _ _ _ _ => rfl⟩
theorem Sc.R {S T : St} {i : Nat} {v : Option Nat} (h : Sc S T) : Sc S (pR T 6 i 5 v) := h.tr ⟨rfl, rfl, rfl, fun _ _ _ _ => rfl, fun _ _ _ _ => rfl, fun _ _ _ _ => rfl, fun k z w q => u3_ne (fun e => q ⟨e.1, e.2.2⟩)⟩
def mk4 (S : St) (I : Nat → Nat → Nat → Int32) (J : Nat → Nat → Nat → Int64) (D : Nat → Nat → Nat → UInt64) (R : Nat → Nat → Nat → Option Nat) : St := (sC S, sA S, sN S, I, J, D, R)
theorem Sc.form {S T : St} (h : Sc S T) : ∃ I J D R, T = mk4 S I J D R := by
  obtain ⟨C, A, N, I, J, D, R⟩ := T
  obtain ⟨h1, h2, h3, -⟩ := h
  refine ⟨I, J, D, R, ?_⟩
  have e1 : C = sC S := h1
  have e2 : A = sA S := h2
  have e3 : N = sN S := h3
  rw [e1, e2, e3]
  rfl
theorem Sc.rds {S T : St} (h : Sc S T) : rd T = rd S := by
  have e1 : (fun a j => sI T (mk a) 0 j) = (fun a j => sI S (mk a) 0 j) := by
    funext a j
    cases a with
    | zero => exact h.2.2.2.1 10 0 j rfl
    | succ a =>
      refine h.2.2.2.1 (a + 20) 0 j ?_
      unfold dI
      split <;> first | (rename_i q; exact absurd q (by omega)) | rfl
  have e2 : (fun a j => sJ T (mk a) 0 j) = (fun a j => sJ S (mk a) 0 j) := by
    funext a j
    cases a with
    | zero => exact h.2.2.2.2.1 10 0 j (by decide)
    | succ a => exact h.2.2.2.2.1 (a + 20) 0 j (by omega)
  have e3 : (fun a j => sD T (mk a) 0 j) = (fun a j => sD S (mk a) 0 j) := by
    funext a j
    cases a with
    | zero => exact h.2.2.2.2.2.1 10 0 j (by omega)
    | succ a => exact h.2.2.2.2.2.1 (a + 20) 0 j (by omega)
  show (_, _, _) = (_, _, _)
  rw [e1, e2, e3]
/-- the class's fixed cells -/
def Sh (S : St) : Prop := (0 < sC S 9 ∧ 1 < sC S 3 ∧ 0 < sC S 8 ∧ 1 < sC S 18 ∧ 0 < sC S 19 ∧ 0 < sC S 11 ∧ 0 < sC S 12 ∧ 0 < sC S 13 ∧ 0 < sC S 14 ∧ 0 < sC S 15 ∧ 0 < sC S 16) ∧
  (sR S 9 0 1 = some 0 ∧ sR S 9 0 2 = some 0 ∧ sR S 9 0 3 = some 0 ∧ sR S 9 0 4 = some 0 ∧ sR S 9 0 5 = some 0 ∧ sR S 9 0 6 = some 0 ∧ sR S 9 0 7 = some 0 ∧ sR S 9 0 8 = some 1 ∧ sR S 9 0 9 = some 0) ∧
  (sR S 3 0 0 = some 0 ∧ sR S 3 1 0 = some 1 ∧ sR S 8 0 0 = some 0) ∧
  (sN S 11 0 = 6 ∧ sN S 12 0 = 8 ∧ sN S 13 0 = 4 ∧ sN S 14 0 = 4 ∧ sN S 15 0 = 4 ∧ sN S 16 0 = 60 ∧ sN S 18 0 = 2000 ∧ sN S 18 1 = 60 ∧ sN S 19 0 = 4)
theorem Sh.sc {S T : St} (h : Sh S) (g : Sc S T) : Sh T := by
  obtain ⟨g1, g2, g3, -, -, -, g7⟩ := g
  obtain ⟨h1, h2, h3, h4⟩ := h
  refine ⟨by rw [g1]; exact h1, ?_, ?_, by rw [g3]; exact h4⟩
  · rw [g7 9 0 1 (by omega), g7 9 0 2 (by omega), g7 9 0 3 (by omega), g7 9 0 4 (by omega), g7 9 0 5 (by omega), g7 9 0 6 (by omega), g7 9 0 7 (by omega), g7 9 0 8 (by omega), g7 9 0 9 (by omega)]
    exact h2
  · rw [g7 3 0 0 (by omega), g7 3 1 0 (by omega), g7 8 0 0 (by omega)]
    exact h3
theorem Sh.c9 {S : St} (h : Sh S) : 0 < sC S 9 := h.1.1
theorem Sh.c3 {S : St} (h : Sh S) : 1 < sC S 3 := h.1.2.1
theorem Sh.c3a {S : St} (h : Sh S) : 0 < sC S 3 := Nat.lt_trans Nat.zero_lt_one h.1.2.1
theorem Sh.c8 {S : St} (h : Sh S) : 0 < sC S 8 := h.1.2.2.1
theorem Sh.c18 {S : St} (h : Sh S) : 1 < sC S 18 := h.1.2.2.2.1
theorem Sh.c18a {S : St} (h : Sh S) : 0 < sC S 18 := Nat.lt_trans Nat.zero_lt_one h.1.2.2.2.1
theorem Sh.c19 {S : St} (h : Sh S) : 0 < sC S 19 := h.1.2.2.2.2.1
theorem Sh.c11 {S : St} (h : Sh S) : 0 < sC S 11 := h.1.2.2.2.2.2.1
theorem Sh.c12 {S : St} (h : Sh S) : 0 < sC S 12 := h.1.2.2.2.2.2.2.1
theorem Sh.c13 {S : St} (h : Sh S) : 0 < sC S 13 := h.1.2.2.2.2.2.2.2.1
theorem Sh.c14 {S : St} (h : Sh S) : 0 < sC S 14 := h.1.2.2.2.2.2.2.2.2.1
theorem Sh.c15 {S : St} (h : Sh S) : 0 < sC S 15 := h.1.2.2.2.2.2.2.2.2.2.1
theorem Sh.c16 {S : St} (h : Sh S) : 0 < sC S 16 := h.1.2.2.2.2.2.2.2.2.2.2
theorem Sh.r1 {S : St} (h : Sh S) : sR S 9 0 1 = some 0 := h.2.1.1
theorem Sh.r2 {S : St} (h : Sh S) : sR S 9 0 2 = some 0 := h.2.1.2.1
theorem Sh.r3 {S : St} (h : Sh S) : sR S 9 0 3 = some 0 := h.2.1.2.2.1
theorem Sh.r4 {S : St} (h : Sh S) : sR S 9 0 4 = some 0 := h.2.1.2.2.2.1
theorem Sh.r5 {S : St} (h : Sh S) : sR S 9 0 5 = some 0 := h.2.1.2.2.2.2.1
theorem Sh.r6 {S : St} (h : Sh S) : sR S 9 0 6 = some 0 := h.2.1.2.2.2.2.2.1
theorem Sh.r7 {S : St} (h : Sh S) : sR S 9 0 7 = some 0 := h.2.1.2.2.2.2.2.2.1
theorem Sh.r8 {S : St} (h : Sh S) : sR S 9 0 8 = some 1 := h.2.1.2.2.2.2.2.2.2.1
theorem Sh.r9 {S : St} (h : Sh S) : sR S 9 0 9 = some 0 := h.2.1.2.2.2.2.2.2.2.2
/-- what a belt's two fields say of where it is joined to -/
def nx (o1 o2 : Option Nat) (v : Int32) (nb nu : Nat) : Prop := (∃ t, v = nI t ∧ t < nb ∧ o1 = some t ∧ o2 = none) ∨ (v = -1 ∧ o1 = none ∧ o2 = none) ∨ ∃ k, v = -2 - nI k ∧ k < nu ∧ o1 = none ∧ o2 = some k
/-- the line in the class's cells -/
def Cs (S : St) (α : Al) (nb nh nu nr nk np : Nat) : Prop := (sC S 0 = nb ∧ sC S 2 = nh ∧ sC S 1 = nu ∧ sC S 5 = nk ∧ sC S 7 = nr ∧ sC S 6 = np ∧ sC S 4 = 5 * nb ∧ sC S 17 = nb) ∧
  (sJ S 9 0 0 = aJ α 0 0 ∧ sI S 9 0 10 = aI α 0 1 ∧ sI S 9 0 11 = aI α 0 9 ∧ sI S 9 0 12 = aI α 0 13 ∧ sI S 9 0 13 = aI α 0 20 ∧ sI S 9 0 14 = aI α 0 16 ∧ sI S 9 0 15 = aI α 0 26) ∧
  (∀ b, b < nb → (sR S 11 0 b = some b ∧ sI S 0 b 0 = nI b ∧ sI S 0 b 1 = aI α 1 b ∧ sD S 0 b 2 = aD α 2 b ∧ sR S 0 b 3 = some b) ∧ nx (sR S 0 b 4) (sR S 0 b 5) (aI α 3 b) nb nu ∧ (sI S 0 b 6 = aI α 4 b ∧ sD S 0 b 7 = aD α 5 b ∧ sI S 0 b 8 = aI α 6 b) ∧ sN S 17 b = 5 ∧ ∀ kd, kd < 5 → sR S 17 b kd = some (5 * b + kd)) ∧
  (∀ h, h < nh → sR S 12 0 h = some h ∧ (∃ b, aI α 8 h = nI b ∧ b < nb ∧ sR S 2 h 0 = some b) ∧ sI S 2 h 1 = aI α 9 h ∧ sD S 2 h 2 = aD α 10 h) ∧
  (∀ u, u < nu → sR S 13 0 u = some u ∧ sI S 1 u 0 = nI u ∧ sD S 1 u 1 = aD α 11 u) ∧
  (∀ k, k < nk → sR S 14 0 k = some k ∧ (∃ b, aI α 16 k = nI b ∧ b < nb ∧ sR S 5 k 0 = some b) ∧ sD S 5 k 1 = aD α 17 k ∧ sD S 5 k 2 = aD α 18 k) ∧
  (∀ r, r < nr → sR S 15 0 r = some r ∧ (∃ b, aI α 13 r = nI b ∧ b < nb ∧ sR S 7 r 0 = some b) ∧ sD S 7 r 1 = aD α 14 r ∧ sD S 7 r 2 = aD α 15 r) ∧
  ∀ j, j < np → sR S 16 0 j = some j ∧ sI S 6 j 0 = nI j ∧ (∃ b, aI α 24 j = nI b ∧ b < nb ∧ sR S 6 j 1 = some b) ∧ sI S 6 j 2 = aI α 23 j ∧ sI S 6 j 3 = aI α 21 j ∧ sD S 6 j 4 = aD α 22 j
theorem Cs.sc {S T : St} {α β : Al} {nb nh nu nr nk np : Nat} (h : Cs S α nb nh nu nr nk np) (g : Sc S T) (s : Sm α β) : Cs T β nb nh nu nr nk np := by
  obtain ⟨g1, g2, g3, g4, g5, g6, g7⟩ := g
  obtain ⟨s1, s2, s3, s4⟩ := s
  obtain ⟨h1, h2, h3, h4, h5, h6, h7, h8⟩ := h
  refine ⟨by rw [g1]; exact h1, ?_, fun b hb => ?_, fun x hx => ?_, fun x hx => ?_, fun x hx => ?_, fun x hx => ?_, fun x hx => ?_⟩
  · rw [g5 9 0 0 (by decide), s3 0 0 (by decide), g4 9 0 10 rfl, g4 9 0 11 rfl, g4 9 0 12 rfl, g4 9 0 13 rfl, g4 9 0 14 rfl, g4 9 0 15 rfl, s2 1 rfl, s2 9 rfl, s2 13 rfl, s2 20 rfl, s2 16 rfl, s2 26 rfl]
    exact h2
  · rw [g7 11 0 b (by omega), g4 0 b 0 rfl, g4 0 b 1 rfl, g6 0 b 2 (by omega), g7 0 b 3 (by omega), g7 0 b 4 (by omega), g7 0 b 5 (by omega), g4 0 b 6 rfl, g6 0 b 7 (by omega), g4 0 b 8 rfl, g3, s1 1 b rfl, s4 2 b (by decide), s1 3 b rfl, s1 4 b rfl, s4 5 b (by decide), s1 6 b rfl]
    obtain ⟨q1, q2, q3, q4, q5⟩ := h3 b hb
    exact ⟨q1, q2, q3, q4, fun kd hk => by rw [g7 17 b kd (by omega)]; exact q5 kd hk⟩
  · rw [g7 12 0 x (by omega), g7 2 x 0 (by omega), g4 2 x 1 rfl, g6 2 x 2 (by omega), s1 8 x rfl, s1 9 x rfl, s4 10 x (by decide)]
    exact h4 x hx
  · rw [g7 13 0 x (by omega), g4 1 x 0 rfl, g6 1 x 1 (by omega), s4 11 x (by decide)]
    exact h5 x hx
  · rw [g7 14 0 x (by omega), g7 5 x 0 (by omega), g6 5 x 1 (by omega), g6 5 x 2 (by omega), s1 16 x rfl, s4 17 x (by decide), s4 18 x (by decide)]
    exact h6 x hx
  · rw [g7 15 0 x (by omega), g7 7 x 0 (by omega), g6 7 x 1 (by omega), g6 7 x 2 (by omega), s1 13 x rfl, s4 14 x (by decide), s4 15 x (by decide)]
    exact h7 x hx
  · rw [g7 16 0 x (by omega), g4 6 x 0 rfl, g7 6 x 1 (by omega), g4 6 x 2 rfl, g4 6 x 3 rfl, g6 6 x 4 (by omega), s1 24 x rfl, s1 23 x rfl, s1 21 x rfl, s4 22 x (by decide)]
    exact h8 x hx
/-- a row of a log -/
def Row (v t0 p0 a0 b0 : Int32) : Prop := ∃ t p a b, t ≤ 10000 ∧ p < 64 ∧ a < 16 ∧ b < 64 ∧ v = nI (t * 65536 + p * 1024 + a * 64 + b) ∧ t0 = nI t ∧ p0 = nI p ∧ a0 = nI a ∧ b0 = nI b
/-- what a run moves, in the class's cells -/
def Cd (S : St) (α : Al) (nb nu nk np : Nat) : Prop := sI S 9 0 16 = aI α 0 35 ∧ (∀ b, b < nb → sI S 0 b 9 = aI α 7 b) ∧ (∀ u, u < nu → sD S 1 u 2 = aD α 12 u) ∧ (∀ k, k < nk → sI S 5 k 3 = aI α 20 k ∧ sI S 5 k 4 = aI α 19 k) ∧
  (∀ j, j < np → (aI α 25 j = 1 → ∃ b, b < nb ∧ aI α 26 j = nI b ∧ sR S 6 j 5 = some b ∧ sI S 6 j 6 = aI α 27 j) ∧ (¬ aI α 25 j = 1 → sR S 6 j 5 = none)) ∧
  (∀ a, a < 5 * nb → sI S 4 a 0 = aI α 32 a ∧ sI S 4 a 1 = aI α 33 a ∧ sI S 4 a 2 = aI α 34 a ∧ sI S 4 a 3 = aI α 35 a) ∧
  (sI S 3 0 1 = aI α 0 36 ∧ sI S 3 1 1 = aI α 0 38) ∧
  (∀ j, j < 2000 → nI j < aI α 0 36 → Row (sI S 18 0 j) (aI α 29 (4 * j)) (aI α 29 (4 * j + 1)) (aI α 29 (4 * j + 2)) (aI α 29 (4 * j + 3))) ∧
  (∀ j, j < 60 → nI j < aI α 0 38 → Row (sI S 18 1 j) (aI α 30 (4 * j)) (aI α 30 (4 * j + 1)) (aI α 30 (4 * j + 2)) (aI α 30 (4 * j + 3))) ∧
  (∀ c, c < 4 → sJ S 19 0 c = aJ α 31 c) ∧
  (sI S 8 0 1 = nI (ctF α 2 np) ∧ sI S 8 0 2 = nI (ctF α 3 np) ∧ sI S 8 0 3 = nI (ctF α 4 np) ∧ aJ α 31 0 + aJ α 31 1 + aJ α 31 2 = lN (ctF α 5 np))
end
section
def pkI (t p a b : Int32) : Int32 := ((t <<< ((16 : Int32) &&& 31) ||| p <<< ((10 : Int32) &&& 31)) ||| a <<< ((6 : Int32) &&& 31)) ||| b
/-- a log's next row -/
def logF (S : St) (i : Nat) (t p a b : Int32) : St := if nI (sN S 18 i) ≤ sI S 3 i 1 then pI S 3 i 1 (sI S 3 i 1 + 1) else pI (pI S 18 i (nn (sI S 3 i 1)) (pkI t p a b)) 3 i 1 (sI S 3 i 1 + 1)
def parF (v w : Int32) : Int32 := if w = 0 then v >>> ((16 : Int32) &&& 31) else if w = 1 then v >>> ((10 : Int32) &&& 31) &&& 63 else if w = 2 then v >>> ((6 : Int32) &&& 31) &&& 15 else if w = 3 then v &&& 63 else -1
def partA (S : St) (i : Nat) (k w : Int32) : Int32 := if ¬ k < 0 ∧ ¬ sI S 3 i 1 ≤ k ∧ k < nI (sN S 18 i) then parF (sI S 18 i (nn k)) w else -1
/-- the gaps of what goes out -/
def outsF (S : St) (a : Nat) (t : Int32) : St :=
  pI (pI (if sI S 4 a 0 = 1 then pI (pI S 4 a 2 (t - sI S 4 a 1)) 4 a 3 (t - sI S 4 a 1) else if sI S 4 a 0 ≤ 1 then S else pI (pI S 4 a 2 (if t - sI S 4 a 1 < sI S 4 a 2 then t - sI S 4 a 1 else sI S 4 a 2)) 4 a 3 (if sI S 4 a 3 < t - sI S 4 a 1 then t - sI S 4 a 1 else sI S 4 a 3)) 4 a 1 t) 4 a 0 (sI S 4 a 0 + 1)
def takeF (S : St) (k : Nat) (t : Int32) : St := pI (pI S 5 k 4 (busyF t (sD S 5 k 1) (sD S 5 k 2) (sI S 5 k 3))) 5 k 3 (sI S 5 k 3 + 1)
def restA (S : St) : Int64 := (sI S 8 0 1 + sI S 8 0 2 + sI S 8 0 3).toInt64 + sJ S 19 0 0 + sJ S 19 0 1 + sJ S 19 0 2
theorem w_tab {w : Int32} (h1 : ¬ w.toInt < 0) (h2 : ¬ (3 : Int) < w.toInt) : w = 0 ∨ w = 1 ∨ w = 2 ∨ w = 3 := by
  have : w.toInt = 0 ∨ w.toInt = 1 ∨ w.toInt = 2 ∨ w.toInt = 3 := by omega
  rcases this with h | h | h | h
  · exact Or.inl (Int32.toInt_inj.mp h)
  · exact Or.inr (Or.inl (Int32.toInt_inj.mp h))
  · exact Or.inr (Or.inr (Or.inl (Int32.toInt_inj.mp h)))
  · exact Or.inr (Or.inr (Or.inr (Int32.toInt_inj.mp h)))
theorem wout {w : Int32} (h : ¬ (w = 0 ∨ w = 1 ∨ w = 2 ∨ w = 3)) : w.toInt < 0 ∨ (3 : Int) < w.toInt := by
  rcases Int.lt_or_le w.toInt 0 with q | q
  · exact Or.inl q
  · rcases Int.lt_or_le 3 w.toInt with q2 | q2
    · exact Or.inr q2
    · exact absurd (w_tab (by omega) (by omega)) h
theorem pI_I {S : St} {x i j k z w : Nat} {v : Int32} (h : ¬ (k = x ∧ z = i ∧ w = j)) : sI (pI S x i j v) k z w = sI S k z w := u3_ne h
theorem pI_s {S : St} {x i j : Nat} {v : Int32} : sI (pI S x i j v) x i j = v := u3_self
theorem out_e1 {S : St} {a : Nat} {t : Int32} : pI (pI (pI (pI S 4 a 2 (t - sI S 4 a 1)) 4 a 3 (t - sI S 4 a 1)) 4 a 1 t) 4 a 0 (sI (pI (pI (pI S 4 a 2 (t - sI S 4 a 1)) 4 a 3 (t - sI S 4 a 1)) 4 a 1 t) 4 a 0 + 1) = pI (pI (pI (pI S 4 a 2 (t - sI S 4 a 1)) 4 a 3 (t - sI S 4 a 1)) 4 a 1 t) 4 a 0 (sI S 4 a 0 + 1) := by
  rw [show sI (pI (pI (pI S 4 a 2 (t - sI S 4 a 1)) 4 a 3 (t - sI S 4 a 1)) 4 a 1 t) 4 a 0 = sI S 4 a 0 from by rw [pI_I (by omega), pI_I (by omega), pI_I (by omega)]]
theorem out_e2 {S : St} {a : Nat} {t : Int32} : pI (pI S 4 a 1 t) 4 a 0 (sI (pI S 4 a 1 t) 4 a 0 + 1) = pI (pI S 4 a 1 t) 4 a 0 (sI S 4 a 0 + 1) := by
  rw [show sI (pI S 4 a 1 t) 4 a 0 = sI S 4 a 0 from pI_I (by omega)]
theorem out_e3 {S : St} {a : Nat} {t u g : Int32} : pI (pI (pI (pI S 4 a 2 u) 4 a 3 (if sI (pI S 4 a 2 u) 4 a 3 < g then g else sI (pI S 4 a 2 u) 4 a 3)) 4 a 1 t) 4 a 0 (sI (pI (pI (pI S 4 a 2 u) 4 a 3 (if sI (pI S 4 a 2 u) 4 a 3 < g then g else sI (pI S 4 a 2 u) 4 a 3)) 4 a 1 t) 4 a 0 + 1) = pI (pI (pI (pI S 4 a 2 u) 4 a 3 (if sI S 4 a 3 < g then g else sI S 4 a 3)) 4 a 1 t) 4 a 0 (sI S 4 a 0 + 1) := by
  rw [show sI (pI S 4 a 2 u) 4 a 3 = sI S 4 a 3 from pI_I (by omega)]
  rw [show sI (pI (pI (pI S 4 a 2 u) 4 a 3 (if sI S 4 a 3 < g then g else sI S 4 a 3)) 4 a 1 t) 4 a 0 = sI S 4 a 0 from by rw [pI_I (by omega), pI_I (by omega), pI_I (by omega)]]
theorem tak_e {S : St} {k : Nat} {u : Int32} : pI (pI S 5 k 4 u) 5 k 3 (sI (pI S 5 k 4 u) 5 k 3 + 1) = pI (pI S 5 k 4 u) 5 k 3 (sI S 5 k 3 + 1) := by
  rw [show sI (pI S 5 k 4 u) 5 k 3 = sI S 5 k 3 from pI_I (by omega)]
section MX
variable {X : Cx} {k n : Nat} {S : St} {pc q : Nat} {lv : List (Nat × Value)} {st : List Value} {cc : ByteArray} {own : String} {ix : Nat} {x y : Int32}
theorem j_mmin (hX : Ok X cc own) (hl : Cond.methodLink own ix Lib.Math.min.name ∈ BIG) (hs : Cond.static Lib.Math.min.name ∈ BIG) (hi : Cond.initialized "java/lang/Math" ∈ BIG) (hc : Cond.code Lib.Math.min.name Lib.Math.min.code 2 (some .int) ∈ BIG) (hd : decode cc pc = .ok (.invokestatic ix, 3)) (hq : pc + 3 = q) (hR : 1 ≤ (rx X).frames ∧ (st.map fun v => v.category).sum + 13 ≤ (rx X).locals ∧ k ≤ (rx X).cells ∧ n ≤ (rx X).slots) (kk : Jg X k n S q lv (.int (if y < x then y else x) :: st)) : Jg X k n S pc lv (.int y :: .int x :: st) := by
  obtain ⟨p, l, e, R, s, m, args, below, meth, c, Q, D, E, sz, nL⟩ := X
  subst hq
  intro ls H locs hl0 hW hS
  obtain ⟨hx1, hb1, hml, hown, hts, hKw, hsz, hlk⟩ := hX
  exact va_mmin hx1 hb1 (by rw [hml]; exact hl0.1.symm) hown (hts _ hl) (hts _ hs) (hts _ hi) (hts _ hc) hR.1 hR.2.1 hR.2.2.1 hR.2.2.2 hd (kk ls H locs hl0 hW hS)
theorem j_mmax (hX : Ok X cc own) (hl : Cond.methodLink own ix Lib.Math.max.name ∈ BIG) (hs : Cond.static Lib.Math.max.name ∈ BIG) (hi : Cond.initialized "java/lang/Math" ∈ BIG) (hc : Cond.code Lib.Math.max.name Lib.Math.max.code 2 (some .int) ∈ BIG) (hd : decode cc pc = .ok (.invokestatic ix, 3)) (hq : pc + 3 = q) (hR : 1 ≤ (rx X).frames ∧ (st.map fun v => v.category).sum + 13 ≤ (rx X).locals ∧ k ≤ (rx X).cells ∧ n ≤ (rx X).slots) (kk : Jg X k n S q lv (.int (if x < y then y else x) :: st)) : Jg X k n S pc lv (.int y :: .int x :: st) := by
  obtain ⟨p, l, e, R, s, m, args, below, meth, c, Q, D, E, sz, nL⟩ := X
  subst hq
  intro ls H locs hl0 hW hS
  obtain ⟨hx1, hb1, hml, hown, hts, hKw, hsz, hlk⟩ := hX
  exact va_mmax hx1 hb1 (by rw [hml]; exact hl0.1.symm) hown (hts _ hl) (hts _ hs) (hts _ hi) (hts _ hc) hR.1 hR.2.1 hR.2.2.1 hR.2.2.2 hd (kk ls H locs hl0 hW hS)
end MX
end
section
set_option maxHeartbeats 4000000 in
set_option maxRecDepth 100000 in
theorem c_9_chance (l : Launch) (S : St) (p d : Int32) (h9 : 0 < sC S 9) : Ct l yX9_chance cX9_chance 5 (some .double) (rm 0 0 0 0) [.ref (sA S 9 0), .int p, .int d] S (fun r S' => r = some (.double (chF (sJ S 9 0 0) p d)) ∧ S' = S) := by
  refine Ct.of (by decide) (Nat.le_of_ble_eq_true rfl) (fun X hM => ?_)
  have hO := hM.1
  obtain rfl := hM.l
  show Jg X 0 0 S 0 [(0, .ref (sA S 9 0)), (1, .int p), (2, .int d)] []
  refine j_aload_n (q := 1) hO dX9_chance_0 rfl rfl ?_
  refine j_getJ (x := 9) (j := 0) (q := 4) hO CK_9 dX9_chance_1 rfl mw_72 rfl (by assumption) rfl rfl (by decide) rfl ?_
  refine j_ldc2 (q := 7) hO dX9_chance_4 rfl mw_411 ?_
  refine j_lmul (q := 8) hO dX9_chance_7 rfl ?_
  refine j_iload_n (q := 9) hO dX9_chance_8 rfl rfl ?_
  refine j_i2l (q := 10) hO dX9_chance_9 rfl ?_
  refine j_ldc2 (q := 13) hO dX9_chance_10 rfl mw_412 ?_
  refine j_lmul (q := 14) hO dX9_chance_13 rfl ?_
  refine j_ladd (q := 15) hO dX9_chance_14 rfl ?_
  refine j_iload_n (q := 16) hO dX9_chance_15 rfl rfl ?_
  refine j_i2l (q := 17) hO dX9_chance_16 rfl ?_
  refine j_ldc2 (q := 20) hO dX9_chance_17 rfl mw_413 ?_
  refine j_lmul (q := 21) hO dX9_chance_20 rfl ?_
  refine j_ladd (q := 22) hO dX9_chance_21 rfl ?_
  refine j_lstore_n (q := 23) hO dX9_chance_22 rfl (by rw [hM.nL]; decide) rfl ?_
  refine j_lload_n (q := 24) hO dX9_chance_23 rfl rfl ?_
  refine j_lload_n (q := 25) hO dX9_chance_24 rfl rfl ?_
  refine j_bipush (v := 29) (q := 27) hO dX9_chance_25 rfl (by decide) ?_
  refine j_lushr (q := 28) hO dX9_chance_27 rfl ?_
  refine j_lxor (q := 29) hO dX9_chance_28 rfl ?_
  refine j_ldc2 (q := 32) hO dX9_chance_29 rfl mw_414 ?_
  refine j_lmul (q := 33) hO dX9_chance_32 rfl ?_
  refine j_lstore_n (q := 34) hO dX9_chance_33 rfl (by rw [hM.nL]; decide) rfl ?_
  refine j_lload_n (q := 35) hO dX9_chance_34 rfl rfl ?_
  refine j_lload_n (q := 36) hO dX9_chance_35 rfl rfl ?_
  refine j_bipush (v := 32) (q := 38) hO dX9_chance_36 rfl (by decide) ?_
  refine j_lushr (q := 39) hO dX9_chance_38 rfl ?_
  refine j_lxor (q := 40) hO dX9_chance_39 rfl ?_
  refine j_lstore_n (q := 41) hO dX9_chance_40 rfl (by rw [hM.nL]; decide) rfl ?_
  refine j_lload_n (q := 42) hO dX9_chance_41 rfl rfl ?_
  refine j_bipush (v := 11) (q := 44) hO dX9_chance_42 rfl (by decide) ?_
  refine j_lushr (q := 45) hO dX9_chance_44 rfl ?_
  refine j_l2d (q := 46) hO dX9_chance_45 rfl ?_
  refine j_ldc2d (q := 49) hO dX9_chance_46 rfl mw_415 ?_
  refine j_ddiv (q := 50) hO dX9_chance_49 rfl (n64_of (ddiv_ok (l2d_ok _) (dNz_of (by decide +kernel)))) ?_
  exact j_dret hM dX9_chance_50 (Nat.le_of_ble_eq_true rfl) (Nat.le_of_ble_eq_true rfl) ⟨rfl, rfl⟩
set_option maxHeartbeats 4000000 in
set_option maxRecDepth 100000 in
theorem c_3_add (l : Launch) (S : St) (i n : Nat) (t p a b : Int32) (hi : i < sC S 3) (hr : sR S 3 i 0 = some i) (hc : i < sC S 18) (hN : sN S 18 i ≤ 2000) (ht : sI S 3 i 1 = nI n) (hn : n < 2 ^ 30) : Ct l yX3_add cX3_add 5 (none : Option Jvm.ClassFile.FieldType) (rm 0 0 0 0) [.ref (sA S 3 i), .int t, .int p, .int a, .int b] S (fun r S' => r = none ∧ S' = logF S i t p a b) := by
  refine Ct.of (by decide) (Nat.le_of_ble_eq_true rfl) (fun X hM => ?_)
  have hO := hM.1
  obtain rfl := hM.l
  show Jg X 0 0 S 0 [(0, .ref (sA S 3 i)), (1, .int t), (2, .int p), (3, .int a), (4, .int b)] []
  refine j_aload_n (q := 1) hO dX3_add_0 rfl rfl ?_
  refine j_getI (x := 3) (j := 1) (q := 4) hO CK_3 dX3_add_1 rfl mw_40 rfl (by assumption) rfl rfl (by decide) (Or.inl rfl) ?_
  refine j_aload_n (q := 5) hO dX3_add_4 rfl rfl ?_
  refine j_getRs (x := 3) (j := 0) (q := 8) hO CK_3 dX3_add_5 rfl mw_39 rfl (by assumption) rfl rfl (by decide) rfl hr ?_
  refine j_alen (x := 18) (q := 9) hO dX3_add_8 rfl rfl (by assumption) rfl (by decide) rfl ?_
  refine j_icmp_ge (tgt := 38) (q := 12) hO dX3_add_9 rfl (by decide) (fun c9 => ?_) (fun c9 => ?_)
  · refine j_aload_n (q := 39) hO dX3_add_38 rfl rfl ?_
    refine j_dup (q := 40) hO dX3_add_39 rfl rfl ?_
    refine j_getI (x := 3) (j := 1) (q := 43) hO CK_3 dX3_add_40 rfl mw_40 rfl (by assumption) rfl rfl (by decide) (Or.inl rfl) ?_
    refine j_iconst (v := 1) (q := 44) hO dX3_add_43 rfl (by decide) ?_
    refine j_iadd (q := 45) hO dX3_add_44 rfl ?_
    refine j_putI (x := 3) (j := 1) (q := 48) hO CK_3 dX3_add_45 rfl mw_40 rfl (by assumption) rfl rfl (by decide) rfl (by decide +kernel) rfl ?_
    exact j_vret hM dX3_add_48 (Nat.le_of_ble_eq_true rfl) (Nat.le_of_ble_eq_true rfl) ⟨rfl, by unfold logF; rw [if_pos c9]⟩
  · have hlt : n < sN S 18 i := by
      rcases Nat.lt_or_ge n (sN S 18 i) with q | q
      · exact q
      · exact absurd (by rw [ht]; exact nI_le q (by omega)) c9
    have hN31 : sN S 18 i < 2 ^ 31 := by omega
    refine j_aload_n (q := 13) hO dX3_add_12 rfl rfl ?_
    refine j_getRs (x := 3) (j := 0) (q := 16) hO CK_3 dX3_add_13 rfl mw_39 rfl (by assumption) rfl rfl (by decide) rfl hr ?_
    refine j_aload_n (q := 17) hO dX3_add_16 rfl rfl ?_
    refine j_getI (x := 3) (j := 1) (q := 20) hO CK_3 dX3_add_17 rfl mw_40 rfl (by assumption) rfl rfl (by decide) (Or.inl rfl) ?_
    refine j_iload_n (q := 21) hO dX3_add_20 rfl rfl ?_
    refine j_bipush (v := 16) (q := 23) hO dX3_add_21 rfl (by decide) ?_
    refine j_ishl (q := 24) hO dX3_add_23 rfl ?_
    refine j_iload_n (q := 25) hO dX3_add_24 rfl rfl ?_
    refine j_bipush (v := 10) (q := 27) hO dX3_add_25 rfl (by decide) ?_
    refine j_ishl (q := 28) hO dX3_add_27 rfl ?_
    refine j_ior (q := 29) hO dX3_add_28 rfl ?_
    refine j_iload_n (q := 30) hO dX3_add_29 rfl rfl ?_
    refine j_bipush (v := 6) (q := 32) hO dX3_add_30 rfl (by decide) ?_
    refine j_ishl (q := 33) hO dX3_add_32 rfl ?_
    refine j_ior (q := 34) hO dX3_add_33 rfl ?_
    refine j_iload (q := 36) hO dX3_add_34 rfl rfl ?_
    refine j_ior (q := 37) hO dX3_add_36 rfl ?_
    refine j_iast (x := 18) (q := 38) hO dX3_add_37 rfl rfl (by assumption) rfl rfl rfl (j := n) ht hlt hN31 ?_
    refine j_aload_n (q := 39) hO dX3_add_38 rfl rfl ?_
    refine j_dup (q := 40) hO dX3_add_39 rfl rfl ?_
    refine j_getI (x := 3) (j := 1) (q := 43) hO CK_3 dX3_add_40 rfl mw_40 rfl (by assumption) rfl rfl (by decide) (Or.inl rfl) ?_
    refine j_iconst (v := 1) (q := 44) hO dX3_add_43 rfl (by decide) ?_
    refine j_iadd (q := 45) hO dX3_add_44 rfl ?_
    refine j_putI (x := 3) (j := 1) (q := 48) hO CK_3 dX3_add_45 rfl mw_40 rfl (by assumption) rfl rfl (by decide) rfl (by decide +kernel) rfl ?_
    exact j_vret hM dX3_add_48 (Nat.le_of_ble_eq_true rfl) (Nat.le_of_ble_eq_true rfl) ⟨rfl, by unfold logF; rw [if_neg c9, show nn (sI S 3 i 1) = n from by rw [ht]; exact nn_nI (by omega)]; rfl⟩
set_option maxHeartbeats 4000000 in
set_option maxRecDepth 100000 in
theorem c_3_part (l : Launch) (S : St) (i : Nat) (k w : Int32) (hi : i < sC S 3) (hr : sR S 3 i 0 = some i) (hc : i < sC S 18) (hN : sN S 18 i ≤ 2000) : Ct l yX3_part cX3_part 4 (some .int) (rm 0 0 0 0) [.ref (sA S 3 i), .int k, .int w] S (fun r S' => r = some (.int (partA S i k w)) ∧ S' = S) := by
  refine Ct.of (by decide) (Nat.le_of_ble_eq_true rfl) (fun X hM => ?_)
  have hO := hM.1
  obtain rfl := hM.l
  show Jg X 0 0 S 0 [(0, .ref (sA S 3 i)), (1, .int k), (2, .int w)] []
  refine j_iload_n (q := 1) hO dX3_part_0 rfl rfl ?_
  refine j_if_lt (tgt := 21) (q := 4) hO dX3_part_1 rfl (by decide) (fun c1 => ?_) (fun c1 => ?_)
  · refine j_iconst (v := (-1)) (q := 22) hO dX3_part_21 rfl (by decide) ?_
    exact j_iret hM dX3_part_22 (Nat.le_of_ble_eq_true rfl) (Nat.le_of_ble_eq_true rfl) ⟨by unfold partA; rw [if_neg (fun z => z.1 c1)], rfl⟩
  · refine j_iload_n (q := 5) hO dX3_part_4 rfl rfl ?_
    refine j_aload_n (q := 6) hO dX3_part_5 rfl rfl ?_
    refine j_getI (x := 3) (j := 1) (q := 9) hO CK_3 dX3_part_6 rfl mw_40 rfl (by assumption) rfl rfl (by decide) (Or.inl rfl) ?_
    refine j_icmp_ge (tgt := 21) (q := 12) hO dX3_part_9 rfl (by decide) (fun c9 => ?_) (fun c9 => ?_)
    · refine j_iconst (v := (-1)) (q := 22) hO dX3_part_21 rfl (by decide) ?_
      exact j_iret hM dX3_part_22 (Nat.le_of_ble_eq_true rfl) (Nat.le_of_ble_eq_true rfl) ⟨by unfold partA; rw [if_neg (fun z => z.2.1 c9)], rfl⟩
    · refine j_iload_n (q := 13) hO dX3_part_12 rfl rfl ?_
      refine j_aload_n (q := 14) hO dX3_part_13 rfl rfl ?_
      refine j_getRs (x := 3) (j := 0) (q := 17) hO CK_3 dX3_part_14 rfl mw_39 rfl (by assumption) rfl rfl (by decide) rfl hr ?_
      refine j_alen (x := 18) (q := 18) hO dX3_part_17 rfl rfl (by assumption) rfl (by decide) rfl ?_
      refine j_icmp_lt (tgt := 23) (q := 21) hO dX3_part_18 rfl (by decide) (fun c18 => ?_) (fun c18 => ?_)
      · obtain ⟨kk, hkk, rfl⟩ : ∃ j, j < sN S 18 i ∧ k = nI j := by
          rcases pk_ix k (n := sN S 18 i) (by omega) with q | q | q
          · exact absurd q c1
          · exact absurd c18 (by intro z; exact absurd q (Int32.not_le.mpr z))
          · exact q
        have hN31 : sN S 18 i < 2 ^ 31 := by omega
        refine j_aload_n (q := 24) hO dX3_part_23 rfl rfl ?_
        refine j_getRs (x := 3) (j := 0) (q := 27) hO CK_3 dX3_part_24 rfl mw_39 rfl (by assumption) rfl rfl (by decide) rfl hr ?_
        refine j_iload_n (q := 28) hO dX3_part_27 rfl rfl ?_
        refine j_iald (x := 18) (q := 29) hO dX3_part_28 rfl rfl (by assumption) rfl rfl rfl (j := kk) rfl hkk hN31 ?_
        refine j_istore_n (q := 30) hO dX3_part_29 rfl (by rw [hM.nL]; decide) rfl ?_
        refine j_iload_n (q := 31) hO dX3_part_30 rfl rfl ?_
        rcases Classical.em (w = 0 ∨ w = 1 ∨ w = 2 ∨ w = 3) with (rfl | rfl | rfl | rfl) | hw
        · refine j_tableIn (tgt := 60) hO dX3_part_31 (by decide) (by decide) rfl (by decide) ?_
          refine j_iload_n (q := 61) hO dX3_part_60 rfl rfl ?_
          refine j_bipush (v := 16) (q := 63) hO dX3_part_61 rfl (by decide) ?_
          refine j_ishr (q := 64) hO dX3_part_63 rfl ?_
          exact j_iret hM dX3_part_64 (Nat.le_of_ble_eq_true rfl) (Nat.le_of_ble_eq_true rfl) ⟨by unfold partA; rw [if_pos ⟨c1, c9, c18⟩, nn_nI (by omega)]; rfl, rfl⟩
        · refine j_tableIn (tgt := 65) hO dX3_part_31 (by decide) (by decide) rfl (by decide) ?_
          refine j_iload_n (q := 66) hO dX3_part_65 rfl rfl ?_
          refine j_bipush (v := 10) (q := 68) hO dX3_part_66 rfl (by decide) ?_
          refine j_ishr (q := 69) hO dX3_part_68 rfl ?_
          refine j_bipush (v := 63) (q := 71) hO dX3_part_69 rfl (by decide) ?_
          refine j_iand (q := 72) hO dX3_part_71 rfl ?_
          exact j_iret hM dX3_part_72 (Nat.le_of_ble_eq_true rfl) (Nat.le_of_ble_eq_true rfl) ⟨by unfold partA; rw [if_pos ⟨c1, c9, c18⟩, nn_nI (by omega)]; rfl, rfl⟩
        · refine j_tableIn (tgt := 73) hO dX3_part_31 (by decide) (by decide) rfl (by decide) ?_
          refine j_iload_n (q := 74) hO dX3_part_73 rfl rfl ?_
          refine j_bipush (v := 6) (q := 76) hO dX3_part_74 rfl (by decide) ?_
          refine j_ishr (q := 77) hO dX3_part_76 rfl ?_
          refine j_bipush (v := 15) (q := 79) hO dX3_part_77 rfl (by decide) ?_
          refine j_iand (q := 80) hO dX3_part_79 rfl ?_
          exact j_iret hM dX3_part_80 (Nat.le_of_ble_eq_true rfl) (Nat.le_of_ble_eq_true rfl) ⟨by unfold partA; rw [if_pos ⟨c1, c9, c18⟩, nn_nI (by omega)]; rfl, rfl⟩
        · refine j_tableIn (tgt := 81) hO dX3_part_31 (by decide) (by decide) rfl (by decide) ?_
          refine j_iload_n (q := 82) hO dX3_part_81 rfl rfl ?_
          refine j_bipush (v := 63) (q := 84) hO dX3_part_82 rfl (by decide) ?_
          refine j_iand (q := 85) hO dX3_part_84 rfl ?_
          exact j_iret hM dX3_part_85 (Nat.le_of_ble_eq_true rfl) (Nat.le_of_ble_eq_true rfl) ⟨by unfold partA; rw [if_pos ⟨c1, c9, c18⟩, nn_nI (by omega)]; rfl, rfl⟩
        · refine j_tableOut (tgt := 86) hO dX3_part_31 (wout hw) (by decide) ?_
          refine j_iconst (v := (-1)) (q := 87) hO dX3_part_86 rfl (by decide) ?_
          exact j_iret hM dX3_part_87 (Nat.le_of_ble_eq_true rfl) (Nat.le_of_ble_eq_true rfl) ⟨by unfold partA; rw [if_pos ⟨c1, c9, c18⟩]; unfold parF; rw [if_neg (fun z => hw (Or.inl z)), if_neg (fun z => hw (Or.inr (Or.inl z))), if_neg (fun z => hw (Or.inr (Or.inr (Or.inl z)))), if_neg (fun z => hw (Or.inr (Or.inr (Or.inr z))))], rfl⟩
      · refine j_iconst (v := (-1)) (q := 22) hO dX3_part_21 rfl (by decide) ?_
        exact j_iret hM dX3_part_22 (Nat.le_of_ble_eq_true rfl) (Nat.le_of_ble_eq_true rfl) ⟨by unfold partA; rw [if_neg (fun z => c18 z.2.2)], rfl⟩
set_option maxHeartbeats 4000000 in
set_option maxRecDepth 100000 in
theorem c_4_add (l : Launch) (S : St) (a : Nat) (t : Int32) (ha : a < sC S 4) : Ct l yX4_add cX4_add 3 (none : Option Jvm.ClassFile.FieldType) (rm 1 0 0 20) [.ref (sA S 4 a), .int t] S (fun r S' => r = none ∧ S' = outsF S a t) := by
  refine Ct.of (by decide) (Nat.le_of_ble_eq_true rfl) (fun X hM => ?_)
  have hO := hM.1
  obtain rfl := hM.l
  show Jg X 0 0 S 0 [(0, .ref (sA S 4 a)), (1, .int t)] []
  refine j_iload_n (q := 1) hO dX4_add_0 rfl rfl ?_
  refine j_aload_n (q := 2) hO dX4_add_1 rfl rfl ?_
  refine j_getI (x := 4) (j := 1) (q := 5) hO CK_4 dX4_add_2 rfl mw_151 rfl (by assumption) rfl rfl (by decide) (Or.inl rfl) ?_
  refine j_isub (q := 6) hO dX4_add_5 rfl ?_
  refine j_istore_n (q := 7) hO dX4_add_6 rfl (by rw [hM.nL]; decide) rfl ?_
  refine j_aload_n (q := 8) hO dX4_add_7 rfl rfl ?_
  refine j_getI (x := 4) (j := 0) (q := 11) hO CK_4 dX4_add_8 rfl mw_149 rfl (by assumption) rfl rfl (by decide) (Or.inl rfl) ?_
  refine j_iconst (v := 1) (q := 12) hO dX4_add_11 rfl (by decide) ?_
  refine j_icmp_ne (tgt := 28) (q := 15) hO dX4_add_12 rfl (by decide) (fun c12 => ?_) (fun c12 => ?_)
  · refine j_aload_n (q := 29) hO dX4_add_28 rfl rfl ?_
    refine j_getI (x := 4) (j := 0) (q := 32) hO CK_4 dX4_add_29 rfl mw_149 rfl (by assumption) rfl rfl (by decide) (Or.inl rfl) ?_
    refine j_iconst (v := 1) (q := 33) hO dX4_add_32 rfl (by decide) ?_
    refine j_icmp_le (tgt := 60) (q := 36) hO dX4_add_33 rfl (by decide) (fun c33 => ?_) (fun c33 => ?_)
    · refine j_aload_n (q := 61) hO dX4_add_60 rfl rfl ?_
      refine j_iload_n (q := 62) hO dX4_add_61 rfl rfl ?_
      refine j_putI (x := 4) (j := 1) (q := 65) hO CK_4 dX4_add_62 rfl mw_151 rfl (by assumption) rfl rfl (by decide) rfl (by decide +kernel) rfl ?_
      refine j_aload_n (q := 66) hO dX4_add_65 rfl rfl ?_
      refine j_dup (q := 67) hO dX4_add_66 rfl rfl ?_
      refine j_getI (x := 4) (j := 0) (q := 70) hO CK_4 dX4_add_67 rfl mw_149 rfl (by assumption) rfl rfl (by decide) (Or.inl rfl) ?_
      refine j_iconst (v := 1) (q := 71) hO dX4_add_70 rfl (by decide) ?_
      refine j_iadd (q := 72) hO dX4_add_71 rfl ?_
      refine j_putI (x := 4) (j := 0) (q := 75) hO CK_4 dX4_add_72 rfl mw_149 rfl (by assumption) rfl rfl (by decide) rfl (by decide +kernel) rfl ?_
      exact j_vret hM dX4_add_75 (Nat.le_of_ble_eq_true rfl) (Nat.le_of_ble_eq_true rfl) ⟨rfl, by unfold outsF; rw [if_neg c12, if_pos c33]; exact out_e2⟩
    · refine j_aload_n (q := 37) hO dX4_add_36 rfl rfl ?_
      refine j_aload_n (q := 38) hO dX4_add_37 rfl rfl ?_
      refine j_getI (x := 4) (j := 2) (q := 41) hO CK_4 dX4_add_38 rfl mw_152 rfl (by assumption) rfl rfl (by decide) (Or.inl rfl) ?_
      refine j_iload_n (q := 42) hO dX4_add_41 rfl rfl ?_
      refine j_mmin (q := 45) hO mw_441 mw_442 mw_12 mw_443 dX4_add_42 rfl (by rw [hM.R]; exact ⟨Nat.le_of_ble_eq_true rfl, Nat.le_of_ble_eq_true rfl, Nat.le_of_ble_eq_true rfl, Nat.le_of_ble_eq_true rfl⟩) ?_
      refine j_putI (x := 4) (j := 2) (q := 48) hO CK_4 dX4_add_45 rfl mw_152 rfl (by assumption) rfl rfl (by decide) rfl (by decide +kernel) rfl ?_
      refine j_aload_n (q := 49) hO dX4_add_48 rfl rfl ?_
      refine j_aload_n (q := 50) hO dX4_add_49 rfl rfl ?_
      refine j_getI (x := 4) (j := 3) (q := 53) hO CK_4 dX4_add_50 rfl mw_154 rfl (by assumption) rfl rfl (by decide) (Or.inl rfl) ?_
      refine j_iload_n (q := 54) hO dX4_add_53 rfl rfl ?_
      refine j_mmax (q := 57) hO mw_444 mw_445 mw_12 mw_446 dX4_add_54 rfl (by rw [hM.R]; exact ⟨Nat.le_of_ble_eq_true rfl, Nat.le_of_ble_eq_true rfl, Nat.le_of_ble_eq_true rfl, Nat.le_of_ble_eq_true rfl⟩) ?_
      refine j_putI (x := 4) (j := 3) (q := 60) hO CK_4 dX4_add_57 rfl mw_154 rfl (by assumption) rfl rfl (by decide) rfl (by decide +kernel) rfl ?_
      refine j_aload_n (q := 61) hO dX4_add_60 rfl rfl ?_
      refine j_iload_n (q := 62) hO dX4_add_61 rfl rfl ?_
      refine j_putI (x := 4) (j := 1) (q := 65) hO CK_4 dX4_add_62 rfl mw_151 rfl (by assumption) rfl rfl (by decide) rfl (by decide +kernel) rfl ?_
      refine j_aload_n (q := 66) hO dX4_add_65 rfl rfl ?_
      refine j_dup (q := 67) hO dX4_add_66 rfl rfl ?_
      refine j_getI (x := 4) (j := 0) (q := 70) hO CK_4 dX4_add_67 rfl mw_149 rfl (by assumption) rfl rfl (by decide) (Or.inl rfl) ?_
      refine j_iconst (v := 1) (q := 71) hO dX4_add_70 rfl (by decide) ?_
      refine j_iadd (q := 72) hO dX4_add_71 rfl ?_
      refine j_putI (x := 4) (j := 0) (q := 75) hO CK_4 dX4_add_72 rfl mw_149 rfl (by assumption) rfl rfl (by decide) rfl (by decide +kernel) rfl ?_
      exact j_vret hM dX4_add_75 (Nat.le_of_ble_eq_true rfl) (Nat.le_of_ble_eq_true rfl) ⟨rfl, by unfold outsF; rw [if_neg c12, if_neg c33]; exact out_e3⟩
  · refine j_aload_n (q := 16) hO dX4_add_15 rfl rfl ?_
    refine j_iload_n (q := 17) hO dX4_add_16 rfl rfl ?_
    refine j_putI (x := 4) (j := 2) (q := 20) hO CK_4 dX4_add_17 rfl mw_152 rfl (by assumption) rfl rfl (by decide) rfl (by decide +kernel) rfl ?_
    refine j_aload_n (q := 21) hO dX4_add_20 rfl rfl ?_
    refine j_iload_n (q := 22) hO dX4_add_21 rfl rfl ?_
    refine j_putI (x := 4) (j := 3) (q := 25) hO CK_4 dX4_add_22 rfl mw_154 rfl (by assumption) rfl rfl (by decide) rfl (by decide +kernel) rfl ?_
    refine j_goto (tgt := 60) hO dX4_add_25 (by decide) ?_
    refine j_aload_n (q := 61) hO dX4_add_60 rfl rfl ?_
    refine j_iload_n (q := 62) hO dX4_add_61 rfl rfl ?_
    refine j_putI (x := 4) (j := 1) (q := 65) hO CK_4 dX4_add_62 rfl mw_151 rfl (by assumption) rfl rfl (by decide) rfl (by decide +kernel) rfl ?_
    refine j_aload_n (q := 66) hO dX4_add_65 rfl rfl ?_
    refine j_dup (q := 67) hO dX4_add_66 rfl rfl ?_
    refine j_getI (x := 4) (j := 0) (q := 70) hO CK_4 dX4_add_67 rfl mw_149 rfl (by assumption) rfl rfl (by decide) (Or.inl rfl) ?_
    refine j_iconst (v := 1) (q := 71) hO dX4_add_70 rfl (by decide) ?_
    refine j_iadd (q := 72) hO dX4_add_71 rfl ?_
    refine j_putI (x := 4) (j := 0) (q := 75) hO CK_4 dX4_add_72 rfl mw_149 rfl (by assumption) rfl rfl (by decide) rfl (by decide +kernel) rfl ?_
    exact j_vret hM dX4_add_75 (Nat.le_of_ble_eq_true rfl) (Nat.le_of_ble_eq_true rfl) ⟨rfl, by unfold outsF; rw [if_pos c12]; exact out_e1⟩
set_option maxHeartbeats 4000000 in
set_option maxRecDepth 100000 in
theorem c_5_take (l : Launch) (S : St) (k : Nat) (t : Int32) (hk : k < sC S 5) (hpk : PkOk (sD S 5 k 1) (sD S 5 k 2) (sI S 5 k 3)) : Ct l yX5_take cX5_take 2 (none : Option Jvm.ClassFile.FieldType) (rm 0 0 0 0) [.ref (sA S 5 k), .int t] S (fun r S' => r = none ∧ S' = takeF S k t) := by
  refine Ct.of (by decide) (Nat.le_of_ble_eq_true rfl) (fun X hM => ?_)
  have hO := hM.1
  obtain rfl := hM.l
  show Jg X 0 0 S 0 [(0, .ref (sA S 5 k)), (1, .int t)] []
  refine j_aload_n (q := 1) hO dX5_take_0 rfl rfl ?_
  refine j_iload_n (q := 2) hO dX5_take_1 rfl rfl ?_
  refine j_iconst (v := 1) (q := 3) hO dX5_take_2 rfl (by decide) ?_
  refine j_iadd (q := 4) hO dX5_take_3 rfl ?_
  refine j_ldc2d (q := 7) hO dX5_take_4 rfl mw_432 ?_
  refine j_aload_n (q := 8) hO dX5_take_7 rfl rfl ?_
  refine j_getD (x := 5) (j := 1) (q := 11) hO CK_5 dX5_take_8 rfl mw_279 rfl (by assumption) rfl rfl (by decide) rfl ?_
  refine j_ddiv (q := 12) hO dX5_take_11 rfl hpk.1 ?_
  refine j_dconst1 (q := 13) hO dX5_take_12 rfl ?_
  refine j_aload_n (q := 14) hO dX5_take_13 rfl rfl ?_
  refine j_getD (x := 5) (j := 2) (q := 17) hO CK_5 dX5_take_14 rfl mw_280 rfl (by assumption) rfl rfl (by decide) rfl ?_
  refine j_aload_n (q := 18) hO dX5_take_17 rfl rfl ?_
  refine j_getI (x := 5) (j := 3) (q := 21) hO CK_5 dX5_take_18 rfl mw_281 rfl (by assumption) rfl rfl (by decide) (Or.inl rfl) ?_
  refine j_i2d (q := 22) hO dX5_take_21 rfl ?_
  refine j_dmul (q := 23) hO dX5_take_22 rfl hpk.2.1 ?_
  refine j_dadd (q := 24) hO dX5_take_23 rfl hpk.2.2.1 ?_
  refine j_dmul (q := 25) hO dX5_take_24 rfl hpk.2.2.2 ?_
  refine j_d2i (q := 26) hO dX5_take_25 rfl ?_
  refine j_iadd (q := 27) hO dX5_take_26 rfl ?_
  refine j_putI (x := 5) (j := 4) (q := 30) hO CK_5 dX5_take_27 rfl mw_282 rfl (by assumption) rfl rfl (by decide) rfl (by decide +kernel) rfl ?_
  refine j_aload_n (q := 31) hO dX5_take_30 rfl rfl ?_
  refine j_dup (q := 32) hO dX5_take_31 rfl rfl ?_
  refine j_getI (x := 5) (j := 3) (q := 35) hO CK_5 dX5_take_32 rfl mw_281 rfl (by assumption) rfl rfl (by decide) (Or.inl rfl) ?_
  refine j_iconst (v := 1) (q := 36) hO dX5_take_35 rfl (by decide) ?_
  refine j_iadd (q := 37) hO dX5_take_36 rfl ?_
  refine j_putI (x := 5) (j := 3) (q := 40) hO CK_5 dX5_take_37 rfl mw_281 rfl (by assumption) rfl rfl (by decide) rfl (by decide +kernel) rfl ?_
  exact j_vret hM dX5_take_40 (Nat.le_of_ble_eq_true rfl) (Nat.le_of_ble_eq_true rfl) ⟨rfl, by unfold takeF; exact tak_e⟩
set_option maxHeartbeats 4000000 in
set_option maxRecDepth 100000 in
theorem c_8_atRest (l : Launch) (S : St)  (h8 : 0 < sC S 8) (hr : sR S 8 0 0 = some 0) (h19 : 0 < sC S 19) (hN : sN S 19 0 = 4) : Ct l yX8_atRest cX8_atRest 1 (some .long) (rm 0 0 0 0) [.ref (sA S 8 0)] S (fun r S' => r = some (.long (restA S)) ∧ S' = S) := by
  refine Ct.of (by decide) (Nat.le_of_ble_eq_true rfl) (fun X hM => ?_)
  have hO := hM.1
  obtain rfl := hM.l
  show Jg X 0 0 S 0 [(0, .ref (sA S 8 0))] []
  refine j_aload_n (q := 1) hO dX8_atRest_0 rfl rfl ?_
  refine j_getI (x := 8) (j := 1) (q := 4) hO CK_8 dX8_atRest_1 rfl mw_56 rfl (by assumption) rfl rfl (by decide) (Or.inl rfl) ?_
  refine j_aload_n (q := 5) hO dX8_atRest_4 rfl rfl ?_
  refine j_getI (x := 8) (j := 2) (q := 8) hO CK_8 dX8_atRest_5 rfl mw_58 rfl (by assumption) rfl rfl (by decide) (Or.inl rfl) ?_
  refine j_iadd (q := 9) hO dX8_atRest_8 rfl ?_
  refine j_aload_n (q := 10) hO dX8_atRest_9 rfl rfl ?_
  refine j_getI (x := 8) (j := 3) (q := 13) hO CK_8 dX8_atRest_10 rfl mw_60 rfl (by assumption) rfl rfl (by decide) (Or.inl rfl) ?_
  refine j_iadd (q := 14) hO dX8_atRest_13 rfl ?_
  refine j_i2l (q := 15) hO dX8_atRest_14 rfl ?_
  refine j_aload_n (q := 16) hO dX8_atRest_15 rfl rfl ?_
  refine j_getRs (x := 8) (j := 0) (q := 19) hO CK_8 dX8_atRest_16 rfl mw_54 rfl (by assumption) rfl rfl (by decide) rfl hr ?_
  refine j_iconst (v := 0) (q := 20) hO dX8_atRest_19 rfl (by decide) ?_
  refine j_lald (x := 19) (q := 21) hO dX8_atRest_20 rfl rfl (by assumption) rfl rfl rfl (j := 0) rfl (by rw [hN]; decide) (by rw [hN]; decide) ?_
  refine j_ladd (q := 22) hO dX8_atRest_21 rfl ?_
  refine j_aload_n (q := 23) hO dX8_atRest_22 rfl rfl ?_
  refine j_getRs (x := 8) (j := 0) (q := 26) hO CK_8 dX8_atRest_23 rfl mw_54 rfl (by assumption) rfl rfl (by decide) rfl hr ?_
  refine j_iconst (v := 1) (q := 27) hO dX8_atRest_26 rfl (by decide) ?_
  refine j_lald (x := 19) (q := 28) hO dX8_atRest_27 rfl rfl (by assumption) rfl rfl rfl (j := 1) rfl (by rw [hN]; decide) (by rw [hN]; decide) ?_
  refine j_ladd (q := 29) hO dX8_atRest_28 rfl ?_
  refine j_aload_n (q := 30) hO dX8_atRest_29 rfl rfl ?_
  refine j_getRs (x := 8) (j := 0) (q := 33) hO CK_8 dX8_atRest_30 rfl mw_54 rfl (by assumption) rfl rfl (by decide) rfl hr ?_
  refine j_iconst (v := 2) (q := 34) hO dX8_atRest_33 rfl (by decide) ?_
  refine j_lald (x := 19) (q := 35) hO dX8_atRest_34 rfl rfl (by assumption) rfl rfl rfl (j := 2) rfl (by rw [hN]; decide) (by rw [hN]; decide) ?_
  refine j_ladd (q := 36) hO dX8_atRest_35 rfl ?_
  exact j_lret hM dX8_atRest_36 (Nat.le_of_ble_eq_true rfl) (Nat.le_of_ble_eq_true rfl) ⟨rfl, rfl⟩
set_option maxHeartbeats 4000000 in
set_option maxRecDepth 100000 in
theorem c_0_movesAt (l : Launch) (S : St) (b : Nat) (t : Int32) (hb : b < sC S 0) : Ct l yX0_movesAt cX0_movesAt 2 (some .boolean) (rm 0 0 0 0) [.ref (sA S 0 b), .int t] S (fun r S' => r = some (.int (if t ≤ sI S 0 b 9 then 0 else 1)) ∧ S' = S) := by
  refine Ct.of (by decide) (Nat.le_of_ble_eq_true rfl) (fun X hM => ?_)
  have hO := hM.1
  obtain rfl := hM.l
  show Jg X 0 0 S 0 [(0, .ref (sA S 0 b)), (1, .int t)] []
  refine j_iload_n (q := 1) hO dX0_movesAt_0 rfl rfl ?_
  refine j_aload_n (q := 2) hO dX0_movesAt_1 rfl rfl ?_
  refine j_getI (x := 0) (j := 9) (q := 5) hO CK_0 dX0_movesAt_2 rfl mw_178 rfl (by assumption) rfl rfl (by decide) (Or.inl rfl) ?_
  refine j_icmp_le (tgt := 12) (q := 8) hO dX0_movesAt_5 rfl (by decide) (fun c5 => ?_) (fun c5 => ?_)
  · refine j_iconst (v := 0) (q := 13) hO dX0_movesAt_12 rfl (by decide) ?_
    exact j_zret hM dX0_movesAt_13 (Nat.le_of_ble_eq_true rfl) (Nat.le_of_ble_eq_true rfl) (by decide) ⟨by rw [if_pos c5], rfl⟩
  · refine j_iconst (v := 1) (q := 9) hO dX0_movesAt_8 rfl (by decide) ?_
    refine j_goto (tgt := 13) hO dX0_movesAt_9 (by decide) ?_
    exact j_zret hM dX0_movesAt_13 (Nat.le_of_ble_eq_true rfl) (Nat.le_of_ble_eq_true rfl) (by decide) ⟨by rw [if_neg c5], rfl⟩
set_option maxHeartbeats 4000000 in
set_option maxRecDepth 100000 in
theorem c_0_refusesAt (l : Launch) (S : St) (b : Nat) (t : Int32) (hb : b < sC S 0) : Ct l yX0_refusesAt cX0_refusesAt 2 (some .boolean) (rm 0 0 0 0) [.ref (sA S 0 b), .int t] S (fun r S' => r = some (.int (if sI S 0 b 9 ≤ t then 0 else 1)) ∧ S' = S) := by
  refine Ct.of (by decide) (Nat.le_of_ble_eq_true rfl) (fun X hM => ?_)
  have hO := hM.1
  obtain rfl := hM.l
  show Jg X 0 0 S 0 [(0, .ref (sA S 0 b)), (1, .int t)] []
  refine j_iload_n (q := 1) hO dX0_refusesAt_0 rfl rfl ?_
  refine j_aload_n (q := 2) hO dX0_refusesAt_1 rfl rfl ?_
  refine j_getI (x := 0) (j := 9) (q := 5) hO CK_0 dX0_refusesAt_2 rfl mw_178 rfl (by assumption) rfl rfl (by decide) (Or.inl rfl) ?_
  refine j_icmp_ge (tgt := 12) (q := 8) hO dX0_refusesAt_5 rfl (by decide) (fun c5 => ?_) (fun c5 => ?_)
  · refine j_iconst (v := 0) (q := 13) hO dX0_refusesAt_12 rfl (by decide) ?_
    exact j_zret hM dX0_refusesAt_13 (Nat.le_of_ble_eq_true rfl) (Nat.le_of_ble_eq_true rfl) (by decide) ⟨by rw [if_pos c5], rfl⟩
  · refine j_iconst (v := 1) (q := 9) hO dX0_refusesAt_8 rfl (by decide) ?_
    refine j_goto (tgt := 13) hO dX0_refusesAt_9 (by decide) ?_
    exact j_zret hM dX0_refusesAt_13 (Nat.le_of_ble_eq_true rfl) (Nat.le_of_ble_eq_true rfl) (by decide) ⟨by rw [if_neg c5], rfl⟩
set_option maxHeartbeats 4000000 in
set_option maxRecDepth 100000 in
theorem c_0_placeOf (l : Launch) (S : St) (b : Nat) (x : UInt64) (hb : b < sC S 0) (h1 : vf_n64 (FP.ddiv x (sD S 0 b 2))) (h2 : vf_n64 (FP.dmul (FP.ddiv x (sD S 0 b 2)) (FP.i2d (sI S 0 b 1)))) : Ct l yX0_placeOf cX0_placeOf 3 (some .int) (rm 0 0 0 0) [.ref (sA S 0 b), .double x] S (fun r S' => r = some (.int (plF x (sD S 0 b 2) (sI S 0 b 1))) ∧ S' = S) := by
  refine Ct.of (by decide) (Nat.le_of_ble_eq_true rfl) (fun X hM => ?_)
  have hO := hM.1
  obtain rfl := hM.l
  show Jg X 0 0 S 0 [(0, .ref (sA S 0 b)), (1, .double x)] []
  refine j_dload_n (q := 1) hO dX0_placeOf_0 rfl rfl ?_
  refine j_aload_n (q := 2) hO dX0_placeOf_1 rfl rfl ?_
  refine j_getD (x := 0) (j := 2) (q := 5) hO CK_0 dX0_placeOf_2 rfl mw_169 rfl (by assumption) rfl rfl (by decide) rfl ?_
  refine j_ddiv (q := 6) hO dX0_placeOf_5 rfl h1 ?_
  refine j_aload_n (q := 7) hO dX0_placeOf_6 rfl rfl ?_
  refine j_getI (x := 0) (j := 1) (q := 10) hO CK_0 dX0_placeOf_7 rfl mw_167 rfl (by assumption) rfl rfl (by decide) (Or.inl rfl) ?_
  refine j_i2d (q := 11) hO dX0_placeOf_10 rfl ?_
  refine j_dmul (q := 12) hO dX0_placeOf_11 rfl h2 ?_
  refine j_d2i (q := 13) hO dX0_placeOf_12 rfl ?_
  exact j_iret hM dX0_placeOf_13 (Nat.le_of_ble_eq_true rfl) (Nat.le_of_ble_eq_true rfl) ⟨rfl, rfl⟩
end
