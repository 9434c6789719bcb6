-- ===== PART A: goes FIRST, ahead of the names: the tables' words, and 'selects' of the private methods out of them =====
/-- a private method of a class that the tables say can be made, by its rows of tables_1 -/
def lw_okq (q : MethodName × Nat) : Prop := (q.1.cls ≠ "java/lang/invoke/MethodHandle" ∧ q.1.cls ≠ "java/lang/invoke/VarHandle") ∧ Cond.instantiable q.1.cls q.2 ∈ tables_1 ∧ Cond.privateMethod q.1 ∈ tables_1 ∧ Cond.instanceMethod q.1 ∈ tables_1
theorem lw_p0 : lw_okq (⟨"TakenUpByThePieces", "shelfAt", "(I)LTakenUpByThePieces$Shelf;"⟩, 10) := ⟨⟨by decide +kernel, by decide +kernel⟩, List.mem_of_getElem? (i := 10) (by decide +kernel), List.mem_of_getElem? (i := 131) (by decide +kernel), List.mem_of_getElem? (i := 132) (by decide +kernel)⟩
theorem lw_p1 : lw_okq (⟨"TakenUpByThePieces", "isDone", "(LTakenUpByThePieces$Shelf;I)Z"⟩, 10) := ⟨⟨by decide +kernel, by decide +kernel⟩, List.mem_of_getElem? (i := 10) (by decide +kernel), List.mem_of_getElem? (i := 161) (by decide +kernel), List.mem_of_getElem? (i := 162) (by decide +kernel)⟩
theorem lw_p2 : lw_okq (⟨"TakenUpByThePieces", "lookAhead", "(I)V"⟩, 10) := ⟨⟨by decide +kernel, by decide +kernel⟩, List.mem_of_getElem? (i := 10) (by decide +kernel), List.mem_of_getElem? (i := 341) (by decide +kernel), List.mem_of_getElem? (i := 342) (by decide +kernel)⟩
theorem lw_p3 : lw_okq (⟨"TakenUpByThePieces", "firstToFall", "()I"⟩, 10) := ⟨⟨by decide +kernel, by decide +kernel⟩, List.mem_of_getElem? (i := 10) (by decide +kernel), List.mem_of_getElem? (i := 362) (by decide +kernel), List.mem_of_getElem? (i := 363) (by decide +kernel)⟩
theorem lw_p4 : lw_okq (⟨"TakenUpByThePieces", "placeInMind", "(II)Z"⟩, 10) := ⟨⟨by decide +kernel, by decide +kernel⟩, List.mem_of_getElem? (i := 10) (by decide +kernel), List.mem_of_getElem? (i := 393) (by decide +kernel), List.mem_of_getElem? (i := 394) (by decide +kernel)⟩
def lw_privs_1 : List (MethodName × Nat) := [(⟨"TakenUpByThePieces", "shelfAt", "(I)LTakenUpByThePieces$Shelf;"⟩, 10), (⟨"TakenUpByThePieces", "isDone", "(LTakenUpByThePieces$Shelf;I)Z"⟩, 10), (⟨"TakenUpByThePieces", "lookAhead", "(I)V"⟩, 10), (⟨"TakenUpByThePieces", "firstToFall", "()I"⟩, 10), (⟨"TakenUpByThePieces", "placeInMind", "(II)Z"⟩, 10)]
theorem lw_r1 : ∀ q ∈ lw_privs_1, lw_okq q := List.forall_mem_cons.mpr ⟨lw_p0, List.forall_mem_cons.mpr ⟨lw_p1, List.forall_mem_cons.mpr ⟨lw_p2, List.forall_mem_cons.mpr ⟨lw_p3, List.forall_mem_cons.mpr ⟨lw_p4, fun _ h => absurd h List.not_mem_nil⟩⟩⟩⟩⟩
def lw_privs : List (MethodName × Nat) := lw_privs_1
def lw_tbl : List Cond := k2_sels lw_privs ++ tables_1
theorem lw_privs_ok : ∀ q ∈ lw_privs, lw_okq q := lw_r1
def RX0 : String := "TakenUpByThePieces$Board"
def TX0 : u_T := fun k => match k with
  | 0 => ("TakenUpByThePieces$Board", "kind", "[I", true)
  | 1 => ("TakenUpByThePieces$Board", "figure", "[I", true)
  | 2 => ("TakenUpByThePieces$Board", "side", "[I", true)
  | 3 => ("TakenUpByThePieces$Board", "square", "[I", true)
  | 4 => ("TakenUpByThePieces$Board", "standing", "[I", true)
  | 5 => ("TakenUpByThePieces$Board", "count", "I", false)
  | 6 => ("TakenUpByThePieces$Board", "turn", "I", false)
  | 7 => ("TakenUpByThePieces$Board", "thought", "I", false)
  | _ => ("TakenUpByThePieces$Board", "day", "I", false)
def tyX0 : Nat → FieldType := fun k => match k with
  | 0 => .array .int
  | 1 => .array .int
  | 2 => .array .int
  | 3 => .array .int
  | 4 => .array .int
  | 5 => .int
  | 6 => .int
  | 7 => .int
  | _ => .int
abbrev wsX00 : List Cond := u_ws RX0 TX0 9
theorem nmX0 : ∀ a, a < 9 → ∀ b, b < 9 → a ≠ b → (TX0 a).2.1 ≠ (TX0 b).2.1 := by decide +kernel
theorem tyX0_ok : ∀ k, k < 9 → parseFieldDescriptor (TX0 k).2.2.1 = some (tyX0 k) := by decide +kernel
abbrev cX0_init : ByteArray := prog_2_method_1_code
def yX0_init : MethodName := ⟨RX0, "<init>", "()V"⟩
abbrev cX0_becomes : ByteArray := prog_2_method_2_code
def yX0_becomes : MethodName := ⟨RX0, "becomes", "(LTakenUpByThePieces$Board;)V"⟩
abbrev cX0_has : ByteArray := prog_2_method_3_code
def yX0_has : MethodName := ⟨RX0, "has", "(I)Z"⟩
abbrev cX0_isThere : ByteArray := prog_2_method_4_code
def yX0_isThere : MethodName := ⟨RX0, "isThere", "(I)Z"⟩
abbrev cX0_isThereOf : ByteArray := prog_2_method_5_code
def yX0_isThereOf : MethodName := ⟨RX0, "isThereOf", "(II)Z"⟩
abbrev cX0_squareOrNone : ByteArray := prog_2_method_7_code
def yX0_squareOrNone : MethodName := ⟨RX0, "squareOrNone", "(I)I"⟩
abbrev cX0_isFree : ByteArray := prog_2_method_8_code
def yX0_isFree : MethodName := ⟨RX0, "isFree", "(I)Z"⟩
abbrev cX0_isHeldBy : ByteArray := prog_2_method_9_code
def yX0_isHeldBy : MethodName := ⟨RX0, "isHeldBy", "(II)Z"⟩
abbrev cX0_addPiece : ByteArray := prog_2_method_10_code
def yX0_addPiece : MethodName := ⟨RX0, "addPiece", "(IIII)Z"⟩
abbrev cX0_movePiece : ByteArray := prog_2_method_11_code
def yX0_movePiece : MethodName := ⟨RX0, "movePiece", "(II)Z"⟩
abbrev cX0_takeOff : ByteArray := prog_2_method_12_code
def yX0_takeOff : MethodName := ⟨RX0, "takeOff", "(I)Z"⟩
abbrev cX0_turnInto : ByteArray := prog_2_method_14_code
def yX0_turnInto : MethodName := ⟨RX0, "turnInto", "(III)Z"⟩
abbrev cX0_giveTurn : ByteArray := prog_2_method_15_code
def yX0_giveTurn : MethodName := ⟨RX0, "giveTurn", "(I)Z"⟩
abbrev cX0_passWithinLast : ByteArray := prog_2_method_16_code
def yX0_passWithinLast : MethodName := ⟨RX0, "passWithinLast", "(I)Z"⟩
abbrev cX0_passDays : ByteArray := prog_2_method_17_code
def yX0_passDays : MethodName := ⟨RX0, "passDays", "(I)V"⟩
abbrev cX0_passDay : ByteArray := prog_2_method_18_code
def yX0_passDay : MethodName := ⟨RX0, "passDay", "(IZ)Z"⟩
abbrev cX0_goerOn : ByteArray := prog_2_method_19_code
def yX0_goerOn : MethodName := ⟨RX0, "goerOn", "(IIZ)I"⟩
abbrev cX0_hearersOf : ByteArray := prog_2_method_20_code
def yX0_hearersOf : MethodName := ⟨RX0, "hearersOf", "(IZ)I"⟩
abbrev cX0_ideaOf : ByteArray := prog_2_method_21_code
def yX0_ideaOf : MethodName := ⟨RX0, "ideaOf", "(II)I"⟩
abbrev cX0_pawnIdea : ByteArray := prog_2_method_22_code
def yX0_pawnIdea : MethodName := ⟨RX0, "pawnIdea", "(I)I"⟩
abbrev cX0_knightIdea : ByteArray := prog_2_method_23_code
def yX0_knightIdea : MethodName := ⟨RX0, "knightIdea", "(I)I"⟩
abbrev cX0_bishopIdea : ByteArray := prog_2_method_24_code
def yX0_bishopIdea : MethodName := ⟨RX0, "bishopIdea", "(II)I"⟩
abbrev cX0_kingIdea : ByteArray := prog_2_method_25_code
def yX0_kingIdea : MethodName := ⟨RX0, "kingIdea", "(I)I"⟩
abbrev cX0_slideIdea : ByteArray := prog_2_method_26_code
def yX0_slideIdea : MethodName := ⟨RX0, "slideIdea", "(III)I"⟩
abbrev cX0_squareFrom : ByteArray := prog_2_method_27_code
def yX0_squareFrom : MethodName := ⟨RX0, "squareFrom", "(III)I"⟩
abbrev cX0_howManyOf : ByteArray := prog_2_method_28_code
def yX0_howManyOf : MethodName := ⟨RX0, "howManyOf", "(I)I"⟩
abbrev cX0_howManyThere : ByteArray := prog_2_method_29_code
def yX0_howManyThere : MethodName := ⟨RX0, "howManyThere", "()I"⟩
abbrev cX0_bitsThere : ByteArray := prog_2_method_30_code
def yX0_bitsThere : MethodName := ⟨RX0, "bitsThere", "()I"⟩
abbrev cX0_worthOf : ByteArray := prog_2_method_31_code
def yX0_worthOf : MethodName := ⟨RX0, "worthOf", "(I)I"⟩
abbrev cX0_worthWithout : ByteArray := prog_2_method_32_code
def yX0_worthWithout : MethodName := ⟨RX0, "worthWithout", "(I)I"⟩
abbrev cX0_groupsOf : ByteArray := prog_2_method_34_code
def yX0_groupsOf : MethodName := ⟨RX0, "groupsOf", "(I)I"⟩
abbrev cX0_groupAround : ByteArray := prog_2_method_35_code
def yX0_groupAround : MethodName := ⟨RX0, "groupAround", "(I)I"⟩
abbrev cX0_farthestOf : ByteArray := prog_2_method_36_code
def yX0_farthestOf : MethodName := ⟨RX0, "farthestOf", "(I)I"⟩
abbrev cX0_pairsSideBySide : ByteArray := prog_2_method_37_code
def yX0_pairsSideBySide : MethodName := ⟨RX0, "pairsSideBySide", "()I"⟩
abbrev cX0_quietOn : ByteArray := prog_2_method_38_code
def yX0_quietOn : MethodName := ⟨RX0, "quietOn", "(I)I"⟩
def RX1 : String := "TakenUpByThePieces$Kinds"
def TX1 : u_T := fun k => match k with
  | _ => ("", "", "", false)
def tyX1 : Nat → FieldType := fun k => match k with
  | _ => .int
abbrev wsX10 : List Cond := u_ws RX1 TX1 0
theorem nmX1 : ∀ a, a < 0 → ∀ b, b < 0 → a ≠ b → (TX1 a).2.1 ≠ (TX1 b).2.1 := by decide +kernel
theorem tyX1_ok : ∀ k, k < 0 → parseFieldDescriptor (TX1 k).2.2.1 = some (tyX1 k) := by decide +kernel
abbrev cX1_earsWith : ByteArray := prog_3_method_2_code
def yX1_earsWith : MethodName := ⟨RX1, "earsWith", "(II)I"⟩
abbrev cX1_worthWith : ByteArray := prog_3_method_3_code
def yX1_worthWith : MethodName := ⟨RX1, "worthWith", "(II)I"⟩
def RX2 : String := "TakenUpByThePieces$Shelf"
def TX2 : u_T := fun k => match k with
  | 0 => ("TakenUpByThePieces$Shelf", "holds", "I", false)
  | 1 => ("TakenUpByThePieces$Shelf", "kind", "I", false)
  | 2 => ("TakenUpByThePieces$Shelf", "figure", "I", false)
  | 3 => ("TakenUpByThePieces$Shelf", "sort", "I", false)
  | 4 => ("TakenUpByThePieces$Shelf", "size", "I", false)
  | _ => ("TakenUpByThePieces$Shelf", "elements", "[I", true)
def tyX2 : Nat → FieldType := fun k => match k with
  | 0 => .int
  | 1 => .int
  | 2 => .int
  | 3 => .int
  | 4 => .int
  | _ => .array .int
abbrev wsX20 : List Cond := u_ws RX2 TX2 6
theorem nmX2 : ∀ a, a < 6 → ∀ b, b < 6 → a ≠ b → (TX2 a).2.1 ≠ (TX2 b).2.1 := by decide +kernel
theorem tyX2_ok : ∀ k, k < 6 → parseFieldDescriptor (TX2 k).2.2.1 = some (tyX2 k) := by decide +kernel
abbrev cX2_init : ByteArray := prog_4_method_1_code
def yX2_init : MethodName := ⟨RX2, "<init>", "()V"⟩
abbrev cX2_hasPlace : ByteArray := prog_4_method_3_code
def yX2_hasPlace : MethodName := ⟨RX2, "hasPlace", "(I)Z"⟩
abbrev cX2_elementAt : ByteArray := prog_4_method_5_code
def yX2_elementAt : MethodName := ⟨RX2, "elementAt", "(I)I"⟩
abbrev cX2_digitsBehind : ByteArray := prog_4_method_8_code
def yX2_digitsBehind : MethodName := ⟨RX2, "digitsBehind", "(I)I"⟩
abbrev cX2_wrongByte : ByteArray := prog_4_method_9_code
def yX2_wrongByte : MethodName := ⟨RX2, "wrongByte", "()I"⟩
abbrev cX2_digitAt : ByteArray := prog_4_method_10_code
def yX2_digitAt : MethodName := ⟨RX2, "digitAt", "(I)I"⟩
abbrev cX2_twoDigitsAt : ByteArray := prog_4_method_11_code
def yX2_twoDigitsAt : MethodName := ⟨RX2, "twoDigitsAt", "(I)I"⟩
def RX3 : String := "TakenUpByThePieces"
def TX3 : u_T := fun k => match k with
  | 0 => ("TakenUpByThePieces", "now", "LTakenUpByThePieces$Board;", true)
  | 1 => ("TakenUpByThePieces", "image", "LTakenUpByThePieces$Board;", true)
  | 2 => ("TakenUpByThePieces", "imageTaken", "Z", false)
  | 3 => ("TakenUpByThePieces", "shelves", "[LTakenUpByThePieces$Shelf;", true)
  | 4 => ("TakenUpByThePieces", "minds", "[LTakenUpByThePieces$Board;", true)
  | 5 => ("TakenUpByThePieces", "mind", "LTakenUpByThePieces$Board;", true)
  | 6 => ("TakenUpByThePieces", "asItIs", "LTakenUpByThePieces$Board;", true)
  | 7 => ("TakenUpByThePieces", "gainsOfOne", "[I", true)
  | 8 => ("TakenUpByThePieces", "gainsOfOther", "[I", true)
  | _ => ("TakenUpByThePieces", "seed", "I", false)
def tyX3 : Nat → FieldType := fun k => match k with
  | 0 => .object "TakenUpByThePieces$Board"
  | 1 => .object "TakenUpByThePieces$Board"
  | 2 => .boolean
  | 3 => .array (.object "TakenUpByThePieces$Shelf")
  | 4 => .array (.object "TakenUpByThePieces$Board")
  | 5 => .object "TakenUpByThePieces$Board"
  | 6 => .object "TakenUpByThePieces$Board"
  | 7 => .array .int
  | 8 => .array .int
  | _ => .int
abbrev wsX30 : List Cond := u_ws RX3 TX3 10
theorem nmX3 : ∀ a, a < 10 → ∀ b, b < 10 → a ≠ b → (TX3 a).2.1 ≠ (TX3 b).2.1 := by decide +kernel
theorem tyX3_ok : ∀ k, k < 10 → parseFieldDescriptor (TX3 k).2.2.1 = some (tyX3 k) := by decide +kernel
abbrev cX3_init : ByteArray := prog_1_method_1_code
def yX3_init : MethodName := ⟨RX3, "<init>", "()V"⟩
abbrev cX3_game : ByteArray := prog_1_method_2_code
def yX3_game : MethodName := ⟨RX3, "game", "(I)I"⟩
abbrev cX3_piece : ByteArray := prog_1_method_3_code
def yX3_piece : MethodName := ⟨RX3, "piece", "(II)I"⟩
abbrev cX3_on : ByteArray := prog_1_method_4_code
def yX3_on : MethodName := ⟨RX3, "on", "(I)I"⟩
abbrev cX3_comes : ByteArray := prog_1_method_5_code
def yX3_comes : MethodName := ⟨RX3, "comes", "(III)I"⟩
abbrev cX3_stands : ByteArray := prog_1_method_6_code
def yX3_stands : MethodName := ⟨RX3, "stands", "(II)I"⟩
abbrev cX3_takes : ByteArray := prog_1_method_7_code
def yX3_takes : MethodName := ⟨RX3, "takes", "(I)I"⟩
abbrev cX3_turn : ByteArray := prog_1_method_8_code
def yX3_turn : MethodName := ⟨RX3, "turn", "(I)I"⟩
abbrev cX3_days : ByteArray := prog_1_method_9_code
def yX3_days : MethodName := ⟨RX3, "days", "(I)I"⟩
abbrev cX3_then : ByteArray := prog_1_method_11_code
def yX3_then : MethodName := ⟨RX3, "then", "(II)I"⟩
abbrev cX3_falls : ByteArray := prog_1_method_12_code
def yX3_falls : MethodName := ⟨RX3, "falls", "(I)I"⟩
abbrev cX3_still : ByteArray := prog_1_method_13_code
def yX3_still : MethodName := ⟨RX3, "still", "()I"⟩
abbrev cX3_next : ByteArray := prog_1_method_14_code
def yX3_next : MethodName := ⟨RX3, "next", "(I)I"⟩
abbrev cX3_heard : ByteArray := prog_1_method_15_code
def yX3_heard : MethodName := ⟨RX3, "heard", "(I)I"⟩
abbrev cX3_danger : ByteArray := prog_1_method_16_code
def yX3_danger : MethodName := ⟨RX3, "danger", "(I)I"⟩
abbrev cX3_stand : ByteArray := prog_1_method_17_code
def yX3_stand : MethodName := ⟨RX3, "stand", "(III)I"⟩
abbrev cX3_off : ByteArray := prog_1_method_18_code
def yX3_off : MethodName := ⟨RX3, "off", "(I)I"⟩
abbrev cX3_side : ByteArray := prog_1_method_20_code
def yX3_side : MethodName := ⟨RX3, "side", "(II)I"⟩
abbrev cX3_free : ByteArray := prog_1_method_21_code
def yX3_free : MethodName := ⟨RX3, "free", "(I)I"⟩
abbrev cX3_image : ByteArray := prog_1_method_30_code
def yX3_image : MethodName := ⟨RX3, "image", "()I"⟩
abbrev cX3_restore : ByteArray := prog_1_method_31_code
def yX3_restore : MethodName := ⟨RX3, "restore", "()I"⟩
abbrev cX3_count : ByteArray := prog_1_method_32_code
def yX3_count : MethodName := ⟨RX3, "count", "(I)I"⟩
abbrev cX3_keep : ByteArray := prog_1_method_33_code
def yX3_keep : MethodName := ⟨RX3, "keep", "(IIII)I"⟩
abbrev cX3_isSquare : ByteArray := prog_1_method_40_code
def yX3_isSquare : MethodName := ⟨RX3, "isSquare", "(I)Z"⟩
abbrev cX3_isSide : ByteArray := prog_1_method_41_code
def yX3_isSide : MethodName := ⟨RX3, "isSide", "(I)Z"⟩
abbrev cX3_isKind : ByteArray := prog_1_method_42_code
def yX3_isKind : MethodName := ⟨RX3, "isKind", "(I)Z"⟩
abbrev cX3_isFigure : ByteArray := prog_1_method_43_code
def yX3_isFigure : MethodName := ⟨RX3, "isFigure", "(I)Z"⟩
abbrev cX3_far : ByteArray := prog_1_method_44_code
def yX3_far : MethodName := ⟨RX3, "far", "(II)I"⟩
abbrev cX3_shelfAt : ByteArray := prog_1_method_45_code
def yX3_shelfAt : MethodName := ⟨RX3, "shelfAt", "(I)LTakenUpByThePieces$Shelf;"⟩
abbrev cX3_refusalUnless : ByteArray := prog_1_method_46_code
def yX3_refusalUnless : MethodName := ⟨RX3, "refusalUnless", "(LTakenUpByThePieces$Shelf;I)I"⟩
abbrev cX3_isDone : ByteArray := prog_1_method_47_code
def yX3_isDone : MethodName := ⟨RX3, "isDone", "(LTakenUpByThePieces$Shelf;I)Z"⟩
abbrev cX3_lookAhead : ByteArray := prog_1_method_48_code
def yX3_lookAhead : MethodName := ⟨RX3, "lookAhead", "(I)V"⟩
abbrev cX3_placeInMind : ByteArray := prog_1_method_49_code
def yX3_placeInMind : MethodName := ⟨RX3, "placeInMind", "(II)Z"⟩
abbrev cX3_firstToFall : ByteArray := prog_1_method_50_code
def yX3_firstToFall : MethodName := ⟨RX3, "firstToFall", "()I"⟩
def RX4 : String := "TakenUpByThePiecesModel"
def TX4 : u_T := fun k => match k with
  | _ => ("", "", "", false)
def tyX4 : Nat → FieldType := fun k => match k with
  | _ => .int
abbrev wsX40 : List Cond := u_ws RX4 TX4 0
theorem nmX4 : ∀ a, a < 0 → ∀ b, b < 0 → a ≠ b → (TX4 a).2.1 ≠ (TX4 b).2.1 := by decide +kernel
theorem tyX4_ok : ∀ k, k < 0 → parseFieldDescriptor (TX4 k).2.2.1 = some (tyX4 k) := by decide +kernel
def RJ6 : String := "java/lang/Integer"
def TJ6 : u_T := fun k => match k with
  | _ => ("", "", "", false)
def tyJ6 : Nat → FieldType := fun k => match k with
  | _ => .int
abbrev wsJ60 : List Cond := u_ws RJ6 TJ6 0
theorem nmJ6 : ∀ a, a < 0 → ∀ b, b < 0 → a ≠ b → (TJ6 a).2.1 ≠ (TJ6 b).2.1 := by decide +kernel
theorem tyJ6_ok : ∀ k, k < 0 → parseFieldDescriptor (TJ6 k).2.2.1 = some (tyJ6 k) := by decide +kernel
abbrev cJ6_bitCount_0f7a4 : ByteArray := prog_7_method_49_code
def yJ6_bitCount_0f7a4 : MethodName := ⟨RJ6, "bitCount", "(I)I"⟩
def RJ9 : String := "java/lang/Math"
def TJ9 : u_T := fun k => match k with
  | _ => ("", "", "", false)
def tyJ9 : Nat → FieldType := fun k => match k with
  | _ => .int
abbrev wsJ90 : List Cond := u_ws RJ9 TJ9 0
theorem nmJ9 : ∀ a, a < 0 → ∀ b, b < 0 → a ≠ b → (TJ9 a).2.1 ≠ (TJ9 b).2.1 := by decide +kernel
theorem tyJ9_ok : ∀ k, k < 0 → parseFieldDescriptor (TJ9 k).2.2.1 = some (tyJ9 k) := by decide +kernel
abbrev cJ9_max_7cf53 : ByteArray := prog_8_method_65_code
def yJ9_max_7cf53 : MethodName := ⟨RJ9, "max", "(II)I"⟩
def RJ10 : String := "java/lang/System"
def TJ10 : u_T := fun k => match k with
  | _ => ("", "", "", false)
def tyJ10 : Nat → FieldType := fun k => match k with
  | _ => .int
abbrev wsJ100 : List Cond := u_ws RJ10 TJ10 0
theorem nmJ10 : ∀ a, a < 0 → ∀ b, b < 0 → a ≠ b → (TJ10 a).2.1 ≠ (TJ10 b).2.1 := by decide +kernel
theorem tyJ10_ok : ∀ k, k < 0 → parseFieldDescriptor (TJ10 k).2.2.1 = some (tyJ10 k) := by decide +kernel
def RJ7 : String := "java/util/Arrays"
def TJ7 : u_T := fun k => match k with
  | _ => ("", "", "", false)
def tyJ7 : Nat → FieldType := fun k => match k with
  | _ => .int
abbrev wsJ70 : List Cond := u_ws RJ7 TJ7 0
theorem nmJ7 : ∀ a, a < 0 → ∀ b, b < 0 → a ≠ b → (TJ7 a).2.1 ≠ (TJ7 b).2.1 := by decide +kernel
theorem tyJ7_ok : ∀ k, k < 0 → parseFieldDescriptor (TJ7 k).2.2.1 = some (tyJ7 k) := by decide +kernel
abbrev cJ7_fill_53178 : ByteArray := prog_10_method_103_code
def yJ7_fill_53178 : MethodName := ⟨RJ7, "fill", "([II)V"⟩
def RL : String := "TakenUpByThePiecesLaw"
abbrev cL_cell : ByteArray := method_2_code
def yL_cell : MethodName := ⟨RL, "cell", "([II)I"⟩
abbrev cL_at : ByteArray := method_5_code
def yL_at : MethodName := ⟨RL, "at", "([II)I"⟩
abbrev cL_on : ByteArray := method_6_code
def yL_on : MethodName := ⟨RL, "on", "(III)I"⟩
abbrev cL_what : ByteArray := method_7_code
def yL_what : MethodName := ⟨RL, "what", "([III)I"⟩
abbrev cL_far : ByteArray := method_8_code
def yL_far : MethodName := ⟨RL, "far", "(II)I"⟩
abbrev cL_slide : ByteArray := method_9_code
def yL_slide : MethodName := ⟨RL, "slide", "([IIII)I"⟩
abbrev cL_idea : ByteArray := method_10_code
def yL_idea : MethodName := ⟨RL, "idea", "([III)I"⟩
abbrev cL_ears : ByteArray := method_11_code
def yL_ears : MethodName := ⟨RL, "ears", "(I)I"⟩
abbrev cL_hears : ByteArray := method_13_code
def yL_hears : MethodName := ⟨RL, "hears", "([III)Z"⟩
abbrev cL_heard : ByteArray := method_14_code
def yL_heard : MethodName := ⟨RL, "heard", "([II)I"⟩
abbrev cL_bits : ByteArray := method_15_code
def yL_bits : MethodName := ⟨RL, "bits", "(I)I"⟩
abbrev cL_goes : ByteArray := method_16_code
def yL_goes : MethodName := ⟨RL, "goes", "([II)I"⟩
abbrev cL_day : ByteArray := method_17_code
def yL_day : MethodName := ⟨RL, "day", "([I)V"⟩
abbrev cL_days : ByteArray := method_18_code
def yL_days : MethodName := ⟨RL, "days", "([II)V"⟩
abbrev cL_there : ByteArray := method_19_code
def yL_there : MethodName := ⟨RL, "there", "([II)I"⟩
abbrev cL_board : ByteArray := method_21_code
def yL_board : MethodName := ⟨RL, "board", "(LTakenUpByThePieces;[I[II)Z"⟩
abbrev cL_sight : ByteArray := method_22_code
def yL_sight : MethodName := ⟨RL, "sight", "(LTakenUpByThePieces;)J"⟩
abbrev cL_law : ByteArray := code
def yL_law : MethodName := ⟨RL, "law", "([I)Z"⟩
abbrev vwCl : List vw_C := [(RX0, TX0, 9), (RX2, TX2, 6), (RX3, TX3, 10)]
