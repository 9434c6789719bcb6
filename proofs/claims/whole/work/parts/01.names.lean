-- ===== PART A: goes FIRST, ahead of the names: the tables' words, and 'selects' of the private methods out of them =====
/-- a private method of a class that the tables say can be made, by its rows of tables_1 -/
def lw_okq (q : MethodName × Nat) : Prop := (q.1.cls ≠ "java/lang/invoke/MethodHandle" ∧ q.1.cls ≠ "java/lang/invoke/VarHandle") ∧ Cond.instantiable q.1.cls q.2 ∈ tables_1 ∧ Cond.privateMethod q.1 ∈ tables_1 ∧ Cond.instanceMethod q.1 ∈ tables_1
theorem lw_p0 : lw_okq (⟨"TakenUpByThePieces", "shelfAt", "(I)LTakenUpByThePieces$Shelf;"⟩, 10) := ⟨⟨by decide +kernel, by decide +kernel⟩, List.mem_of_getElem? (i := 18) (by decide +kernel), List.mem_of_getElem? (i := 141) (by decide +kernel), List.mem_of_getElem? (i := 142) (by decide +kernel)⟩
theorem lw_p1 : lw_okq (⟨"TakenUpByThePieces", "isDone", "(LTakenUpByThePieces$Shelf;I)Z"⟩, 10) := ⟨⟨by decide +kernel, by decide +kernel⟩, List.mem_of_getElem? (i := 18) (by decide +kernel), List.mem_of_getElem? (i := 171) (by decide +kernel), List.mem_of_getElem? (i := 172) (by decide +kernel)⟩
theorem lw_p2 : lw_okq (⟨"TakenUpByThePieces", "lookAhead", "(I)V"⟩, 10) := ⟨⟨by decide +kernel, by decide +kernel⟩, List.mem_of_getElem? (i := 18) (by decide +kernel), List.mem_of_getElem? (i := 351) (by decide +kernel), List.mem_of_getElem? (i := 352) (by decide +kernel)⟩
theorem lw_p3 : lw_okq (⟨"TakenUpByThePieces", "firstToFall", "()I"⟩, 10) := ⟨⟨by decide +kernel, by decide +kernel⟩, List.mem_of_getElem? (i := 18) (by decide +kernel), List.mem_of_getElem? (i := 376) (by decide +kernel), List.mem_of_getElem? (i := 377) (by decide +kernel)⟩
theorem lw_p4 : lw_okq (⟨"TakenUpByThePieces", "placeInMind", "(II)Z"⟩, 10) := ⟨⟨by decide +kernel, by decide +kernel⟩, List.mem_of_getElem? (i := 18) (by decide +kernel), List.mem_of_getElem? (i := 407) (by decide +kernel), List.mem_of_getElem? (i := 408) (by decide +kernel)⟩
theorem lw_p5 : lw_okq (⟨"TakenUpByThePieces", "wentAsTold", "(ILTakenUpByThePieces$Shelf;I)Z"⟩, 10) := ⟨⟨by decide +kernel, by decide +kernel⟩, List.mem_of_getElem? (i := 18) (by decide +kernel), List.mem_of_getElem? (i := 458) (by decide +kernel), List.mem_of_getElem? (i := 459) (by decide +kernel)⟩
theorem lw_p6 : lw_okq (⟨"TakenUpByThePieces", "firstPairAtRest", "()I"⟩, 10) := ⟨⟨by decide +kernel, by decide +kernel⟩, List.mem_of_getElem? (i := 18) (by decide +kernel), List.mem_of_getElem? (i := 483) (by decide +kernel), List.mem_of_getElem? (i := 484) (by decide +kernel)⟩
theorem lw_p7 : lw_okq (⟨"TakenUpByThePieces", "setUpByDraws", "()V"⟩, 10) := ⟨⟨by decide +kernel, by decide +kernel⟩, List.mem_of_getElem? (i := 18) (by decide +kernel), List.mem_of_getElem? (i := 514) (by decide +kernel), List.mem_of_getElem? (i := 515) (by decide +kernel)⟩
theorem lw_p8 : lw_okq (⟨"TakenUpByThePieces", "draw", "(I)I"⟩, 10) := ⟨⟨by decide +kernel, by decide +kernel⟩, List.mem_of_getElem? (i := 18) (by decide +kernel), List.mem_of_getElem? (i := 522) (by decide +kernel), List.mem_of_getElem? (i := 523) (by decide +kernel)⟩
theorem lw_p9 : lw_okq (⟨"java/lang/Throwable", "fillInStackTrace", "(I)Ljava/lang/Throwable;"⟩, 6) := ⟨⟨by decide +kernel, by decide +kernel⟩, List.mem_of_getElem? (i := 629) (by decide +kernel), List.mem_of_getElem? (i := 627) (by decide +kernel), List.mem_of_getElem? (i := 628) (by decide +kernel)⟩
theorem lw_p10 : lw_okq (⟨"TakenUpByThePiecesModel", "wrongRow", "(II)I"⟩, 17) := ⟨⟨by decide +kernel, by decide +kernel⟩, List.mem_of_getElem? (i := 720) (by decide +kernel), List.mem_of_getElem? (i := 782) (by decide +kernel), List.mem_of_getElem? (i := 783) (by decide +kernel)⟩
theorem lw_p11 : lw_okq (⟨"TakenUpByThePiecesModel", "readsStatement", "()Z"⟩, 17) := ⟨⟨by decide +kernel, by decide +kernel⟩, List.mem_of_getElem? (i := 720) (by decide +kernel), List.mem_of_getElem? (i := 792) (by decide +kernel), List.mem_of_getElem? (i := 793) (by decide +kernel)⟩
theorem lw_p12 : lw_okq (⟨"TakenUpByThePiecesModel", "here", "()I"⟩, 17) := ⟨⟨by decide +kernel, by decide +kernel⟩, List.mem_of_getElem? (i := 720) (by decide +kernel), List.mem_of_getElem? (i := 796) (by decide +kernel), List.mem_of_getElem? (i := 797) (by decide +kernel)⟩
theorem lw_p13 : lw_okq (⟨"TakenUpByThePiecesModel", "readsNumber", "(II)Z"⟩, 17) := ⟨⟨by decide +kernel, by decide +kernel⟩, List.mem_of_getElem? (i := 720) (by decide +kernel), List.mem_of_getElem? (i := 800) (by decide +kernel), List.mem_of_getElem? (i := 801) (by decide +kernel)⟩
theorem lw_p14 : lw_okq (⟨"TakenUpByThePiecesModel", "isDone", "(I)Z"⟩, 17) := ⟨⟨by decide +kernel, by decide +kernel⟩, List.mem_of_getElem? (i := 720) (by decide +kernel), List.mem_of_getElem? (i := 807) (by decide +kernel), List.mem_of_getElem? (i := 808) (by decide +kernel)⟩
theorem lw_p15 : lw_okq (⟨"TakenUpByThePiecesModel", "adds", "(IIII)V"⟩, 17) := ⟨⟨by decide +kernel, by decide +kernel⟩, List.mem_of_getElem? (i := 720) (by decide +kernel), List.mem_of_getElem? (i := 823) (by decide +kernel), List.mem_of_getElem? (i := 824) (by decide +kernel)⟩
def lw_privs_1 : List (MethodName × Nat) := [(⟨"TakenUpByThePieces", "shelfAt", "(I)LTakenUpByThePieces$Shelf;"⟩, 10), (⟨"TakenUpByThePieces", "isDone", "(LTakenUpByThePieces$Shelf;I)Z"⟩, 10), (⟨"TakenUpByThePieces", "lookAhead", "(I)V"⟩, 10), (⟨"TakenUpByThePieces", "firstToFall", "()I"⟩, 10), (⟨"TakenUpByThePieces", "placeInMind", "(II)Z"⟩, 10), (⟨"TakenUpByThePieces", "wentAsTold", "(ILTakenUpByThePieces$Shelf;I)Z"⟩, 10), (⟨"TakenUpByThePieces", "firstPairAtRest", "()I"⟩, 10), (⟨"TakenUpByThePieces", "setUpByDraws", "()V"⟩, 10), (⟨"TakenUpByThePieces", "draw", "(I)I"⟩, 10), (⟨"java/lang/Throwable", "fillInStackTrace", "(I)Ljava/lang/Throwable;"⟩, 6), (⟨"TakenUpByThePiecesModel", "wrongRow", "(II)I"⟩, 17), (⟨"TakenUpByThePiecesModel", "readsStatement", "()Z"⟩, 17), (⟨"TakenUpByThePiecesModel", "here", "()I"⟩, 17), (⟨"TakenUpByThePiecesModel", "readsNumber", "(II)Z"⟩, 17), (⟨"TakenUpByThePiecesModel", "isDone", "(I)Z"⟩, 17), (⟨"TakenUpByThePiecesModel", "adds", "(IIII)V"⟩, 17)]
theorem lw_r1 : ∀ q ∈ lw_privs_1, lw_okq q := List.forall_mem_cons.mpr ⟨lw_p0, List.forall_mem_cons.mpr ⟨lw_p1, List.forall_mem_cons.mpr ⟨lw_p2, List.forall_mem_cons.mpr ⟨lw_p3, List.forall_mem_cons.mpr ⟨lw_p4, List.forall_mem_cons.mpr ⟨lw_p5, List.forall_mem_cons.mpr ⟨lw_p6, List.forall_mem_cons.mpr ⟨lw_p7, List.forall_mem_cons.mpr ⟨lw_p8, List.forall_mem_cons.mpr ⟨lw_p9, List.forall_mem_cons.mpr ⟨lw_p10, List.forall_mem_cons.mpr ⟨lw_p11, List.forall_mem_cons.mpr ⟨lw_p12, List.forall_mem_cons.mpr ⟨lw_p13, List.forall_mem_cons.mpr ⟨lw_p14, List.forall_mem_cons.mpr ⟨lw_p15, fun _ h => absurd h List.not_mem_nil⟩⟩⟩⟩⟩⟩⟩⟩⟩⟩⟩⟩⟩⟩⟩⟩
theorem lw_p16 : lw_okq (⟨"TakenUpByThePiecesModel", "isPiece", "(I)Z"⟩, 17) := ⟨⟨by decide +kernel, by decide +kernel⟩, List.mem_of_getElem? (i := 720) (by decide +kernel), List.mem_of_getElem? (i := 827) (by decide +kernel), List.mem_of_getElem? (i := 828) (by decide +kernel)⟩
theorem lw_p17 : lw_okq (⟨"TakenUpByThePiecesModel", "mayStand", "(II)Z"⟩, 17) := ⟨⟨by decide +kernel, by decide +kernel⟩, List.mem_of_getElem? (i := 720) (by decide +kernel), List.mem_of_getElem? (i := 831) (by decide +kernel), List.mem_of_getElem? (i := 832) (by decide +kernel)⟩
theorem lw_p18 : lw_okq (⟨"TakenUpByThePiecesModel", "nextIdea", "(I)I"⟩, 17) := ⟨⟨by decide +kernel, by decide +kernel⟩, List.mem_of_getElem? (i := 720) (by decide +kernel), List.mem_of_getElem? (i := 911) (by decide +kernel), List.mem_of_getElem? (i := 912) (by decide +kernel)⟩
theorem lw_p19 : lw_okq (⟨"TakenUpByThePiecesModel", "wrongKept", "(I)I"⟩, 17) := ⟨⟨by decide +kernel, by decide +kernel⟩, List.mem_of_getElem? (i := 720) (by decide +kernel), List.mem_of_getElem? (i := 923) (by decide +kernel), List.mem_of_getElem? (i := 924) (by decide +kernel)⟩
theorem lw_p20 : lw_okq (⟨"TakenUpByThePiecesModel", "sets", "(II)I"⟩, 17) := ⟨⟨by decide +kernel, by decide +kernel⟩, List.mem_of_getElem? (i := 720) (by decide +kernel), List.mem_of_getElem? (i := 931) (by decide +kernel), List.mem_of_getElem? (i := 932) (by decide +kernel)⟩
theorem lw_p21 : lw_okq (⟨"TakenUpByThePiecesModel", "inMind", "(I)V"⟩, 17) := ⟨⟨by decide +kernel, by decide +kernel⟩, List.mem_of_getElem? (i := 720) (by decide +kernel), List.mem_of_getElem? (i := 957) (by decide +kernel), List.mem_of_getElem? (i := 958) (by decide +kernel)⟩
theorem lw_p22 : lw_okq (⟨"TakenUpByThePiecesModel", "firstFalls", "()I"⟩, 17) := ⟨⟨by decide +kernel, by decide +kernel⟩, List.mem_of_getElem? (i := 720) (by decide +kernel), List.mem_of_getElem? (i := 972) (by decide +kernel), List.mem_of_getElem? (i := 973) (by decide +kernel)⟩
theorem lw_p23 : lw_okq (⟨"TakenUpByThePiecesModel", "fallsOf", "(I)I"⟩, 17) := ⟨⟨by decide +kernel, by decide +kernel⟩, List.mem_of_getElem? (i := 720) (by decide +kernel), List.mem_of_getElem? (i := 977) (by decide +kernel), List.mem_of_getElem? (i := 978) (by decide +kernel)⟩
theorem lw_p24 : lw_okq (⟨"TakenUpByThePiecesModel", "isMoved", "()Z"⟩, 17) := ⟨⟨by decide +kernel, by decide +kernel⟩, List.mem_of_getElem? (i := 720) (by decide +kernel), List.mem_of_getElem? (i := 985) (by decide +kernel), List.mem_of_getElem? (i := 986) (by decide +kernel)⟩
theorem lw_p25 : lw_okq (⟨"TakenUpByThePiecesModel", "areTwo", "(II)Z"⟩, 17) := ⟨⟨by decide +kernel, by decide +kernel⟩, List.mem_of_getElem? (i := 720) (by decide +kernel), List.mem_of_getElem? (i := 1014) (by decide +kernel), List.mem_of_getElem? (i := 1015) (by decide +kernel)⟩
theorem lw_p26 : lw_okq (⟨"TakenUpByThePiecesModel", "groupsOf", "(I)I"⟩, 17) := ⟨⟨by decide +kernel, by decide +kernel⟩, List.mem_of_getElem? (i := 720) (by decide +kernel), List.mem_of_getElem? (i := 1022) (by decide +kernel), List.mem_of_getElem? (i := 1023) (by decide +kernel)⟩
theorem lw_p27 : lw_okq (⟨"TakenUpByThePiecesModel", "farthestOf", "(I)I"⟩, 17) := ⟨⟨by decide +kernel, by decide +kernel⟩, List.mem_of_getElem? (i := 720) (by decide +kernel), List.mem_of_getElem? (i := 1026) (by decide +kernel), List.mem_of_getElem? (i := 1027) (by decide +kernel)⟩
theorem lw_p28 : lw_okq (⟨"TakenUpByThePiecesModel", "pairs", "()I"⟩, 17) := ⟨⟨by decide +kernel, by decide +kernel⟩, List.mem_of_getElem? (i := 720) (by decide +kernel), List.mem_of_getElem? (i := 1034) (by decide +kernel), List.mem_of_getElem? (i := 1035) (by decide +kernel)⟩
theorem lw_p29 : lw_okq (⟨"TakenUpByThePiecesModel", "quietOnes", "()I"⟩, 17) := ⟨⟨by decide +kernel, by decide +kernel⟩, List.mem_of_getElem? (i := 720) (by decide +kernel), List.mem_of_getElem? (i := 1038) (by decide +kernel), List.mem_of_getElem? (i := 1039) (by decide +kernel)⟩
theorem lw_p30 : lw_okq (⟨"TakenUpByThePiecesModel", "isWhereSo", "(II)Z"⟩, 17) := ⟨⟨by decide +kernel, by decide +kernel⟩, List.mem_of_getElem? (i := 720) (by decide +kernel), List.mem_of_getElem? (i := 1046) (by decide +kernel), List.mem_of_getElem? (i := 1047) (by decide +kernel)⟩
theorem lw_p31 : lw_okq (⟨"TakenUpByThePiecesModel", "isTold", "(III)Z"⟩, 17) := ⟨⟨by decide +kernel, by decide +kernel⟩, List.mem_of_getElem? (i := 720) (by decide +kernel), List.mem_of_getElem? (i := 1053) (by decide +kernel), List.mem_of_getElem? (i := 1054) (by decide +kernel)⟩
def lw_privs_2 : List (MethodName × Nat) := [(⟨"TakenUpByThePiecesModel", "isPiece", "(I)Z"⟩, 17), (⟨"TakenUpByThePiecesModel", "mayStand", "(II)Z"⟩, 17), (⟨"TakenUpByThePiecesModel", "nextIdea", "(I)I"⟩, 17), (⟨"TakenUpByThePiecesModel", "wrongKept", "(I)I"⟩, 17), (⟨"TakenUpByThePiecesModel", "sets", "(II)I"⟩, 17), (⟨"TakenUpByThePiecesModel", "inMind", "(I)V"⟩, 17), (⟨"TakenUpByThePiecesModel", "firstFalls", "()I"⟩, 17), (⟨"TakenUpByThePiecesModel", "fallsOf", "(I)I"⟩, 17), (⟨"TakenUpByThePiecesModel", "isMoved", "()Z"⟩, 17), (⟨"TakenUpByThePiecesModel", "areTwo", "(II)Z"⟩, 17), (⟨"TakenUpByThePiecesModel", "groupsOf", "(I)I"⟩, 17), (⟨"TakenUpByThePiecesModel", "farthestOf", "(I)I"⟩, 17), (⟨"TakenUpByThePiecesModel", "pairs", "()I"⟩, 17), (⟨"TakenUpByThePiecesModel", "quietOnes", "()I"⟩, 17), (⟨"TakenUpByThePiecesModel", "isWhereSo", "(II)Z"⟩, 17), (⟨"TakenUpByThePiecesModel", "isTold", "(III)Z"⟩, 17)]
theorem lw_r2 : ∀ q ∈ lw_privs_2, lw_okq q := List.forall_mem_cons.mpr ⟨lw_p16, List.forall_mem_cons.mpr ⟨lw_p17, List.forall_mem_cons.mpr ⟨lw_p18, List.forall_mem_cons.mpr ⟨lw_p19, List.forall_mem_cons.mpr ⟨lw_p20, List.forall_mem_cons.mpr ⟨lw_p21, List.forall_mem_cons.mpr ⟨lw_p22, List.forall_mem_cons.mpr ⟨lw_p23, List.forall_mem_cons.mpr ⟨lw_p24, List.forall_mem_cons.mpr ⟨lw_p25, List.forall_mem_cons.mpr ⟨lw_p26, List.forall_mem_cons.mpr ⟨lw_p27, List.forall_mem_cons.mpr ⟨lw_p28, List.forall_mem_cons.mpr ⟨lw_p29, List.forall_mem_cons.mpr ⟨lw_p30, List.forall_mem_cons.mpr ⟨lw_p31, fun _ h => absurd h List.not_mem_nil⟩⟩⟩⟩⟩⟩⟩⟩⟩⟩⟩⟩⟩⟩⟩⟩
theorem lw_p32 : lw_okq (⟨"TakenUpByThePiecesModel", "hasBy", "(IIIIII)I"⟩, 17) := ⟨⟨by decide +kernel, by decide +kernel⟩, List.mem_of_getElem? (i := 720) (by decide +kernel), List.mem_of_getElem? (i := 1069) (by decide +kernel), List.mem_of_getElem? (i := 1070) (by decide +kernel)⟩
theorem lw_p33 : lw_okq (⟨"TakenUpByThePiecesModel", "setsUp", "()V"⟩, 17) := ⟨⟨by decide +kernel, by decide +kernel⟩, List.mem_of_getElem? (i := 720) (by decide +kernel), List.mem_of_getElem? (i := 1100) (by decide +kernel), List.mem_of_getElem? (i := 1101) (by decide +kernel)⟩
theorem lw_p34 : lw_okq (⟨"TakenUpByThePiecesModel", "drawn", "(I)I"⟩, 17) := ⟨⟨by decide +kernel, by decide +kernel⟩, List.mem_of_getElem? (i := 720) (by decide +kernel), List.mem_of_getElem? (i := 1104) (by decide +kernel), List.mem_of_getElem? (i := 1105) (by decide +kernel)⟩
def lw_privs_3 : List (MethodName × Nat) := [(⟨"TakenUpByThePiecesModel", "hasBy", "(IIIIII)I"⟩, 17), (⟨"TakenUpByThePiecesModel", "setsUp", "()V"⟩, 17), (⟨"TakenUpByThePiecesModel", "drawn", "(I)I"⟩, 17)]
theorem lw_r3 : ∀ q ∈ lw_privs_3, lw_okq q := List.forall_mem_cons.mpr ⟨lw_p32, List.forall_mem_cons.mpr ⟨lw_p33, List.forall_mem_cons.mpr ⟨lw_p34, fun _ h => absurd h List.not_mem_nil⟩⟩⟩
def lw_privs : List (MethodName × Nat) := lw_privs_1 ++ (lw_privs_2 ++ (lw_privs_3))
def lw_tbl : List Cond := k2_sels lw_privs ++ tables_1
theorem lw_privs_ok : ∀ q ∈ lw_privs, lw_okq q := by
  show ∀ q ∈ lw_privs_1 ++ (lw_privs_2 ++ (lw_privs_3)), lw_okq q
  exact List.forall_mem_append.mpr ⟨lw_r1, List.forall_mem_append.mpr ⟨lw_r2, lw_r3⟩⟩
def RX0 : String := "TakenUpByThePieces$Board"
def TX0 : u_T := fun k => match k with
  | 0 => ("TakenUpByThePieces$Board", "kind", "[I", true)
  | 1 => ("TakenUpByThePieces$Board", "figure", "[I", true)
  | 2 => ("TakenUpByThePieces$Board", "side", "[I", true)
  | 3 => ("TakenUpByThePieces$Board", "square", "[I", true)
  | 4 => ("TakenUpByThePieces$Board", "standing", "[I", true)
  | 5 => ("TakenUpByThePieces$Board", "count", "I", false)
  | 6 => ("TakenUpByThePieces$Board", "turn", "I", false)
  | 7 => ("TakenUpByThePieces$Board", "thought", "I", false)
  | _ => ("TakenUpByThePieces$Board", "day", "I", false)
def tyX0 : Nat → FieldType := fun k => match k with
  | 0 => .array .int
  | 1 => .array .int
  | 2 => .array .int
  | 3 => .array .int
  | 4 => .array .int
  | 5 => .int
  | 6 => .int
  | 7 => .int
  | _ => .int
abbrev wsX00 : List Cond := u_ws RX0 TX0 9
theorem nmX0 : ∀ a, a < 9 → ∀ b, b < 9 → a ≠ b → (TX0 a).2.1 ≠ (TX0 b).2.1 := by decide +kernel
theorem tyX0_ok : ∀ k, k < 9 → parseFieldDescriptor (TX0 k).2.2.1 = some (tyX0 k) := by decide +kernel
abbrev cX0_init : ByteArray := prog_2_method_1_code
def yX0_init : MethodName := ⟨RX0, "<init>", "()V"⟩
abbrev cX0_becomes : ByteArray := prog_2_method_2_code
def yX0_becomes : MethodName := ⟨RX0, "becomes", "(LTakenUpByThePieces$Board;)V"⟩
abbrev cX0_has : ByteArray := prog_2_method_3_code
def yX0_has : MethodName := ⟨RX0, "has", "(I)Z"⟩
abbrev cX0_isThere : ByteArray := prog_2_method_4_code
def yX0_isThere : MethodName := ⟨RX0, "isThere", "(I)Z"⟩
abbrev cX0_isThereOf : ByteArray := prog_2_method_5_code
def yX0_isThereOf : MethodName := ⟨RX0, "isThereOf", "(II)Z"⟩
abbrev cX0_squareOf : ByteArray := prog_2_method_6_code
def yX0_squareOf : MethodName := ⟨RX0, "squareOf", "(I)I"⟩
abbrev cX0_squareOrNone : ByteArray := prog_2_method_7_code
def yX0_squareOrNone : MethodName := ⟨RX0, "squareOrNone", "(I)I"⟩
abbrev cX0_isFree : ByteArray := prog_2_method_8_code
def yX0_isFree : MethodName := ⟨RX0, "isFree", "(I)Z"⟩
abbrev cX0_isHeldBy : ByteArray := prog_2_method_9_code
def yX0_isHeldBy : MethodName := ⟨RX0, "isHeldBy", "(II)Z"⟩
abbrev cX0_addPiece : ByteArray := prog_2_method_10_code
def yX0_addPiece : MethodName := ⟨RX0, "addPiece", "(IIII)Z"⟩
abbrev cX0_movePiece : ByteArray := prog_2_method_11_code
def yX0_movePiece : MethodName := ⟨RX0, "movePiece", "(II)Z"⟩
abbrev cX0_takeOff : ByteArray := prog_2_method_12_code
def yX0_takeOff : MethodName := ⟨RX0, "takeOff", "(I)Z"⟩
abbrev cX0_takeAllOff : ByteArray := prog_2_method_13_code
def yX0_takeAllOff : MethodName := ⟨RX0, "takeAllOff", "()V"⟩
abbrev cX0_turnInto : ByteArray := prog_2_method_14_code
def yX0_turnInto : MethodName := ⟨RX0, "turnInto", "(III)Z"⟩
abbrev cX0_giveTurn : ByteArray := prog_2_method_15_code
def yX0_giveTurn : MethodName := ⟨RX0, "giveTurn", "(I)Z"⟩
abbrev cX0_passWithinLast : ByteArray := prog_2_method_16_code
def yX0_passWithinLast : MethodName := ⟨RX0, "passWithinLast", "(I)Z"⟩
abbrev cX0_passDays : ByteArray := prog_2_method_17_code
def yX0_passDays : MethodName := ⟨RX0, "passDays", "(I)V"⟩
abbrev cX0_passDay : ByteArray := prog_2_method_18_code
def yX0_passDay : MethodName := ⟨RX0, "passDay", "(IZ)Z"⟩
abbrev cX0_goerOn : ByteArray := prog_2_method_19_code
def yX0_goerOn : MethodName := ⟨RX0, "goerOn", "(IIZ)I"⟩
abbrev cX0_hearersOf : ByteArray := prog_2_method_20_code
def yX0_hearersOf : MethodName := ⟨RX0, "hearersOf", "(IZ)I"⟩
abbrev cX0_ideaOf : ByteArray := prog_2_method_21_code
def yX0_ideaOf : MethodName := ⟨RX0, "ideaOf", "(II)I"⟩
abbrev cX0_pawnIdea : ByteArray := prog_2_method_22_code
def yX0_pawnIdea : MethodName := ⟨RX0, "pawnIdea", "(I)I"⟩
abbrev cX0_knightIdea : ByteArray := prog_2_method_23_code
def yX0_knightIdea : MethodName := ⟨RX0, "knightIdea", "(I)I"⟩
abbrev cX0_bishopIdea : ByteArray := prog_2_method_24_code
def yX0_bishopIdea : MethodName := ⟨RX0, "bishopIdea", "(II)I"⟩
abbrev cX0_kingIdea : ByteArray := prog_2_method_25_code
def yX0_kingIdea : MethodName := ⟨RX0, "kingIdea", "(I)I"⟩
abbrev cX0_slideIdea : ByteArray := prog_2_method_26_code
def yX0_slideIdea : MethodName := ⟨RX0, "slideIdea", "(III)I"⟩
abbrev cX0_squareFrom : ByteArray := prog_2_method_27_code
def yX0_squareFrom : MethodName := ⟨RX0, "squareFrom", "(III)I"⟩
abbrev cX0_howManyOf : ByteArray := prog_2_method_28_code
def yX0_howManyOf : MethodName := ⟨RX0, "howManyOf", "(I)I"⟩
abbrev cX0_howManyThere : ByteArray := prog_2_method_29_code
def yX0_howManyThere : MethodName := ⟨RX0, "howManyThere", "()I"⟩
abbrev cX0_bitsThere : ByteArray := prog_2_method_30_code
def yX0_bitsThere : MethodName := ⟨RX0, "bitsThere", "()I"⟩
abbrev cX0_worthOf : ByteArray := prog_2_method_31_code
def yX0_worthOf : MethodName := ⟨RX0, "worthOf", "(I)I"⟩
abbrev cX0_worthWithout : ByteArray := prog_2_method_32_code
def yX0_worthWithout : MethodName := ⟨RX0, "worthWithout", "(I)I"⟩
abbrev cX0_gainOf : ByteArray := prog_2_method_33_code
def yX0_gainOf : MethodName := ⟨RX0, "gainOf", "(I)I"⟩
abbrev cX0_groupsOf : ByteArray := prog_2_method_34_code
def yX0_groupsOf : MethodName := ⟨RX0, "groupsOf", "(I)I"⟩
abbrev cX0_groupAround : ByteArray := prog_2_method_35_code
def yX0_groupAround : MethodName := ⟨RX0, "groupAround", "(I)I"⟩
abbrev cX0_farthestOf : ByteArray := prog_2_method_36_code
def yX0_farthestOf : MethodName := ⟨RX0, "farthestOf", "(I)I"⟩
abbrev cX0_pairsSideBySide : ByteArray := prog_2_method_37_code
def yX0_pairsSideBySide : MethodName := ⟨RX0, "pairsSideBySide", "()I"⟩
abbrev cX0_quietOn : ByteArray := prog_2_method_38_code
def yX0_quietOn : MethodName := ⟨RX0, "quietOn", "(I)I"⟩
def RX1 : String := "TakenUpByThePieces$Kinds"
def TX1 : u_T := fun k => match k with
  | _ => ("", "", "", false)
def tyX1 : Nat → FieldType := fun k => match k with
  | _ => .int
abbrev wsX10 : List Cond := u_ws RX1 TX1 0
theorem nmX1 : ∀ a, a < 0 → ∀ b, b < 0 → a ≠ b → (TX1 a).2.1 ≠ (TX1 b).2.1 := by decide +kernel
theorem tyX1_ok : ∀ k, k < 0 → parseFieldDescriptor (TX1 k).2.2.1 = some (tyX1 k) := by decide +kernel
abbrev cX1_earsWith : ByteArray := prog_3_method_2_code
def yX1_earsWith : MethodName := ⟨RX1, "earsWith", "(II)I"⟩
abbrev cX1_worthWith : ByteArray := prog_3_method_3_code
def yX1_worthWith : MethodName := ⟨RX1, "worthWith", "(II)I"⟩
abbrev cX1_costWith : ByteArray := prog_3_method_4_code
def yX1_costWith : MethodName := ⟨RX1, "costWith", "(II)I"⟩
abbrev cX1_failWith : ByteArray := prog_3_method_5_code
def yX1_failWith : MethodName := ⟨RX1, "failWith", "(II)V"⟩
def RX2 : String := "TakenUpByThePieces$Shelf"
def TX2 : u_T := fun k => match k with
  | 0 => ("TakenUpByThePieces$Shelf", "holds", "I", false)
  | 1 => ("TakenUpByThePieces$Shelf", "kind", "I", false)
  | 2 => ("TakenUpByThePieces$Shelf", "figure", "I", false)
  | 3 => ("TakenUpByThePieces$Shelf", "sort", "I", false)
  | 4 => ("TakenUpByThePieces$Shelf", "size", "I", false)
  | _ => ("TakenUpByThePieces$Shelf", "elements", "[I", true)
def tyX2 : Nat → FieldType := fun k => match k with
  | 0 => .int
  | 1 => .int
  | 2 => .int
  | 3 => .int
  | 4 => .int
  | _ => .array .int
abbrev wsX20 : List Cond := u_ws RX2 TX2 6
theorem nmX2 : ∀ a, a < 6 → ∀ b, b < 6 → a ≠ b → (TX2 a).2.1 ≠ (TX2 b).2.1 := by decide +kernel
theorem tyX2_ok : ∀ k, k < 6 → parseFieldDescriptor (TX2 k).2.2.1 = some (tyX2 k) := by decide +kernel
abbrev cX2_init : ByteArray := prog_4_method_1_code
def yX2_init : MethodName := ⟨RX2, "<init>", "()V"⟩
abbrev cX2_becomesRow : ByteArray := prog_4_method_2_code
def yX2_becomesRow : MethodName := ⟨RX2, "becomesRow", "(II)V"⟩
abbrev cX2_hasPlace : ByteArray := prog_4_method_3_code
def yX2_hasPlace : MethodName := ⟨RX2, "hasPlace", "(I)Z"⟩
abbrev cX2_hasPlaces : ByteArray := prog_4_method_4_code
def yX2_hasPlaces : MethodName := ⟨RX2, "hasPlaces", "(II)Z"⟩
abbrev cX2_elementAt : ByteArray := prog_4_method_5_code
def yX2_elementAt : MethodName := ⟨RX2, "elementAt", "(I)I"⟩
abbrev cX2_putIn : ByteArray := prog_4_method_6_code
def yX2_putIn : MethodName := ⟨RX2, "putIn", "(II)Z"⟩
abbrev cX2_isSkipped : ByteArray := prog_4_method_7_code
def yX2_isSkipped : MethodName := ⟨RX2, "isSkipped", "(I)Z"⟩
abbrev cX2_digitsBehind : ByteArray := prog_4_method_8_code
def yX2_digitsBehind : MethodName := ⟨RX2, "digitsBehind", "(I)I"⟩
abbrev cX2_wrongByte : ByteArray := prog_4_method_9_code
def yX2_wrongByte : MethodName := ⟨RX2, "wrongByte", "()I"⟩
abbrev cX2_digitAt : ByteArray := prog_4_method_10_code
def yX2_digitAt : MethodName := ⟨RX2, "digitAt", "(I)I"⟩
abbrev cX2_twoDigitsAt : ByteArray := prog_4_method_11_code
def yX2_twoDigitsAt : MethodName := ⟨RX2, "twoDigitsAt", "(I)I"⟩
def RX3 : String := "TakenUpByThePieces"
def TX3 : u_T := fun k => match k with
  | 0 => ("TakenUpByThePieces", "now", "LTakenUpByThePieces$Board;", true)
  | 1 => ("TakenUpByThePieces", "image", "LTakenUpByThePieces$Board;", true)
  | 2 => ("TakenUpByThePieces", "imageTaken", "Z", false)
  | 3 => ("TakenUpByThePieces", "shelves", "[LTakenUpByThePieces$Shelf;", true)
  | 4 => ("TakenUpByThePieces", "minds", "[LTakenUpByThePieces$Board;", true)
  | 5 => ("TakenUpByThePieces", "mind", "LTakenUpByThePieces$Board;", true)
  | 6 => ("TakenUpByThePieces", "asItIs", "LTakenUpByThePieces$Board;", true)
  | 7 => ("TakenUpByThePieces", "gainsOfOne", "[I", true)
  | 8 => ("TakenUpByThePieces", "gainsOfOther", "[I", true)
  | _ => ("TakenUpByThePieces", "seed", "I", false)
def tyX3 : Nat → FieldType := fun k => match k with
  | 0 => .object "TakenUpByThePieces$Board"
  | 1 => .object "TakenUpByThePieces$Board"
  | 2 => .boolean
  | 3 => .array (.object "TakenUpByThePieces$Shelf")
  | 4 => .array (.object "TakenUpByThePieces$Board")
  | 5 => .object "TakenUpByThePieces$Board"
  | 6 => .object "TakenUpByThePieces$Board"
  | 7 => .array .int
  | 8 => .array .int
  | _ => .int
abbrev wsX30 : List Cond := u_ws RX3 TX3 10
theorem nmX3 : ∀ a, a < 10 → ∀ b, b < 10 → a ≠ b → (TX3 a).2.1 ≠ (TX3 b).2.1 := by decide +kernel
theorem tyX3_ok : ∀ k, k < 10 → parseFieldDescriptor (TX3 k).2.2.1 = some (tyX3 k) := by decide +kernel
abbrev cX3_init : ByteArray := prog_1_method_1_code
def yX3_init : MethodName := ⟨RX3, "<init>", "()V"⟩
abbrev cX3_game : ByteArray := prog_1_method_2_code
def yX3_game : MethodName := ⟨RX3, "game", "(I)I"⟩
abbrev cX3_piece : ByteArray := prog_1_method_3_code
def yX3_piece : MethodName := ⟨RX3, "piece", "(II)I"⟩
abbrev cX3_on : ByteArray := prog_1_method_4_code
def yX3_on : MethodName := ⟨RX3, "on", "(I)I"⟩
abbrev cX3_comes : ByteArray := prog_1_method_5_code
def yX3_comes : MethodName := ⟨RX3, "comes", "(III)I"⟩
abbrev cX3_stands : ByteArray := prog_1_method_6_code
def yX3_stands : MethodName := ⟨RX3, "stands", "(II)I"⟩
abbrev cX3_takes : ByteArray := prog_1_method_7_code
def yX3_takes : MethodName := ⟨RX3, "takes", "(I)I"⟩
abbrev cX3_turn : ByteArray := prog_1_method_8_code
def yX3_turn : MethodName := ⟨RX3, "turn", "(I)I"⟩
abbrev cX3_days : ByteArray := prog_1_method_9_code
def yX3_days : MethodName := ⟨RX3, "days", "(I)I"⟩
abbrev cX3_squareThen : ByteArray := prog_1_method_10_code
def yX3_squareThen : MethodName := ⟨RX3, "squareThen", "(II)I"⟩
abbrev cX3_then : ByteArray := prog_1_method_11_code
def yX3_then : MethodName := ⟨RX3, "then", "(II)I"⟩
abbrev cX3_falls : ByteArray := prog_1_method_12_code
def yX3_falls : MethodName := ⟨RX3, "falls", "(I)I"⟩
abbrev cX3_still : ByteArray := prog_1_method_13_code
def yX3_still : MethodName := ⟨RX3, "still", "()I"⟩
abbrev cX3_next : ByteArray := prog_1_method_14_code
def yX3_next : MethodName := ⟨RX3, "next", "(I)I"⟩
abbrev cX3_heard : ByteArray := prog_1_method_15_code
def yX3_heard : MethodName := ⟨RX3, "heard", "(I)I"⟩
abbrev cX3_danger : ByteArray := prog_1_method_16_code
def yX3_danger : MethodName := ⟨RX3, "danger", "(I)I"⟩
abbrev cX3_stand : ByteArray := prog_1_method_17_code
def yX3_stand : MethodName := ⟨RX3, "stand", "(III)I"⟩
abbrev cX3_off : ByteArray := prog_1_method_18_code
def yX3_off : MethodName := ⟨RX3, "off", "(I)I"⟩
abbrev cX3_ears : ByteArray := prog_1_method_19_code
def yX3_ears : MethodName := ⟨RX3, "ears", "(II)I"⟩
abbrev cX3_side : ByteArray := prog_1_method_20_code
def yX3_side : MethodName := ⟨RX3, "side", "(II)I"⟩
abbrev cX3_free : ByteArray := prog_1_method_21_code
def yX3_free : MethodName := ⟨RX3, "free", "(I)I"⟩
abbrev cX3_whatIs : ByteArray := prog_1_method_22_code
def yX3_whatIs : MethodName := ⟨RX3, "whatIs", "(III)I"⟩
abbrev cX3_whereFrom : ByteArray := prog_1_method_23_code
def yX3_whereFrom : MethodName := ⟨RX3, "whereFrom", "(III)I"⟩
abbrev cX3_two : ByteArray := prog_1_method_24_code
def yX3_two : MethodName := ⟨RX3, "two", "(III)I"⟩
abbrev cX3_rain : ByteArray := prog_1_method_25_code
def yX3_rain : MethodName := ⟨RX3, "rain", "(IIII)J"⟩
abbrev cX3_share : ByteArray := prog_1_method_26_code
def yX3_share : MethodName := ⟨RX3, "share", "(II)J"⟩
abbrev cX3_forged : ByteArray := prog_1_method_27_code
def yX3_forged : MethodName := ⟨RX3, "forged", "(I)I"⟩
abbrev cX3_judge : ByteArray := prog_1_method_28_code
def yX3_judge : MethodName := ⟨RX3, "judge", "(I)I"⟩
abbrev cX3_games : ByteArray := prog_1_method_29_code
def yX3_games : MethodName := ⟨RX3, "games", "(III)I"⟩
abbrev cX3_image : ByteArray := prog_1_method_30_code
def yX3_image : MethodName := ⟨RX3, "image", "()I"⟩
abbrev cX3_restore : ByteArray := prog_1_method_31_code
def yX3_restore : MethodName := ⟨RX3, "restore", "()I"⟩
abbrev cX3_count : ByteArray := prog_1_method_32_code
def yX3_count : MethodName := ⟨RX3, "count", "(I)I"⟩
abbrev cX3_keep : ByteArray := prog_1_method_33_code
def yX3_keep : MethodName := ⟨RX3, "keep", "(IIII)I"⟩
abbrev cX3_row : ByteArray := prog_1_method_34_code
def yX3_row : MethodName := ⟨RX3, "row", "(III)I"⟩
abbrev cX3_put : ByteArray := prog_1_method_35_code
def yX3_put : MethodName := ⟨RX3, "put", "(III)I"⟩
abbrev cX3_element : ByteArray := prog_1_method_36_code
def yX3_element : MethodName := ⟨RX3, "element", "(II)J"⟩
abbrev cX3_copy : ByteArray := prog_1_method_37_code
def yX3_copy : MethodName := ⟨RX3, "copy", "(IIIII)I"⟩
abbrev cX3_cost : ByteArray := prog_1_method_38_code
def yX3_cost : MethodName := ⟨RX3, "cost", "(I)I"⟩
abbrev cX3_toss : ByteArray := prog_1_method_39_code
def yX3_toss : MethodName := ⟨RX3, "toss", "(I)I"⟩
abbrev cX3_isSquare : ByteArray := prog_1_method_40_code
def yX3_isSquare : MethodName := ⟨RX3, "isSquare", "(I)Z"⟩
abbrev cX3_isSide : ByteArray := prog_1_method_41_code
def yX3_isSide : MethodName := ⟨RX3, "isSide", "(I)Z"⟩
abbrev cX3_isKind : ByteArray := prog_1_method_42_code
def yX3_isKind : MethodName := ⟨RX3, "isKind", "(I)Z"⟩
abbrev cX3_isFigure : ByteArray := prog_1_method_43_code
def yX3_isFigure : MethodName := ⟨RX3, "isFigure", "(I)Z"⟩
abbrev cX3_far : ByteArray := prog_1_method_44_code
def yX3_far : MethodName := ⟨RX3, "far", "(II)I"⟩
abbrev cX3_shelfAt : ByteArray := prog_1_method_45_code
def yX3_shelfAt : MethodName := ⟨RX3, "shelfAt", "(I)LTakenUpByThePieces$Shelf;"⟩
abbrev cX3_refusalUnless : ByteArray := prog_1_method_46_code
def yX3_refusalUnless : MethodName := ⟨RX3, "refusalUnless", "(LTakenUpByThePieces$Shelf;I)I"⟩
abbrev cX3_isDone : ByteArray := prog_1_method_47_code
def yX3_isDone : MethodName := ⟨RX3, "isDone", "(LTakenUpByThePieces$Shelf;I)Z"⟩
abbrev cX3_lookAhead : ByteArray := prog_1_method_48_code
def yX3_lookAhead : MethodName := ⟨RX3, "lookAhead", "(I)V"⟩
abbrev cX3_placeInMind : ByteArray := prog_1_method_49_code
def yX3_placeInMind : MethodName := ⟨RX3, "placeInMind", "(II)Z"⟩
abbrev cX3_firstToFall : ByteArray := prog_1_method_50_code
def yX3_firstToFall : MethodName := ⟨RX3, "firstToFall", "()I"⟩
abbrev cX3_wentAsTold : ByteArray := prog_1_method_51_code
def yX3_wentAsTold : MethodName := ⟨RX3, "wentAsTold", "(ILTakenUpByThePieces$Shelf;I)Z"⟩
abbrev cX3_firstPairAtRest : ByteArray := prog_1_method_52_code
def yX3_firstPairAtRest : MethodName := ⟨RX3, "firstPairAtRest", "()I"⟩
abbrev cX3_waysToBeThere : ByteArray := prog_1_method_53_code
def yX3_waysToBeThere : MethodName := ⟨RX3, "waysToBeThere", "([LTakenUpByThePieces$Board;IIII)J"⟩
abbrev cX3_partInLeastTerms : ByteArray := prog_1_method_54_code
def yX3_partInLeastTerms : MethodName := ⟨RX3, "partInLeastTerms", "(JJI)J"⟩
abbrev cX3_draw : ByteArray := prog_1_method_55_code
def yX3_draw : MethodName := ⟨RX3, "draw", "(I)I"⟩
abbrev cX3_setUpByDraws : ByteArray := prog_1_method_56_code
def yX3_setUpByDraws : MethodName := ⟨RX3, "setUpByDraws", "()V"⟩
def RX4 : String := "TakenUpByThePiecesModel"
def TX4 : u_T := fun k => match k with
  | 0 => ("TakenUpByThePiecesModel", "s", "[I", true)
  | 1 => ("TakenUpByThePiecesModel", "m", "[I", true)
  | 2 => ("TakenUpByThePiecesModel", "image", "[I", true)
  | 3 => ("TakenUpByThePiecesModel", "was", "[I", true)
  | 4 => ("TakenUpByThePiecesModel", "hasImage", "Z", false)
  | 5 => ("TakenUpByThePiecesModel", "place", "I", false)
  | 6 => ("TakenUpByThePiecesModel", "rowAt", "I", false)
  | 7 => ("TakenUpByThePiecesModel", "rowEnd", "I", false)
  | 8 => ("TakenUpByThePiecesModel", "numbers", "[I", true)
  | 9 => ("TakenUpByThePiecesModel", "seed", "I", false)
  | 10 => ("TakenUpByThePiecesModel", "kept", "[I", true)
  | 11 => ("TakenUpByThePiecesModel", "keptKind", "[I", true)
  | 12 => ("TakenUpByThePiecesModel", "keptFigure", "[I", true)
  | 13 => ("TakenUpByThePiecesModel", "sort", "[I", true)
  | 14 => ("TakenUpByThePiecesModel", "size", "[I", true)
  | 15 => ("TakenUpByThePiecesModel", "element", "[I", true)
  | _ => ("TakenUpByThePiecesModel", "thrown", "I", false)
def tyX4 : Nat → FieldType := fun k => match k with
  | 0 => .array .int
  | 1 => .array .int
  | 2 => .array .int
  | 3 => .array .int
  | 4 => .boolean
  | 5 => .int
  | 6 => .int
  | 7 => .int
  | 8 => .array .int
  | 9 => .int
  | 10 => .array .int
  | 11 => .array .int
  | 12 => .array .int
  | 13 => .array .int
  | 14 => .array .int
  | 15 => .array .int
  | _ => .int
abbrev wsX40 : List Cond := u_ws RX4 TX4 17
theorem nmX4 : ∀ a, a < 17 → ∀ b, b < 17 → a ≠ b → (TX4 a).2.1 ≠ (TX4 b).2.1 := by decide +kernel
theorem tyX4_ok : ∀ k, k < 17 → parseFieldDescriptor (TX4 k).2.2.1 = some (tyX4 k) := by decide +kernel
abbrev cX4_init : ByteArray := prog_6_method_1_code
def yX4_init : MethodName := ⟨RX4, "<init>", "()V"⟩
abbrev cX4_isIn : ByteArray := prog_6_method_2_code
def yX4_isIn : MethodName := ⟨RX4, "isIn", "(III)Z"⟩
abbrev cX4_sized : ByteArray := prog_6_method_3_code
def yX4_sized : MethodName := ⟨RX4, "sized", "(I)I"⟩
abbrev cX4_least : ByteArray := prog_6_method_4_code
def yX4_least : MethodName := ⟨RX4, "least", "(II)I"⟩
abbrev cX4_copies : ByteArray := prog_6_method_5_code
def yX4_copies : MethodName := ⟨RX4, "copies", "([I[I)V"⟩
abbrev cX4_of : ByteArray := prog_6_method_6_code
def yX4_of : MethodName := ⟨RX4, "of", "(II)I"⟩
abbrev cX4_isPiece : ByteArray := prog_6_method_7_code
def yX4_isPiece : MethodName := ⟨RX4, "isPiece", "(I)Z"⟩
abbrev cX4_areTwo : ByteArray := prog_6_method_8_code
def yX4_areTwo : MethodName := ⟨RX4, "areTwo", "(II)Z"⟩
abbrev cX4_isSquare : ByteArray := prog_6_method_9_code
def yX4_isSquare : MethodName := ⟨RX4, "isSquare", "(I)Z"⟩
abbrev cX4_isSide : ByteArray := prog_6_method_10_code
def yX4_isSide : MethodName := ⟨RX4, "isSide", "(I)Z"⟩
abbrev cX4_isHere : ByteArray := prog_6_method_11_code
def yX4_isHere : MethodName := ⟨RX4, "isHere", "([II)Z"⟩
abbrev cX4_has : ByteArray := prog_6_method_12_code
def yX4_has : MethodName := ⟨RX4, "has", "(II)Z"⟩
abbrev cX4_bits : ByteArray := prog_6_method_13_code
def yX4_bits : MethodName := ⟨RX4, "bits", "(I)I"⟩
abbrev cX4_onSquare : ByteArray := prog_6_method_14_code
def yX4_onSquare : MethodName := ⟨RX4, "onSquare", "([II)I"⟩
abbrev cX4_squareOn : ByteArray := prog_6_method_15_code
def yX4_squareOn : MethodName := ⟨RX4, "squareOn", "(III)I"⟩
abbrev cX4_isFree : ByteArray := prog_6_method_16_code
def yX4_isFree : MethodName := ⟨RX4, "isFree", "([II)Z"⟩
abbrev cX4_isOfSide : ByteArray := prog_6_method_17_code
def yX4_isOfSide : MethodName := ⟨RX4, "isOfSide", "([III)Z"⟩
abbrev cX4_farOf : ByteArray := prog_6_method_18_code
def yX4_farOf : MethodName := ⟨RX4, "farOf", "(II)I"⟩
abbrev cX4_forward : ByteArray := prog_6_method_19_code
def yX4_forward : MethodName := ⟨RX4, "forward", "([II)I"⟩
abbrev cX4_pawnIdea : ByteArray := prog_6_method_20_code
def yX4_pawnIdea : MethodName := ⟨RX4, "pawnIdea", "([II)I"⟩
abbrev cX4_knightIdea : ByteArray := prog_6_method_21_code
def yX4_knightIdea : MethodName := ⟨RX4, "knightIdea", "([II)I"⟩
abbrev cX4_slideIdea : ByteArray := prog_6_method_22_code
def yX4_slideIdea : MethodName := ⟨RX4, "slideIdea", "([IIII)I"⟩
abbrev cX4_bishopIdea : ByteArray := prog_6_method_23_code
def yX4_bishopIdea : MethodName := ⟨RX4, "bishopIdea", "([III)I"⟩
abbrev cX4_kingIdea : ByteArray := prog_6_method_24_code
def yX4_kingIdea : MethodName := ⟨RX4, "kingIdea", "([II)I"⟩
abbrev cX4_idea : ByteArray := prog_6_method_25_code
def yX4_idea : MethodName := ⟨RX4, "idea", "([III)I"⟩
abbrev cX4_earsBy : ByteArray := prog_6_method_26_code
def yX4_earsBy : MethodName := ⟨RX4, "earsBy", "(II)I"⟩
abbrev cX4_worthBy : ByteArray := prog_6_method_27_code
def yX4_worthBy : MethodName := ⟨RX4, "worthBy", "(II)I"⟩
abbrev cX4_doesHear : ByteArray := prog_6_method_28_code
def yX4_doesHear : MethodName := ⟨RX4, "doesHear", "([III)Z"⟩
abbrev cX4_heardBy : ByteArray := prog_6_method_29_code
def yX4_heardBy : MethodName := ⟨RX4, "heardBy", "([II)I"⟩
abbrev cX4_hereIn : ByteArray := prog_6_method_30_code
def yX4_hereIn : MethodName := ⟨RX4, "hereIn", "([I)I"⟩
abbrev cX4_ofSide : ByteArray := prog_6_method_31_code
def yX4_ofSide : MethodName := ⟨RX4, "ofSide", "([II)I"⟩
abbrev cX4_worthOf : ByteArray := prog_6_method_32_code
def yX4_worthOf : MethodName := ⟨RX4, "worthOf", "([II)I"⟩
abbrev cX4_goesOn : ByteArray := prog_6_method_33_code
def yX4_goesOn : MethodName := ⟨RX4, "goesOn", "([II)I"⟩
abbrev cX4_day : ByteArray := prog_6_method_34_code
def yX4_day : MethodName := ⟨RX4, "day", "([I)V"⟩
abbrev cX4_daysOn : ByteArray := prog_6_method_35_code
def yX4_daysOn : MethodName := ⟨RX4, "daysOn", "([II)V"⟩
abbrev cX4_here : ByteArray := prog_6_method_36_code
def yX4_here : MethodName := ⟨RX4, "here", "()I"⟩
abbrev cX4_readsNumber : ByteArray := prog_6_method_37_code
def yX4_readsNumber : MethodName := ⟨RX4, "readsNumber", "(II)Z"⟩
abbrev cX4_readsStatement : ByteArray := prog_6_method_38_code
def yX4_readsStatement : MethodName := ⟨RX4, "readsStatement", "()Z"⟩
abbrev cX4_adds : ByteArray := prog_6_method_39_code
def yX4_adds : MethodName := ⟨RX4, "adds", "(IIII)V"⟩
abbrev cX4_mayStand : ByteArray := prog_6_method_40_code
def yX4_mayStand : MethodName := ⟨RX4, "mayStand", "(II)Z"⟩
abbrev cX4_isDone : ByteArray := prog_6_method_41_code
def yX4_isDone : MethodName := ⟨RX4, "isDone", "(I)Z"⟩
abbrev cX4_game : ByteArray := prog_6_method_42_code
def yX4_game : MethodName := ⟨RX4, "game", "(I)I"⟩
abbrev cX4_nextIdea : ByteArray := prog_6_method_43_code
def yX4_nextIdea : MethodName := ⟨RX4, "nextIdea", "(I)I"⟩
abbrev cX4_piece : ByteArray := prog_6_method_44_code
def yX4_piece : MethodName := ⟨RX4, "piece", "(II)I"⟩
abbrev cX4_on : ByteArray := prog_6_method_45_code
def yX4_on : MethodName := ⟨RX4, "on", "(I)I"⟩
abbrev cX4_comes : ByteArray := prog_6_method_46_code
def yX4_comes : MethodName := ⟨RX4, "comes", "(III)I"⟩
abbrev cX4_sets : ByteArray := prog_6_method_47_code
def yX4_sets : MethodName := ⟨RX4, "sets", "(II)I"⟩
abbrev cX4_stands : ByteArray := prog_6_method_48_code
def yX4_stands : MethodName := ⟨RX4, "stands", "(II)I"⟩
abbrev cX4_takes : ByteArray := prog_6_method_49_code
def yX4_takes : MethodName := ⟨RX4, "takes", "(I)I"⟩
abbrev cX4_turn : ByteArray := prog_6_method_50_code
def yX4_turn : MethodName := ⟨RX4, "turn", "(I)I"⟩
abbrev cX4_days : ByteArray := prog_6_method_51_code
def yX4_days : MethodName := ⟨RX4, "days", "(I)I"⟩
abbrev cX4_isLate : ByteArray := prog_6_method_52_code
def yX4_isLate : MethodName := ⟨RX4, "isLate", "(I)Z"⟩
abbrev cX4_inMind : ByteArray := prog_6_method_53_code
def yX4_inMind : MethodName := ⟨RX4, "inMind", "(I)V"⟩
abbrev cX4_squareThen : ByteArray := prog_6_method_54_code
def yX4_squareThen : MethodName := ⟨RX4, "squareThen", "(II)I"⟩
abbrev cX4_then : ByteArray := prog_6_method_55_code
def yX4_then : MethodName := ⟨RX4, "then", "(II)I"⟩
abbrev cX4_fallsOf : ByteArray := prog_6_method_56_code
def yX4_fallsOf : MethodName := ⟨RX4, "fallsOf", "(I)I"⟩
abbrev cX4_firstFalls : ByteArray := prog_6_method_57_code
def yX4_firstFalls : MethodName := ⟨RX4, "firstFalls", "()I"⟩
abbrev cX4_falls : ByteArray := prog_6_method_58_code
def yX4_falls : MethodName := ⟨RX4, "falls", "(I)I"⟩
abbrev cX4_isMoved : ByteArray := prog_6_method_59_code
def yX4_isMoved : MethodName := ⟨RX4, "isMoved", "()Z"⟩
abbrev cX4_still : ByteArray := prog_6_method_60_code
def yX4_still : MethodName := ⟨RX4, "still", "()I"⟩
abbrev cX4_next : ByteArray := prog_6_method_61_code
def yX4_next : MethodName := ⟨RX4, "next", "(I)I"⟩
abbrev cX4_heard : ByteArray := prog_6_method_62_code
def yX4_heard : MethodName := ⟨RX4, "heard", "(I)I"⟩
abbrev cX4_danger : ByteArray := prog_6_method_63_code
def yX4_danger : MethodName := ⟨RX4, "danger", "(I)I"⟩
abbrev cX4_stand : ByteArray := prog_6_method_64_code
def yX4_stand : MethodName := ⟨RX4, "stand", "(III)I"⟩
abbrev cX4_off : ByteArray := prog_6_method_65_code
def yX4_off : MethodName := ⟨RX4, "off", "(I)I"⟩
abbrev cX4_ears : ByteArray := prog_6_method_66_code
def yX4_ears : MethodName := ⟨RX4, "ears", "(II)I"⟩
abbrev cX4_groupsOf : ByteArray := prog_6_method_67_code
def yX4_groupsOf : MethodName := ⟨RX4, "groupsOf", "(I)I"⟩
abbrev cX4_farthestOf : ByteArray := prog_6_method_68_code
def yX4_farthestOf : MethodName := ⟨RX4, "farthestOf", "(I)I"⟩
abbrev cX4_side : ByteArray := prog_6_method_69_code
def yX4_side : MethodName := ⟨RX4, "side", "(II)I"⟩
abbrev cX4_pairs : ByteArray := prog_6_method_70_code
def yX4_pairs : MethodName := ⟨RX4, "pairs", "()I"⟩
abbrev cX4_quietOnes : ByteArray := prog_6_method_71_code
def yX4_quietOnes : MethodName := ⟨RX4, "quietOnes", "()I"⟩
abbrev cX4_free : ByteArray := prog_6_method_72_code
def yX4_free : MethodName := ⟨RX4, "free", "(I)I"⟩
abbrev cX4_leastOf : ByteArray := prog_6_method_73_code
def yX4_leastOf : MethodName := ⟨RX4, "leastOf", "(I)I"⟩
abbrev cX4_isTold : ByteArray := prog_6_method_74_code
def yX4_isTold : MethodName := ⟨RX4, "isTold", "(III)Z"⟩
abbrev cX4_toldSquare : ByteArray := prog_6_method_75_code
def yX4_toldSquare : MethodName := ⟨RX4, "toldSquare", "([II)I"⟩
abbrev cX4_isWhereSo : ByteArray := prog_6_method_76_code
def yX4_isWhereSo : MethodName := ⟨RX4, "isWhereSo", "(II)Z"⟩
abbrev cX4_whatIs : ByteArray := prog_6_method_77_code
def yX4_whatIs : MethodName := ⟨RX4, "whatIs", "(III)I"⟩
abbrev cX4_whereFrom : ByteArray := prog_6_method_78_code
def yX4_whereFrom : MethodName := ⟨RX4, "whereFrom", "(III)I"⟩
abbrev cX4_hasBy : ByteArray := prog_6_method_79_code
def yX4_hasBy : MethodName := ⟨RX4, "hasBy", "(IIIIII)I"⟩
abbrev cX4_two : ByteArray := prog_6_method_80_code
def yX4_two : MethodName := ⟨RX4, "two", "(III)I"⟩
abbrev cX4_gcd : ByteArray := prog_6_method_81_code
def yX4_gcd : MethodName := ⟨RX4, "gcd", "(JJ)J"⟩
abbrev cX4_partOf : ByteArray := prog_6_method_82_code
def yX4_partOf : MethodName := ⟨RX4, "partOf", "(JJI)J"⟩
abbrev cX4_rain : ByteArray := prog_6_method_83_code
def yX4_rain : MethodName := ⟨RX4, "rain", "(IIII)J"⟩
abbrev cX4_share : ByteArray := prog_6_method_84_code
def yX4_share : MethodName := ⟨RX4, "share", "(II)J"⟩
abbrev cX4_forged : ByteArray := prog_6_method_85_code
def yX4_forged : MethodName := ⟨RX4, "forged", "(I)I"⟩
abbrev cX4_judge : ByteArray := prog_6_method_86_code
def yX4_judge : MethodName := ⟨RX4, "judge", "(I)I"⟩
abbrev cX4_drawn : ByteArray := prog_6_method_87_code
def yX4_drawn : MethodName := ⟨RX4, "drawn", "(I)I"⟩
abbrev cX4_setsUp : ByteArray := prog_6_method_88_code
def yX4_setsUp : MethodName := ⟨RX4, "setsUp", "()V"⟩
abbrev cX4_games : ByteArray := prog_6_method_89_code
def yX4_games : MethodName := ⟨RX4, "games", "(III)I"⟩
abbrev cX4_image : ByteArray := prog_6_method_90_code
def yX4_image : MethodName := ⟨RX4, "image", "()I"⟩
abbrev cX4_restore : ByteArray := prog_6_method_91_code
def yX4_restore : MethodName := ⟨RX4, "restore", "()I"⟩
abbrev cX4_count : ByteArray := prog_6_method_92_code
def yX4_count : MethodName := ⟨RX4, "count", "(I)I"⟩
abbrev cX4_thrown : ByteArray := prog_6_method_93_code
def yX4_thrown : MethodName := ⟨RX4, "thrown", "()I"⟩
abbrev cX4_isShelf : ByteArray := prog_6_method_94_code
def yX4_isShelf : MethodName := ⟨RX4, "isShelf", "(I)Z"⟩
abbrev cX4_wrongRow : ByteArray := prog_6_method_95_code
def yX4_wrongRow : MethodName := ⟨RX4, "wrongRow", "(II)I"⟩
abbrev cX4_wrongKept : ByteArray := prog_6_method_96_code
def yX4_wrongKept : MethodName := ⟨RX4, "wrongKept", "(I)I"⟩
abbrev cX4_keep : ByteArray := prog_6_method_97_code
def yX4_keep : MethodName := ⟨RX4, "keep", "(IIII)I"⟩
abbrev cX4_row : ByteArray := prog_6_method_98_code
def yX4_row : MethodName := ⟨RX4, "row", "(III)I"⟩
abbrev cX4_put : ByteArray := prog_6_method_99_code
def yX4_put : MethodName := ⟨RX4, "put", "(III)I"⟩
abbrev cX4_element : ByteArray := prog_6_method_100_code
def yX4_element : MethodName := ⟨RX4, "element", "(II)J"⟩
abbrev cX4_copy : ByteArray := prog_6_method_101_code
def yX4_copy : MethodName := ⟨RX4, "copy", "(IIIII)I"⟩
abbrev cX4_costBy : ByteArray := prog_6_method_102_code
def yX4_costBy : MethodName := ⟨RX4, "costBy", "(II)I"⟩
abbrev cX4_cost : ByteArray := prog_6_method_103_code
def yX4_cost : MethodName := ⟨RX4, "cost", "(I)I"⟩
abbrev cX4_toss : ByteArray := prog_6_method_104_code
def yX4_toss : MethodName := ⟨RX4, "toss", "(I)I"⟩
def RJx145de : String := "java/io/Serializable"
def TJx145de : u_T := fun k => match k with
  | _ => ("", "", "", false)
def tyJx145de : Nat → FieldType := fun k => match k with
  | _ => .int
abbrev wsJx145de0 : List Cond := u_ws RJx145de TJx145de 0
theorem nmJx145de : ∀ a, a < 0 → ∀ b, b < 0 → a ≠ b → (TJx145de a).2.1 ≠ (TJx145de b).2.1 := by decide +kernel
theorem tyJx145de_ok : ∀ k, k < 0 → parseFieldDescriptor (TJx145de k).2.2.1 = some (tyJx145de k) := by decide +kernel
def RJ6 : String := "java/lang/Integer"
def TJ6 : u_T := fun k => match k with
  | _ => ("", "", "", false)
def tyJ6 : Nat → FieldType := fun k => match k with
  | _ => .int
abbrev wsJ60 : List Cond := u_ws RJ6 TJ6 0
theorem nmJ6 : ∀ a, a < 0 → ∀ b, b < 0 → a ≠ b → (TJ6 a).2.1 ≠ (TJ6 b).2.1 := by decide +kernel
theorem tyJ6_ok : ∀ k, k < 0 → parseFieldDescriptor (TJ6 k).2.2.1 = some (tyJ6 k) := by decide +kernel
abbrev cJ6_bitCount_0f7a4 : ByteArray := prog_11_method_49_code
def yJ6_bitCount_0f7a4 : MethodName := ⟨RJ6, "bitCount", "(I)I"⟩
def RJ9 : String := "java/lang/Math"
def TJ9 : u_T := fun k => match k with
  | _ => ("", "", "", false)
def tyJ9 : Nat → FieldType := fun k => match k with
  | _ => .int
abbrev wsJ90 : List Cond := u_ws RJ9 TJ9 0
theorem nmJ9 : ∀ a, a < 0 → ∀ b, b < 0 → a ≠ b → (TJ9 a).2.1 ≠ (TJ9 b).2.1 := by decide +kernel
theorem tyJ9_ok : ∀ k, k < 0 → parseFieldDescriptor (TJ9 k).2.2.1 = some (tyJ9 k) := by decide +kernel
abbrev cJ9_max_7cf53 : ByteArray := prog_12_method_65_code
def yJ9_max_7cf53 : MethodName := ⟨RJ9, "max", "(II)I"⟩
def RJ0 : String := "java/lang/String"
def TJ0 : u_T := fun k => match k with
  | _ => ("", "", "", false)
def tyJ0 : Nat → FieldType := fun k => match k with
  | _ => .int
abbrev wsJ00 : List Cond := u_ws RJ0 TJ0 0
theorem nmJ0 : ∀ a, a < 0 → ∀ b, b < 0 → a ≠ b → (TJ0 a).2.1 ≠ (TJ0 b).2.1 := by decide +kernel
theorem tyJ0_ok : ∀ k, k < 0 → parseFieldDescriptor (TJ0 k).2.2.1 = some (tyJ0 k) := by decide +kernel
def RJ10 : String := "java/lang/System"
def TJ10 : u_T := fun k => match k with
  | _ => ("", "", "", false)
def tyJ10 : Nat → FieldType := fun k => match k with
  | _ => .int
abbrev wsJ100 : List Cond := u_ws RJ10 TJ10 0
theorem nmJ10 : ∀ a, a < 0 → ∀ b, b < 0 → a ≠ b → (TJ10 a).2.1 ≠ (TJ10 b).2.1 := by decide +kernel
theorem tyJ10_ok : ∀ k, k < 0 → parseFieldDescriptor (TJ10 k).2.2.1 = some (tyJ10 k) := by decide +kernel
def RJ7 : String := "java/util/Arrays"
def TJ7 : u_T := fun k => match k with
  | _ => ("", "", "", false)
def tyJ7 : Nat → FieldType := fun k => match k with
  | _ => .int
abbrev wsJ70 : List Cond := u_ws RJ7 TJ7 0
theorem nmJ7 : ∀ a, a < 0 → ∀ b, b < 0 → a ≠ b → (TJ7 a).2.1 ≠ (TJ7 b).2.1 := by decide +kernel
theorem tyJ7_ok : ∀ k, k < 0 → parseFieldDescriptor (TJ7 k).2.2.1 = some (tyJ7 k) := by decide +kernel
abbrev cJ7_fill_53178 : ByteArray := prog_18_method_103_code
def yJ7_fill_53178 : MethodName := ⟨RJ7, "fill", "([II)V"⟩
def RL : String := "TakenUpByThePiecesLaw"
abbrev cL_element : ByteArray := method_3_code
def yL_element : MethodName := ⟨RL, "element", "(LTakenUpByThePieces;II[J)I"⟩
abbrev cL_law : ByteArray := code
def yL_law : MethodName := ⟨RL, "law", "([I)Z"⟩
abbrev vwCl : List vw_C := [(RX0, TX0, 9), (RX2, TX2, 6), (RX3, TX3, 10), (RX4, TX4, 17)]
