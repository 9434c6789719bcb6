set_option maxRecDepth 100000 in
theorem cdX0_becomes : cdP iX0_becomes := ⟨nth_mem (k := 161) rfl, rfl⟩
set_option maxRecDepth 100000 in
theorem cdX0_has : cdP iX0_has := ⟨nth_mem (k := 203) rfl, rfl⟩
set_option maxRecDepth 100000 in
theorem cdX0_isThere : cdP iX0_isThere := ⟨nth_mem (k := 243) rfl, rfl⟩
set_option maxRecDepth 100000 in
theorem cdX0_isThereOf : cdP iX0_isThereOf := ⟨nth_mem (k := 235) rfl, rfl⟩
set_option maxRecDepth 100000 in
theorem cdX0_squareOrNone : cdP iX0_squareOrNone := ⟨nth_mem (k := 305) rfl, rfl⟩
set_option maxRecDepth 100000 in
theorem cdX0_isFree : cdP iX0_isFree := ⟨nth_mem (k := 195) rfl, rfl⟩
set_option maxRecDepth 100000 in
theorem cdX0_isHeldBy : cdP iX0_isHeldBy := ⟨nth_mem (k := 255) rfl, rfl⟩
set_option maxRecDepth 100000 in
theorem cdX3_isKind : cdP iX3_isKind := ⟨nth_mem (k := 185) rfl, rfl⟩
set_option maxRecDepth 100000 in
theorem cdX3_isFigure : cdP iX3_isFigure := ⟨nth_mem (k := 188) rfl, rfl⟩
set_option maxRecDepth 100000 in
theorem cdX3_isSide : cdP iX3_isSide := ⟨nth_mem (k := 191) rfl, rfl⟩
set_option maxRecDepth 100000 in
theorem cdX0_addPiece : cdP iX0_addPiece := ⟨nth_mem (k := 182) rfl, rfl⟩
set_option maxRecDepth 100000 in
theorem cdX3_isSquare : cdP iX3_isSquare := ⟨nth_mem (k := 206) rfl, rfl⟩
set_option maxRecDepth 100000 in
theorem cdX0_takeOff : cdP iX0_takeOff := ⟨nth_mem (k := 210) rfl, rfl⟩
set_option maxRecDepth 100000 in
theorem cdX0_movePiece : cdP iX0_movePiece := ⟨nth_mem (k := 199) rfl, rfl⟩
set_option maxRecDepth 100000 in
theorem cdX0_turnInto : cdP iX0_turnInto := ⟨nth_mem (k := 219) rfl, rfl⟩
set_option maxRecDepth 100000 in
theorem cdX0_giveTurn : cdP iX0_giveTurn := ⟨nth_mem (k := 215) rfl, rfl⟩
set_option maxRecDepth 100000 in
theorem cdX0_squareFrom : cdP iX0_squareFrom := ⟨nth_mem (k := 251) rfl, rfl⟩
set_option maxRecDepth 100000 in
theorem cdX0_knightIdea : cdP iX0_knightIdea := ⟨nth_mem (k := 247) rfl, rfl⟩
set_option maxRecDepth 100000 in
theorem cdX0_slideIdea : cdP iX0_slideIdea := ⟨nth_mem (k := 259) rfl, rfl⟩
set_option maxRecDepth 100000 in
theorem cdX0_bishopIdea : cdP iX0_bishopIdea := ⟨nth_mem (k := 263) rfl, rfl⟩
set_option maxRecDepth 100000 in
theorem cdX3_far : cdP iX3_far := ⟨nth_mem (k := 270) rfl, rfl⟩
set_option maxRecDepth 100000 in
theorem cdX0_kingIdea : cdP iX0_kingIdea := ⟨nth_mem (k := 267) rfl, rfl⟩
set_option maxRecDepth 100000 in
theorem cdX0_pawnIdea : cdP iX0_pawnIdea := ⟨nth_mem (k := 274) rfl, rfl⟩
set_option maxRecDepth 100000 in
theorem cdX0_ideaOf : cdP iX0_ideaOf := ⟨nth_mem (k := 239) rfl, rfl⟩
set_option maxRecDepth 100000 in
theorem cdX1_earsWith : cdP iX1_earsWith := ⟨nth_mem (k := 281) rfl, rfl⟩
set_option maxRecDepth 100000 in
theorem cdX0_hearersOf : cdP iX0_hearersOf := ⟨nth_mem (k := 278) rfl, rfl⟩
set_option maxRecDepth 100000 in
theorem cdJ6_bitCount_0f7a4 : cdP iJ6_bitCount_0f7a4 := ⟨nth_mem (k := 284) rfl, rfl⟩
set_option maxRecDepth 100000 in
theorem cdX0_howManyOf : cdP iX0_howManyOf := ⟨nth_mem (k := 291) rfl, rfl⟩
set_option maxRecDepth 100000 in
theorem cdX0_goerOn : cdP iX0_goerOn := ⟨nth_mem (k := 231) rfl, rfl⟩
set_option maxRecDepth 100000 in
theorem cdX0_passDay : cdP iX0_passDay := ⟨nth_mem (k := 227) rfl, rfl⟩
set_option maxRecDepth 100000 in
theorem cdX0_passWithinLast : cdP iX0_passWithinLast := ⟨nth_mem (k := 223) rfl, rfl⟩
set_option maxRecDepth 100000 in
theorem cdX0_passDays : cdP iX0_passDays := ⟨nth_mem (k := 352) rfl, rfl⟩
set_option maxRecDepth 100000 in
theorem cdX0_howManyThere : cdP iX0_howManyThere := ⟨nth_mem (k := 340) rfl, rfl⟩
set_option maxRecDepth 100000 in
theorem cdX0_bitsThere : cdP iX0_bitsThere := ⟨nth_mem (k := 356) rfl, rfl⟩
set_option maxRecDepth 100000 in
theorem cdX1_worthWith : cdP iX1_worthWith := ⟨nth_mem (k := 309) rfl, rfl⟩
set_option maxRecDepth 100000 in
theorem cdX0_worthOf : cdP iX0_worthOf := ⟨nth_mem (k := 360) rfl, rfl⟩
set_option maxRecDepth 100000 in
theorem cdX0_worthWithout : cdP iX0_worthWithout := ⟨nth_mem (k := 408) rfl, rfl⟩
set_option maxRecDepth 100000 in
theorem cdX0_groupAround : cdP iX0_groupAround := ⟨nth_mem (k := 421) rfl, rfl⟩
set_option maxRecDepth 100000 in
theorem cdX0_groupsOf : cdP iX0_groupsOf := ⟨nth_mem (k := 417) rfl, rfl⟩
set_option maxRecDepth 100000 in
theorem cdX0_farthestOf : cdP iX0_farthestOf := ⟨nth_mem (k := 425) rfl, rfl⟩
set_option maxRecDepth 100000 in
theorem cdX0_pairsSideBySide : cdP iX0_pairsSideBySide := ⟨nth_mem (k := 434) rfl, rfl⟩
set_option maxRecDepth 100000 in
theorem cdX0_quietOn : cdP iX0_quietOn := ⟨nth_mem (k := 438) rfl, rfl⟩
set_option maxRecDepth 100000 in
theorem cdX2_hasPlace : cdP iX2_hasPlace := ⟨nth_mem (k := 153) rfl, rfl⟩
set_option maxRecDepth 100000 in
theorem cdX2_elementAt : cdP iX2_elementAt := ⟨nth_mem (k := 149) rfl, rfl⟩
set_option maxRecDepth 100000 in
theorem cdX2_digitsBehind : cdP iX2_digitsBehind := ⟨nth_mem (k := 157) rfl, rfl⟩
set_option maxRecDepth 100000 in
theorem cdX2_wrongByte : cdP iX2_wrongByte := ⟨nth_mem (k := 145) rfl, rfl⟩
set_option maxRecDepth 100000 in
theorem cdX2_digitAt : cdP iX2_digitAt := ⟨nth_mem (k := 172) rfl, rfl⟩
set_option maxRecDepth 100000 in
theorem cdX2_twoDigitsAt : cdP iX2_twoDigitsAt := ⟨nth_mem (k := 177) rfl, rfl⟩
set_option maxRecDepth 100000 in
theorem cdX3_shelfAt : cdP iX3_shelfAt := ⟨nth_mem (k := 138) rfl, rfl⟩
set_option maxRecDepth 100000 in
theorem cdX3_refusalUnless : cdP iX3_refusalUnless := ⟨nth_mem (k := 141) rfl, rfl⟩
set_option maxRecDepth 100000 in
theorem cdX3_isDone : cdP iX3_isDone := ⟨nth_mem (k := 168) rfl, rfl⟩
set_option maxRecDepth 100000 in
theorem cdX3_game : cdP iX3_game := ⟨nth_mem (k := 134) rfl, rfl⟩
set_option maxRecDepth 100000 in
theorem cdX3_piece : cdP iX3_piece := ⟨nth_mem (k := 300) rfl, rfl⟩
set_option maxRecDepth 100000 in
theorem cdX3_on : cdP iX3_on := ⟨nth_mem (k := 314) rfl, rfl⟩
set_option maxRecDepth 100000 in
theorem cdX3_comes : cdP iX3_comes := ⟨nth_mem (k := 319) rfl, rfl⟩
set_option maxRecDepth 100000 in
theorem cdX3_stands : cdP iX3_stands := ⟨nth_mem (k := 324) rfl, rfl⟩
set_option maxRecDepth 100000 in
theorem cdX3_takes : cdP iX3_takes := ⟨nth_mem (k := 328) rfl, rfl⟩
set_option maxRecDepth 100000 in
theorem cdX3_turn : cdP iX3_turn := ⟨nth_mem (k := 332) rfl, rfl⟩
set_option maxRecDepth 100000 in
theorem cdX3_days : cdP iX3_days := ⟨nth_mem (k := 336) rfl, rfl⟩
set_option maxRecDepth 100000 in
theorem cdX3_lookAhead : cdP iX3_lookAhead := ⟨nth_mem (k := 348) rfl, rfl⟩
set_option maxRecDepth 100000 in
theorem cdX3_then : cdP iX3_then := ⟨nth_mem (k := 344) rfl, rfl⟩
set_option maxRecDepth 100000 in
theorem cdX3_firstToFall : cdP iX3_firstToFall := ⟨nth_mem (k := 369) rfl, rfl⟩
set_option maxRecDepth 100000 in
theorem cdX3_falls : cdP iX3_falls := ⟨nth_mem (k := 365) rfl, rfl⟩
set_option maxRecDepth 100000 in
theorem cdX3_still : cdP iX3_still := ⟨nth_mem (k := 375) rfl, rfl⟩
set_option maxRecDepth 100000 in
theorem cdX3_next : cdP iX3_next := ⟨nth_mem (k := 379) rfl, rfl⟩
set_option maxRecDepth 100000 in
theorem cdX3_heard : cdP iX3_heard := ⟨nth_mem (k := 386) rfl, rfl⟩
set_option maxRecDepth 100000 in
theorem cdX3_danger : cdP iX3_danger := ⟨nth_mem (k := 390) rfl, rfl⟩
set_option maxRecDepth 100000 in
theorem cdX3_placeInMind : cdP iX3_placeInMind := ⟨nth_mem (k := 400) rfl, rfl⟩
set_option maxRecDepth 100000 in
theorem cdX3_stand : cdP iX3_stand := ⟨nth_mem (k := 396) rfl, rfl⟩
set_option maxRecDepth 100000 in
theorem cdX3_off : cdP iX3_off := ⟨nth_mem (k := 404) rfl, rfl⟩
set_option maxRecDepth 100000 in
theorem cdX3_side : cdP iX3_side := ⟨nth_mem (k := 413) rfl, rfl⟩
set_option maxRecDepth 100000 in
theorem cdX3_free : cdP iX3_free := ⟨nth_mem (k := 430) rfl, rfl⟩
set_option maxRecDepth 100000 in
theorem cdX3_image : cdP iX3_image := ⟨nth_mem (k := 442) rfl, rfl⟩
set_option maxRecDepth 100000 in
theorem cdX3_restore : cdP iX3_restore := ⟨nth_mem (k := 446) rfl, rfl⟩
set_option maxRecDepth 100000 in
theorem cdX3_count : cdP iX3_count := ⟨nth_mem (k := 450) rfl, rfl⟩
set_option maxRecDepth 100000 in
theorem cdX3_keep : cdP iX3_keep := ⟨nth_mem (k := 454) rfl, rfl⟩
set_option maxRecDepth 100000 in
theorem cdJ7_fill_53178 : cdP iJ7_fill_53178 := ⟨nth_mem (k := 30) rfl, rfl⟩
set_option maxRecDepth 100000 in
theorem cdL_cell : cdP iL_cell := ⟨nth_mem (k := 459) rfl, rfl⟩
set_option maxRecDepth 100000 in
theorem cdL_at : cdP iL_at := ⟨nth_mem (k := 470) rfl, rfl⟩
set_option maxRecDepth 100000 in
theorem cdL_on : cdP iL_on := ⟨nth_mem (k := 488) rfl, rfl⟩
set_option maxRecDepth 100000 in
theorem cdL_what : cdP iL_what := ⟨nth_mem (k := 491) rfl, rfl⟩
set_option maxRecDepth 100000 in
theorem cdL_far : cdP iL_far := ⟨nth_mem (k := 494) rfl, rfl⟩
set_option maxRecDepth 100000 in
theorem cdL_slide : cdP iL_slide := ⟨nth_mem (k := 485) rfl, rfl⟩
set_option maxRecDepth 100000 in
theorem cdL_idea : cdP iL_idea := ⟨nth_mem (k := 482) rfl, rfl⟩
set_option maxRecDepth 100000 in
theorem cdL_ears : cdP iL_ears := ⟨nth_mem (k := 503) rfl, rfl⟩
set_option maxRecDepth 100000 in
theorem cdL_hears : cdP iL_hears := ⟨nth_mem (k := 500) rfl, rfl⟩
set_option maxRecDepth 100000 in
theorem cdL_heard : cdP iL_heard := ⟨nth_mem (k := 497) rfl, rfl⟩
set_option maxRecDepth 100000 in
theorem cdL_bits : cdP iL_bits := ⟨nth_mem (k := 464) rfl, rfl⟩
set_option maxRecDepth 100000 in
theorem cdL_goes : cdP iL_goes := ⟨nth_mem (k := 479) rfl, rfl⟩
set_option maxRecDepth 100000 in
theorem cdL_day : cdP iL_day := ⟨nth_mem (k := 476) rfl, rfl⟩
set_option maxRecDepth 100000 in
theorem cdL_days : cdP iL_days := ⟨nth_mem (k := 473) rfl, rfl⟩
set_option maxRecDepth 100000 in
theorem cdL_there : cdP iL_there := ⟨nth_mem (k := 506) rfl, rfl⟩
set_option maxRecDepth 100000 in
theorem cdL_board : cdP iL_board := ⟨nth_mem (k := 467) rfl, rfl⟩
set_option maxRecDepth 100000 in
theorem cdL_sight : cdP iL_sight := ⟨nth_mem (k := 509) rfl, rfl⟩
set_option maxRecDepth 100000 in
theorem cdT_0 : ∀ mi ∈ mt_0, cdP mi := List.forall_mem_cons.mpr ⟨cdX0_becomes, List.forall_mem_cons.mpr ⟨cdX0_has, List.forall_mem_cons.mpr ⟨cdX0_isThere, List.forall_mem_cons.mpr ⟨cdX0_isThereOf, List.forall_mem_cons.mpr ⟨cdX0_squareOrNone, List.forall_mem_cons.mpr ⟨cdX0_isFree, List.forall_mem_cons.mpr ⟨cdX0_isHeldBy, List.forall_mem_cons.mpr ⟨cdX3_isKind, List.forall_mem_cons.mpr ⟨cdX3_isFigure, List.forall_mem_cons.mpr ⟨cdX3_isSide, List.forall_mem_cons.mpr ⟨cdX0_addPiece, List.forall_mem_cons.mpr ⟨cdX3_isSquare, List.forall_mem_cons.mpr ⟨cdX0_takeOff, List.forall_mem_cons.mpr ⟨cdX0_movePiece, List.forall_mem_cons.mpr ⟨cdX0_turnInto, List.forall_mem_cons.mpr ⟨cdX0_giveTurn, fun _ h => absurd h List.not_mem_nil⟩⟩⟩⟩⟩⟩⟩⟩⟩⟩⟩⟩⟩⟩⟩⟩
set_option maxRecDepth 100000 in
theorem cdT_1 : ∀ mi ∈ mt_1, cdP mi := List.forall_mem_cons.mpr ⟨cdX0_squareFrom, List.forall_mem_cons.mpr ⟨cdX0_knightIdea, List.forall_mem_cons.mpr ⟨cdX0_slideIdea, List.forall_mem_cons.mpr ⟨cdX0_bishopIdea, List.forall_mem_cons.mpr ⟨cdX3_far, List.forall_mem_cons.mpr ⟨cdX0_kingIdea, List.forall_mem_cons.mpr ⟨cdX0_pawnIdea, List.forall_mem_cons.mpr ⟨cdX0_ideaOf, List.forall_mem_cons.mpr ⟨cdX1_earsWith, List.forall_mem_cons.mpr ⟨cdX0_hearersOf, List.forall_mem_cons.mpr ⟨cdJ6_bitCount_0f7a4, List.forall_mem_cons.mpr ⟨cdX0_howManyOf, List.forall_mem_cons.mpr ⟨cdX0_goerOn, List.forall_mem_cons.mpr ⟨cdX0_passDay, List.forall_mem_cons.mpr ⟨cdX0_passWithinLast, List.forall_mem_cons.mpr ⟨cdX0_passDays, fun _ h => absurd h List.not_mem_nil⟩⟩⟩⟩⟩⟩⟩⟩⟩⟩⟩⟩⟩⟩⟩⟩
set_option maxRecDepth 100000 in
theorem cdT_2 : ∀ mi ∈ mt_2, cdP mi := List.forall_mem_cons.mpr ⟨cdX0_howManyThere, List.forall_mem_cons.mpr ⟨cdX0_bitsThere, List.forall_mem_cons.mpr ⟨cdX1_worthWith, List.forall_mem_cons.mpr ⟨cdX0_worthOf, List.forall_mem_cons.mpr ⟨cdX0_worthWithout, List.forall_mem_cons.mpr ⟨cdX0_groupAround, List.forall_mem_cons.mpr ⟨cdX0_groupsOf, List.forall_mem_cons.mpr ⟨cdX0_farthestOf, List.forall_mem_cons.mpr ⟨cdX0_pairsSideBySide, List.forall_mem_cons.mpr ⟨cdX0_quietOn, List.forall_mem_cons.mpr ⟨cdX2_hasPlace, List.forall_mem_cons.mpr ⟨cdX2_elementAt, List.forall_mem_cons.mpr ⟨cdX2_digitsBehind, List.forall_mem_cons.mpr ⟨cdX2_wrongByte, List.forall_mem_cons.mpr ⟨cdX2_digitAt, List.forall_mem_cons.mpr ⟨cdX2_twoDigitsAt, fun _ h => absurd h List.not_mem_nil⟩⟩⟩⟩⟩⟩⟩⟩⟩⟩⟩⟩⟩⟩⟩⟩
set_option maxRecDepth 100000 in
theorem cdT_3 : ∀ mi ∈ mt_3, cdP mi := List.forall_mem_cons.mpr ⟨cdX3_shelfAt, List.forall_mem_cons.mpr ⟨cdX3_refusalUnless, List.forall_mem_cons.mpr ⟨cdX3_isDone, List.forall_mem_cons.mpr ⟨cdX3_game, List.forall_mem_cons.mpr ⟨cdX3_piece, List.forall_mem_cons.mpr ⟨cdX3_on, List.forall_mem_cons.mpr ⟨cdX3_comes, List.forall_mem_cons.mpr ⟨cdX3_stands, List.forall_mem_cons.mpr ⟨cdX3_takes, List.forall_mem_cons.mpr ⟨cdX3_turn, List.forall_mem_cons.mpr ⟨cdX3_days, List.forall_mem_cons.mpr ⟨cdX3_lookAhead, List.forall_mem_cons.mpr ⟨cdX3_then, List.forall_mem_cons.mpr ⟨cdX3_firstToFall, List.forall_mem_cons.mpr ⟨cdX3_falls, List.forall_mem_cons.mpr ⟨cdX3_still, fun _ h => absurd h List.not_mem_nil⟩⟩⟩⟩⟩⟩⟩⟩⟩⟩⟩⟩⟩⟩⟩⟩
set_option maxRecDepth 100000 in
theorem cdT_4 : ∀ mi ∈ mt_4, cdP mi := List.forall_mem_cons.mpr ⟨cdX3_next, List.forall_mem_cons.mpr ⟨cdX3_heard, List.forall_mem_cons.mpr ⟨cdX3_danger, List.forall_mem_cons.mpr ⟨cdX3_placeInMind, List.forall_mem_cons.mpr ⟨cdX3_stand, List.forall_mem_cons.mpr ⟨cdX3_off, List.forall_mem_cons.mpr ⟨cdX3_side, List.forall_mem_cons.mpr ⟨cdX3_free, List.forall_mem_cons.mpr ⟨cdX3_image, List.forall_mem_cons.mpr ⟨cdX3_restore, List.forall_mem_cons.mpr ⟨cdX3_count, List.forall_mem_cons.mpr ⟨cdX3_keep, List.forall_mem_cons.mpr ⟨cdJ7_fill_53178, List.forall_mem_cons.mpr ⟨cdL_cell, List.forall_mem_cons.mpr ⟨cdL_at, List.forall_mem_cons.mpr ⟨cdL_on, fun _ h => absurd h List.not_mem_nil⟩⟩⟩⟩⟩⟩⟩⟩⟩⟩⟩⟩⟩⟩⟩⟩
set_option maxRecDepth 100000 in
theorem cdT_5 : ∀ mi ∈ mt_5, cdP mi := List.forall_mem_cons.mpr ⟨cdL_what, List.forall_mem_cons.mpr ⟨cdL_far, List.forall_mem_cons.mpr ⟨cdL_slide, List.forall_mem_cons.mpr ⟨cdL_idea, List.forall_mem_cons.mpr ⟨cdL_ears, List.forall_mem_cons.mpr ⟨cdL_hears, List.forall_mem_cons.mpr ⟨cdL_heard, List.forall_mem_cons.mpr ⟨cdL_bits, List.forall_mem_cons.mpr ⟨cdL_goes, List.forall_mem_cons.mpr ⟨cdL_day, List.forall_mem_cons.mpr ⟨cdL_days, List.forall_mem_cons.mpr ⟨cdL_there, List.forall_mem_cons.mpr ⟨cdL_board, List.forall_mem_cons.mpr ⟨cdL_sight, fun _ h => absurd h List.not_mem_nil⟩⟩⟩⟩⟩⟩⟩⟩⟩⟩⟩⟩⟩⟩
set_option maxRecDepth 100000 in
theorem cdT_ok : ∀ mi ∈ mt, cdP mi := List.forall_mem_append.mpr ⟨cdT_0, List.forall_mem_append.mpr ⟨cdT_1, List.forall_mem_append.mpr ⟨cdT_2, List.forall_mem_append.mpr ⟨cdT_3, List.forall_mem_append.mpr ⟨cdT_4, cdT_5⟩⟩⟩⟩⟩
set_option maxRecDepth 100000 in
theorem w_0 : nth lw_tbl 31 = some (.fieldLink RX0 9 RX0 "kind" "[I") := rfl
set_option maxRecDepth 100000 in
theorem w_1 : nth lw_tbl 33 = some (.fieldLink RX0 15 RX0 "figure" "[I") := rfl
set_option maxRecDepth 100000 in
theorem w_2 : nth lw_tbl 35 = some (.fieldLink RX0 18 RX0 "side" "[I") := rfl
set_option maxRecDepth 100000 in
theorem w_3 : nth lw_tbl 37 = some (.fieldLink RX0 21 RX0 "square" "[I") := rfl
set_option maxRecDepth 100000 in
theorem w_4 : nth lw_tbl 38 = some (.fieldLink RX0 24 RX0 "standing" "[I") := rfl
set_option maxRecDepth 100000 in
theorem w_5 : nth lw_tbl 40 = some (.fieldLink RX0 27 RX0 "count" "I") := rfl
set_option maxRecDepth 100000 in
theorem w_6 : nth lw_tbl 42 = some (.fieldLink RX0 31 RX0 "turn" "I") := rfl
set_option maxRecDepth 100000 in
theorem w_7 : nth lw_tbl 44 = some (.fieldLink RX0 34 RX0 "thought" "I") := rfl
set_option maxRecDepth 100000 in
theorem w_8 : nth lw_tbl 46 = some (.fieldLink RX0 37 RX0 "day" "I") := rfl
set_option maxRecDepth 100000 in
theorem w_9 : nth lw_tbl 84 = some (.fieldLink RX2 24 RX2 "size" "I") := rfl
set_option maxRecDepth 100000 in
theorem w_10 : nth lw_tbl 86 = some (.fieldLink RX2 27 RX2 "elements" "[I") := rfl
set_option maxRecDepth 100000 in
theorem w_11 : nth lw_tbl 100 = some (.fieldLink RX3 10 RX3 "now" "LTakenUpByThePieces$Board;") := rfl
set_option maxRecDepth 100000 in
theorem w_12 : nth lw_tbl 101 = some (.fieldLink RX3 16 RX3 "image" "LTakenUpByThePieces$Board;") := rfl
set_option maxRecDepth 100000 in
theorem w_13 : nth lw_tbl 102 = some (.fieldLink RX3 19 RX3 "imageTaken" "Z") := rfl
set_option maxRecDepth 100000 in
theorem w_14 : nth lw_tbl 103 = some (.fieldLink RX3 25 RX3 "shelves" "[LTakenUpByThePieces$Shelf;") := rfl
set_option maxRecDepth 100000 in
theorem w_15 : nth lw_tbl 105 = some (.fieldLink RX3 33 RX3 "mind" "LTakenUpByThePieces$Board;") := rfl
set_option maxRecDepth 100000 in
theorem w_16 : nth lw_tbl 106 = some (.fieldLink RX3 36 RX3 "asItIs" "LTakenUpByThePieces$Board;") := rfl
set_option maxRecDepth 100000 in
theorem w_17 : nth lw_tbl 83 = some (.fieldLink RX3 59 RX2 "sort" "I") := rfl
set_option maxRecDepth 100000 in
theorem w_18 : nth lw_tbl 85 = some (.fieldLink RX3 70 RX2 "size" "I") := rfl
set_option maxRecDepth 100000 in
theorem w_19 : nth lw_tbl 32 = some (.fieldLink RX3 91 RX0 "kind" "[I") := rfl
set_option maxRecDepth 100000 in
theorem w_20 : nth lw_tbl 34 = some (.fieldLink RX3 94 RX0 "figure" "[I") := rfl
set_option maxRecDepth 100000 in
theorem w_21 : nth lw_tbl 36 = some (.fieldLink RX3 97 RX0 "side" "[I") := rfl
set_option maxRecDepth 100000 in
theorem w_22 : nth lw_tbl 47 = some (.fieldLink RX3 111 RX0 "day" "I") := rfl
set_option maxRecDepth 100000 in
theorem w_23 : nth lw_tbl 39 = some (.fieldLink RX3 120 RX0 "standing" "[I") := rfl
set_option maxRecDepth 100000 in
theorem w_24 : nth lw_tbl 41 = some (.fieldLink RX3 126 RX0 "count" "I") := rfl
set_option maxRecDepth 100000 in
theorem w_25 : nth lw_tbl 79 = some (.fieldLink RX3 129 RX2 "kind" "I") := rfl
set_option maxRecDepth 100000 in
theorem w_26 : nth lw_tbl 81 = some (.fieldLink RX3 131 RX2 "figure" "I") := rfl
set_option maxRecDepth 100000 in
theorem w_27 : nth lw_tbl 43 = some (.fieldLink RX3 144 RX0 "turn" "I") := rfl
set_option maxRecDepth 100000 in
theorem w_28 : nth lw_tbl 45 = some (.fieldLink RX3 163 RX0 "thought" "I") := rfl
set_option maxRecDepth 100000 in
theorem w_29 : nth lw_tbl 77 = some (.fieldLink RX3 261 RX2 "holds" "I") := rfl
set_option maxRecDepth 100000 in
theorem gf_0 : gfP (0, 9, 0, 0) := ⟨by decide, nth_mem w_0, rfl⟩
set_option maxRecDepth 100000 in
theorem gf_1 : gfP (0, 15, 0, 1) := ⟨by decide, nth_mem w_1, rfl⟩
set_option maxRecDepth 100000 in
theorem gf_2 : gfP (0, 18, 0, 2) := ⟨by decide, nth_mem w_2, rfl⟩
set_option maxRecDepth 100000 in
theorem gf_3 : gfP (0, 21, 0, 3) := ⟨by decide, nth_mem w_3, rfl⟩
set_option maxRecDepth 100000 in
theorem gf_4 : gfP (0, 24, 0, 4) := ⟨by decide, nth_mem w_4, rfl⟩
set_option maxRecDepth 100000 in
theorem gf_5 : gfP (0, 27, 0, 5) := ⟨by decide, nth_mem w_5, rfl⟩
set_option maxRecDepth 100000 in
theorem gf_6 : gfP (0, 31, 0, 6) := ⟨by decide, nth_mem w_6, rfl⟩
set_option maxRecDepth 100000 in
theorem gf_7 : gfP (0, 34, 0, 7) := ⟨by decide, nth_mem w_7, rfl⟩
set_option maxRecDepth 100000 in
theorem gf_8 : gfP (0, 37, 0, 8) := ⟨by decide, nth_mem w_8, rfl⟩
set_option maxRecDepth 100000 in
theorem gf_9 : gfP (1, 24, 1, 4) := ⟨by decide, nth_mem w_9, rfl⟩
set_option maxRecDepth 100000 in
theorem gf_10 : gfP (1, 27, 1, 5) := ⟨by decide, nth_mem w_10, rfl⟩
set_option maxRecDepth 100000 in
theorem gf_11 : gfP (2, 10, 2, 0) := ⟨by decide, nth_mem w_11, rfl⟩
set_option maxRecDepth 100000 in
theorem gf_12 : gfP (2, 16, 2, 1) := ⟨by decide, nth_mem w_12, rfl⟩
set_option maxRecDepth 100000 in
theorem gf_13 : gfP (2, 19, 2, 2) := ⟨by decide, nth_mem w_13, rfl⟩
set_option maxRecDepth 100000 in
theorem gf_14 : gfP (2, 25, 2, 3) := ⟨by decide, nth_mem w_14, rfl⟩
set_option maxRecDepth 100000 in
theorem gf_15 : gfP (2, 33, 2, 5) := ⟨by decide, nth_mem w_15, rfl⟩
set_option maxRecDepth 100000 in
theorem gf_16 : gfP (2, 36, 2, 6) := ⟨by decide, nth_mem w_16, rfl⟩
set_option maxRecDepth 100000 in
theorem gf_17 : gfP (2, 59, 1, 3) := ⟨by decide, nth_mem w_17, rfl⟩
set_option maxRecDepth 100000 in
theorem gf_18 : gfP (2, 70, 1, 4) := ⟨by decide, nth_mem w_18, rfl⟩
set_option maxRecDepth 100000 in
theorem gf_19 : gfP (2, 91, 0, 0) := ⟨by decide, nth_mem w_19, rfl⟩
set_option maxRecDepth 100000 in
theorem gf_20 : gfP (2, 94, 0, 1) := ⟨by decide, nth_mem w_20, rfl⟩
set_option maxRecDepth 100000 in
theorem gf_21 : gfP (2, 97, 0, 2) := ⟨by decide, nth_mem w_21, rfl⟩
set_option maxRecDepth 100000 in
theorem gf_22 : gfP (2, 111, 0, 8) := ⟨by decide, nth_mem w_22, rfl⟩
set_option maxRecDepth 100000 in
theorem gf_23 : gfP (2, 120, 0, 4) := ⟨by decide, nth_mem w_23, rfl⟩
set_option maxRecDepth 100000 in
theorem gf_24 : gfP (2, 126, 0, 5) := ⟨by decide, nth_mem w_24, rfl⟩
set_option maxRecDepth 100000 in
theorem gf_25 : gfP (2, 129, 1, 1) := ⟨by decide, nth_mem w_25, rfl⟩
set_option maxRecDepth 100000 in
theorem gf_26 : gfP (2, 131, 1, 2) := ⟨by decide, nth_mem w_26, rfl⟩
set_option maxRecDepth 100000 in
theorem gf_27 : gfP (2, 144, 0, 6) := ⟨by decide, nth_mem w_27, rfl⟩
set_option maxRecDepth 100000 in
theorem gf_28 : gfP (2, 163, 0, 7) := ⟨by decide, nth_mem w_28, rfl⟩
set_option maxRecDepth 100000 in
theorem gf_29 : gfP (2, 261, 1, 0) := ⟨by decide, nth_mem w_29, rfl⟩
set_option maxRecDepth 100000 in
theorem gf_ok : ∀ e ∈ gfT, gfP e := List.forall_mem_cons.mpr ⟨gf_0, List.forall_mem_cons.mpr ⟨gf_1, List.forall_mem_cons.mpr ⟨gf_2, List.forall_mem_cons.mpr ⟨gf_3, List.forall_mem_cons.mpr ⟨gf_4, List.forall_mem_cons.mpr ⟨gf_5, List.forall_mem_cons.mpr ⟨gf_6, List.forall_mem_cons.mpr ⟨gf_7, List.forall_mem_cons.mpr ⟨gf_8, List.forall_mem_cons.mpr ⟨gf_9, List.forall_mem_cons.mpr ⟨gf_10, List.forall_mem_cons.mpr ⟨gf_11, List.forall_mem_cons.mpr ⟨gf_12, List.forall_mem_cons.mpr ⟨gf_13, List.forall_mem_cons.mpr ⟨gf_14, List.forall_mem_cons.mpr ⟨gf_15, List.forall_mem_cons.mpr ⟨gf_16, List.forall_mem_cons.mpr ⟨gf_17, List.forall_mem_cons.mpr ⟨gf_18, List.forall_mem_cons.mpr ⟨gf_19, List.forall_mem_cons.mpr ⟨gf_20, List.forall_mem_cons.mpr ⟨gf_21, List.forall_mem_cons.mpr ⟨gf_22, List.forall_mem_cons.mpr ⟨gf_23, List.forall_mem_cons.mpr ⟨gf_24, List.forall_mem_cons.mpr ⟨gf_25, List.forall_mem_cons.mpr ⟨gf_26, List.forall_mem_cons.mpr ⟨gf_27, List.forall_mem_cons.mpr ⟨gf_28, List.forall_mem_cons.mpr ⟨gf_29, fun _ h => absurd h List.not_mem_nil⟩⟩⟩⟩⟩⟩⟩⟩⟩⟩⟩⟩⟩⟩⟩⟩⟩⟩⟩⟩⟩⟩⟩⟩⟩⟩⟩⟩⟩⟩
set_option maxRecDepth 100000 in
theorem w_30 : nth lw_tbl 285 = some (.constant RJ6 265 (cst 1431655765 0)) := rfl
set_option maxRecDepth 100000 in
theorem w_31 : nth lw_tbl 286 = some (.constant RJ6 266 (cst 858993459 0)) := rfl
set_option maxRecDepth 100000 in
theorem w_32 : nth lw_tbl 287 = some (.constant RJ6 267 (cst 252645135 0)) := rfl
set_option maxRecDepth 100000 in
theorem w_33 : nth lw_tbl 460 = some (.constant RL 7 (cst 69069 0)) := rfl
set_option maxRecDepth 100000 in
theorem w_34 : nth lw_tbl 461 = some (.constant RL 8 (cst 1103515245 0)) := rfl
set_option maxRecDepth 100000 in
theorem ld_0 : ldP (5, 265, 1431655765, 0) := ⟨nth_mem w_30, rfl⟩
set_option maxRecDepth 100000 in
theorem ld_1 : ldP (5, 266, 858993459, 0) := ⟨nth_mem w_31, rfl⟩
set_option maxRecDepth 100000 in
theorem ld_2 : ldP (5, 267, 252645135, 0) := ⟨nth_mem w_32, rfl⟩
set_option maxRecDepth 100000 in
theorem ld_3 : ldP (8, 7, 69069, 0) := ⟨nth_mem w_33, rfl⟩
set_option maxRecDepth 100000 in
theorem ld_4 : ldP (8, 8, 1103515245, 0) := ⟨nth_mem w_34, rfl⟩
set_option maxRecDepth 100000 in
theorem ld_ok : ∀ e ∈ ldT, ldP e := List.forall_mem_cons.mpr ⟨ld_0, List.forall_mem_cons.mpr ⟨ld_1, List.forall_mem_cons.mpr ⟨ld_2, List.forall_mem_cons.mpr ⟨ld_3, List.forall_mem_cons.mpr ⟨ld_4, fun _ h => absurd h List.not_mem_nil⟩⟩⟩⟩⟩
set_option maxRecDepth 100000 in
theorem w_35 : nth lw_tbl 510 = some (.constantLong RL 85 (lcst 7)) := rfl
set_option maxRecDepth 100000 in
theorem w_36 : nth lw_tbl 511 = some (.constantLong RL 87 (lcst 31)) := rfl
set_option maxRecDepth 100000 in
theorem ll_0 : llP (8, 85, 7) := ⟨nth_mem w_35, rfl⟩
set_option maxRecDepth 100000 in
theorem ll_1 : llP (8, 87, 31) := ⟨nth_mem w_36, rfl⟩
set_option maxRecDepth 100000 in
theorem ll_ok : ∀ e ∈ llT, llP e := List.forall_mem_cons.mpr ⟨ll_0, List.forall_mem_cons.mpr ⟨ll_1, fun _ h => absurd h List.not_mem_nil⟩⟩
set_option maxRecDepth 100000 in
theorem w_37 : nth lw_tbl 162 = some (.methodLink RX0 46 arraycopyName) := rfl
set_option maxRecDepth 100000 in
theorem ac_0 : acP (0, 46) := ⟨nth_mem w_37, rfl⟩
set_option maxRecDepth 100000 in
theorem ac_ok : ∀ e ∈ acT, acP e := List.forall_mem_cons.mpr ⟨ac_0, fun _ h => absurd h List.not_mem_nil⟩
set_option maxRecDepth 100000 in
theorem w_38 : nth lw_tbl 294 = some (.methodLink RX3 81 Lib.Math.max.name) := rfl
set_option maxRecDepth 100000 in
theorem mx_0 : mxP (2, 81) := ⟨nth_mem w_38, rfl⟩
set_option maxRecDepth 100000 in
theorem mx_ok : ∀ e ∈ mxT, mxP e := List.forall_mem_cons.mpr ⟨mx_0, fun _ h => absurd h List.not_mem_nil⟩
set_option maxRecDepth 100000 in
theorem w_39 : nth lw_tbl 295 = some (.static Lib.Math.max.name) := rfl
set_option maxRecDepth 100000 in
theorem w_40 : nth lw_tbl 13 = some (.initialized "java/lang/Math") := rfl
set_option maxRecDepth 100000 in
theorem mxw_ok : InT (.static Lib.Math.max.name) ∧ InT (.initialized "java/lang/Math") ∧ InT (.code Lib.Math.max.name Lib.Math.max.code 2 (some .int)) := ⟨⟨nth_mem w_39, rfl⟩, ⟨nth_mem w_40, rfl⟩, nth_mem (k := 296) rfl, rfl⟩
set_option maxRecDepth 100000 in
theorem w_41 : nth lw_tbl 164 = some (.native arraycopyName) := rfl
set_option maxRecDepth 100000 in
theorem w_42 : nth lw_tbl 163 = some (.static arraycopyName) := rfl
set_option maxRecDepth 100000 in
theorem w_43 : nth lw_tbl 12 = some (.initialized "java/lang/System") := rfl
set_option maxRecDepth 100000 in
theorem acw_ok : InT (.native arraycopyName) ∧ InT (.static arraycopyName) ∧ InT (.initialized "java/lang/System") := ⟨⟨nth_mem w_41, rfl⟩, ⟨nth_mem w_42, rfl⟩, ⟨nth_mem w_43, rfl⟩⟩
set_option maxRecDepth 100000 in
theorem w_44 : nth lw_tbl 282 = some (.methodLink RX0 100 yJ6_bitCount_0f7a4) := rfl
set_option maxRecDepth 100000 in
theorem w_45 : nth lw_tbl 11 = some (.initialized RJ6) := rfl
set_option maxRecDepth 100000 in
theorem w_46 : nth lw_tbl 283 = some (.static yJ6_bitCount_0f7a4) := rfl
set_option maxRecDepth 100000 in
theorem w_47 : nth lw_tbl 279 = some (.methodLink RX0 109 yX1_earsWith) := rfl
set_option maxRecDepth 100000 in
theorem w_48 : nth lw_tbl 10 = some (.initialized RX1) := rfl
set_option maxRecDepth 100000 in
theorem w_49 : nth lw_tbl 280 = some (.static yX1_earsWith) := rfl
set_option maxRecDepth 100000 in
theorem w_50 : nth lw_tbl 361 = some (.methodLink RX0 139 yX1_worthWith) := rfl
set_option maxRecDepth 100000 in
theorem w_51 : nth lw_tbl 308 = some (.static yX1_worthWith) := rfl
set_option maxRecDepth 100000 in
theorem w_52 : nth lw_tbl 139 = some (.methodLink RX3 55 yX3_refusalUnless) := rfl
set_option maxRecDepth 100000 in
theorem w_53 : nth lw_tbl 6 = some (.initialized RX3) := rfl
set_option maxRecDepth 100000 in
theorem w_54 : nth lw_tbl 140 = some (.static yX3_refusalUnless) := rfl
set_option maxRecDepth 100000 in
theorem w_55 : nth lw_tbl 306 = some (.methodLink RX3 103 yX1_earsWith) := rfl
set_option maxRecDepth 100000 in
theorem w_56 : nth lw_tbl 307 = some (.methodLink RX3 108 yX1_worthWith) := rfl
set_option maxRecDepth 100000 in
theorem w_57 : nth lw_tbl 315 = some (.methodLink RX3 117 yX3_isSquare) := rfl
set_option maxRecDepth 100000 in
theorem w_58 : nth lw_tbl 205 = some (.static yX3_isSquare) := rfl
set_option maxRecDepth 100000 in
theorem w_59 : nth lw_tbl 320 = some (.methodLink RX3 123 yX3_isSide) := rfl
set_option maxRecDepth 100000 in
theorem w_60 : nth lw_tbl 190 = some (.static yX3_isSide) := rfl
set_option maxRecDepth 100000 in
theorem w_61 : nth lw_tbl 382 = some (.methodLink RX3 187 yJ6_bitCount_0f7a4) := rfl
set_option maxRecDepth 100000 in
theorem w_62 : nth lw_tbl 455 = some (.methodLink RX3 264 yX3_isKind) := rfl
set_option maxRecDepth 100000 in
theorem w_63 : nth lw_tbl 184 = some (.static yX3_isKind) := rfl
set_option maxRecDepth 100000 in
theorem w_64 : nth lw_tbl 456 = some (.methodLink RX3 267 yX3_isFigure) := rfl
set_option maxRecDepth 100000 in
theorem w_65 : nth lw_tbl 187 = some (.static yX3_isFigure) := rfl
set_option maxRecDepth 100000 in
theorem w_66 : nth lw_tbl 468 = some (.methodLink RL 9 yL_at) := rfl
set_option maxRecDepth 100000 in
theorem w_67 : nth lw_tbl 5 = some (.initialized RL) := rfl
set_option maxRecDepth 100000 in
theorem w_68 : nth lw_tbl 469 = some (.static yL_at) := rfl
set_option maxRecDepth 100000 in
theorem w_69 : nth lw_tbl 486 = some (.methodLink RL 15 yL_on) := rfl
set_option maxRecDepth 100000 in
theorem w_70 : nth lw_tbl 487 = some (.static yL_on) := rfl
set_option maxRecDepth 100000 in
theorem w_71 : nth lw_tbl 489 = some (.methodLink RL 19 yL_what) := rfl
set_option maxRecDepth 100000 in
theorem w_72 : nth lw_tbl 490 = some (.static yL_what) := rfl
set_option maxRecDepth 100000 in
theorem w_73 : nth lw_tbl 483 = some (.methodLink RL 23 yL_slide) := rfl
set_option maxRecDepth 100000 in
theorem w_74 : nth lw_tbl 484 = some (.static yL_slide) := rfl
set_option maxRecDepth 100000 in
theorem w_75 : nth lw_tbl 492 = some (.methodLink RL 27 yL_far) := rfl
set_option maxRecDepth 100000 in
theorem w_76 : nth lw_tbl 493 = some (.static yL_far) := rfl
set_option maxRecDepth 100000 in
theorem w_77 : nth lw_tbl 501 = some (.methodLink RL 31 yL_ears) := rfl
set_option maxRecDepth 100000 in
theorem w_78 : nth lw_tbl 502 = some (.static yL_ears) := rfl
set_option maxRecDepth 100000 in
theorem w_79 : nth lw_tbl 498 = some (.methodLink RL 35 yL_hears) := rfl
set_option maxRecDepth 100000 in
theorem w_80 : nth lw_tbl 499 = some (.static yL_hears) := rfl
set_option maxRecDepth 100000 in
theorem w_81 : nth lw_tbl 480 = some (.methodLink RL 39 yL_idea) := rfl
set_option maxRecDepth 100000 in
theorem w_82 : nth lw_tbl 481 = some (.static yL_idea) := rfl
set_option maxRecDepth 100000 in
theorem w_83 : nth lw_tbl 495 = some (.methodLink RL 42 yL_heard) := rfl
set_option maxRecDepth 100000 in
theorem w_84 : nth lw_tbl 496 = some (.static yL_heard) := rfl
set_option maxRecDepth 100000 in
theorem w_85 : nth lw_tbl 462 = some (.methodLink RL 45 yL_bits) := rfl
set_option maxRecDepth 100000 in
theorem w_86 : nth lw_tbl 463 = some (.static yL_bits) := rfl
set_option maxRecDepth 100000 in
theorem w_87 : nth lw_tbl 477 = some (.methodLink RL 48 yL_goes) := rfl
set_option maxRecDepth 100000 in
theorem w_88 : nth lw_tbl 478 = some (.static yL_goes) := rfl
set_option maxRecDepth 100000 in
theorem w_89 : nth lw_tbl 474 = some (.methodLink RL 51 yL_day) := rfl
set_option maxRecDepth 100000 in
theorem w_90 : nth lw_tbl 475 = some (.static yL_day) := rfl
set_option maxRecDepth 100000 in
theorem w_91 : nth lw_tbl 457 = some (.methodLink RL 58 yL_cell) := rfl
set_option maxRecDepth 100000 in
theorem w_92 : nth lw_tbl 458 = some (.static yL_cell) := rfl
set_option maxRecDepth 100000 in
theorem w_93 : nth lw_tbl 471 = some (.methodLink RL 76 yL_days) := rfl
set_option maxRecDepth 100000 in
theorem w_94 : nth lw_tbl 472 = some (.static yL_days) := rfl
set_option maxRecDepth 100000 in
theorem w_95 : nth lw_tbl 504 = some (.methodLink RL 82 yL_there) := rfl
set_option maxRecDepth 100000 in
theorem w_96 : nth lw_tbl 505 = some (.static yL_there) := rfl
set_option maxRecDepth 100000 in
theorem w_97 : nth lw_tbl 465 = some (.methodLink RL 96 yL_board) := rfl
set_option maxRecDepth 100000 in
theorem w_98 : nth lw_tbl 466 = some (.static yL_board) := rfl
set_option maxRecDepth 100000 in
theorem w_99 : nth lw_tbl 507 = some (.methodLink RL 100 yL_sight) := rfl
set_option maxRecDepth 100000 in
theorem w_100 : nth lw_tbl 508 = some (.static yL_sight) := rfl
set_option maxRecDepth 100000 in
theorem cs_0 : csP (0, 100, 26, 1) := ⟨iJ6_bitCount_0f7a4, rfl, ⟨nth_mem w_44, rfl⟩, ⟨nth_mem w_46, rfl⟩, ⟨nth_mem w_45, rfl⟩, by decide +kernel⟩
set_option maxRecDepth 100000 in
theorem cs_1 : csP (0, 109, 24, 2) := ⟨iX1_earsWith, rfl, ⟨nth_mem w_47, rfl⟩, ⟨nth_mem w_49, rfl⟩, ⟨nth_mem w_48, rfl⟩, by decide +kernel⟩
set_option maxRecDepth 100000 in
theorem cs_2 : csP (0, 139, 34, 2) := ⟨iX1_worthWith, rfl, ⟨nth_mem w_50, rfl⟩, ⟨nth_mem w_51, rfl⟩, ⟨nth_mem w_48, rfl⟩, by decide +kernel⟩
set_option maxRecDepth 100000 in
theorem cs_3 : csP (2, 55, 49, 2) := ⟨iX3_refusalUnless, rfl, ⟨nth_mem w_52, rfl⟩, ⟨nth_mem w_54, rfl⟩, ⟨nth_mem w_53, rfl⟩, by decide +kernel⟩
set_option maxRecDepth 100000 in
theorem cs_4 : csP (2, 103, 24, 2) := ⟨iX1_earsWith, rfl, ⟨nth_mem w_55, rfl⟩, ⟨nth_mem w_49, rfl⟩, ⟨nth_mem w_48, rfl⟩, by decide +kernel⟩
set_option maxRecDepth 100000 in
theorem cs_5 : csP (2, 108, 34, 2) := ⟨iX1_worthWith, rfl, ⟨nth_mem w_56, rfl⟩, ⟨nth_mem w_51, rfl⟩, ⟨nth_mem w_48, rfl⟩, by decide +kernel⟩
set_option maxRecDepth 100000 in
theorem cs_6 : csP (2, 117, 11, 1) := ⟨iX3_isSquare, rfl, ⟨nth_mem w_57, rfl⟩, ⟨nth_mem w_58, rfl⟩, ⟨nth_mem w_53, rfl⟩, by decide +kernel⟩
set_option maxRecDepth 100000 in
theorem cs_7 : csP (2, 123, 9, 1) := ⟨iX3_isSide, rfl, ⟨nth_mem w_59, rfl⟩, ⟨nth_mem w_60, rfl⟩, ⟨nth_mem w_53, rfl⟩, by decide +kernel⟩
set_option maxRecDepth 100000 in
theorem cs_8 : csP (2, 187, 26, 1) := ⟨iJ6_bitCount_0f7a4, rfl, ⟨nth_mem w_61, rfl⟩, ⟨nth_mem w_46, rfl⟩, ⟨nth_mem w_45, rfl⟩, by decide +kernel⟩
set_option maxRecDepth 100000 in
theorem cs_9 : csP (2, 264, 7, 1) := ⟨iX3_isKind, rfl, ⟨nth_mem w_62, rfl⟩, ⟨nth_mem w_63, rfl⟩, ⟨nth_mem w_53, rfl⟩, by decide +kernel⟩
set_option maxRecDepth 100000 in
theorem cs_10 : csP (2, 267, 8, 1) := ⟨iX3_isFigure, rfl, ⟨nth_mem w_64, rfl⟩, ⟨nth_mem w_65, rfl⟩, ⟨nth_mem w_53, rfl⟩, by decide +kernel⟩
set_option maxRecDepth 100000 in
theorem cs_11 : csP (8, 9, 78, 2) := ⟨iL_at, rfl, ⟨nth_mem w_66, rfl⟩, ⟨nth_mem w_68, rfl⟩, ⟨nth_mem w_67, rfl⟩, by decide +kernel⟩
set_option maxRecDepth 100000 in
theorem cs_12 : csP (8, 15, 79, 3) := ⟨iL_on, rfl, ⟨nth_mem w_69, rfl⟩, ⟨nth_mem w_70, rfl⟩, ⟨nth_mem w_67, rfl⟩, by decide +kernel⟩
set_option maxRecDepth 100000 in
theorem cs_13 : csP (8, 19, 80, 3) := ⟨iL_what, rfl, ⟨nth_mem w_71, rfl⟩, ⟨nth_mem w_72, rfl⟩, ⟨nth_mem w_67, rfl⟩, by decide +kernel⟩
set_option maxRecDepth 100000 in
theorem cs_14 : csP (8, 23, 82, 4) := ⟨iL_slide, rfl, ⟨nth_mem w_73, rfl⟩, ⟨nth_mem w_74, rfl⟩, ⟨nth_mem w_67, rfl⟩, by decide +kernel⟩
set_option maxRecDepth 100000 in
theorem cs_15 : csP (8, 27, 81, 2) := ⟨iL_far, rfl, ⟨nth_mem w_75, rfl⟩, ⟨nth_mem w_76, rfl⟩, ⟨nth_mem w_67, rfl⟩, by decide +kernel⟩
set_option maxRecDepth 100000 in
theorem cs_16 : csP (8, 31, 84, 1) := ⟨iL_ears, rfl, ⟨nth_mem w_77, rfl⟩, ⟨nth_mem w_78, rfl⟩, ⟨nth_mem w_67, rfl⟩, by decide +kernel⟩
set_option maxRecDepth 100000 in
theorem cs_17 : csP (8, 35, 85, 3) := ⟨iL_hears, rfl, ⟨nth_mem w_79, rfl⟩, ⟨nth_mem w_80, rfl⟩, ⟨nth_mem w_67, rfl⟩, by decide +kernel⟩
set_option maxRecDepth 100000 in
theorem cs_18 : csP (8, 39, 83, 3) := ⟨iL_idea, rfl, ⟨nth_mem w_81, rfl⟩, ⟨nth_mem w_82, rfl⟩, ⟨nth_mem w_67, rfl⟩, by decide +kernel⟩
set_option maxRecDepth 100000 in
theorem cs_19 : csP (8, 42, 86, 2) := ⟨iL_heard, rfl, ⟨nth_mem w_83, rfl⟩, ⟨nth_mem w_84, rfl⟩, ⟨nth_mem w_67, rfl⟩, by decide +kernel⟩
set_option maxRecDepth 100000 in
theorem cs_20 : csP (8, 45, 87, 1) := ⟨iL_bits, rfl, ⟨nth_mem w_85, rfl⟩, ⟨nth_mem w_86, rfl⟩, ⟨nth_mem w_67, rfl⟩, by decide +kernel⟩
set_option maxRecDepth 100000 in
theorem cs_21 : csP (8, 48, 88, 2) := ⟨iL_goes, rfl, ⟨nth_mem w_87, rfl⟩, ⟨nth_mem w_88, rfl⟩, ⟨nth_mem w_67, rfl⟩, by decide +kernel⟩
set_option maxRecDepth 100000 in
theorem cs_22 : csP (8, 51, 89, 1) := ⟨iL_day, rfl, ⟨nth_mem w_89, rfl⟩, ⟨nth_mem w_90, rfl⟩, ⟨nth_mem w_67, rfl⟩, by decide +kernel⟩
set_option maxRecDepth 100000 in
theorem cs_23 : csP (8, 58, 77, 2) := ⟨iL_cell, rfl, ⟨nth_mem w_91, rfl⟩, ⟨nth_mem w_92, rfl⟩, ⟨nth_mem w_67, rfl⟩, by decide +kernel⟩
set_option maxRecDepth 100000 in
theorem cs_24 : csP (8, 76, 90, 2) := ⟨iL_days, rfl, ⟨nth_mem w_93, rfl⟩, ⟨nth_mem w_94, rfl⟩, ⟨nth_mem w_67, rfl⟩, by decide +kernel⟩
set_option maxRecDepth 100000 in
theorem cs_25 : csP (8, 82, 91, 2) := ⟨iL_there, rfl, ⟨nth_mem w_95, rfl⟩, ⟨nth_mem w_96, rfl⟩, ⟨nth_mem w_67, rfl⟩, by decide +kernel⟩
set_option maxRecDepth 100000 in
theorem cs_26 : csP (8, 96, 92, 4) := ⟨iL_board, rfl, ⟨nth_mem w_97, rfl⟩, ⟨nth_mem w_98, rfl⟩, ⟨nth_mem w_67, rfl⟩, by decide +kernel⟩
set_option maxRecDepth 100000 in
theorem cs_27 : csP (8, 100, 93, 1) := ⟨iL_sight, rfl, ⟨nth_mem w_99, rfl⟩, ⟨nth_mem w_100, rfl⟩, ⟨nth_mem w_67, rfl⟩, by decide +kernel⟩
set_option maxRecDepth 100000 in
theorem cs_ok : ∀ e ∈ csT, csP e := List.forall_mem_cons.mpr ⟨cs_0, List.forall_mem_cons.mpr ⟨cs_1, List.forall_mem_cons.mpr ⟨cs_2, List.forall_mem_cons.mpr ⟨cs_3, List.forall_mem_cons.mpr ⟨cs_4, List.forall_mem_cons.mpr ⟨cs_5, List.forall_mem_cons.mpr ⟨cs_6, List.forall_mem_cons.mpr ⟨cs_7, List.forall_mem_cons.mpr ⟨cs_8, List.forall_mem_cons.mpr ⟨cs_9, List.forall_mem_cons.mpr ⟨cs_10, List.forall_mem_cons.mpr ⟨cs_11, List.forall_mem_cons.mpr ⟨cs_12, List.forall_mem_cons.mpr ⟨cs_13, List.forall_mem_cons.mpr ⟨cs_14, List.forall_mem_cons.mpr ⟨cs_15, List.forall_mem_cons.mpr ⟨cs_16, List.forall_mem_cons.mpr ⟨cs_17, List.forall_mem_cons.mpr ⟨cs_18, List.forall_mem_cons.mpr ⟨cs_19, List.forall_mem_cons.mpr ⟨cs_20, List.forall_mem_cons.mpr ⟨cs_21, List.forall_mem_cons.mpr ⟨cs_22, List.forall_mem_cons.mpr ⟨cs_23, List.forall_mem_cons.mpr ⟨cs_24, List.forall_mem_cons.mpr ⟨cs_25, List.forall_mem_cons.mpr ⟨cs_26, List.forall_mem_cons.mpr ⟨cs_27, fun _ h => absurd h List.not_mem_nil⟩⟩⟩⟩⟩⟩⟩⟩⟩⟩⟩⟩⟩⟩⟩⟩⟩⟩⟩⟩⟩⟩⟩⟩⟩⟩⟩⟩
set_option maxRecDepth 100000 in
theorem w_101 : nth lw_tbl 269 = some (.static yX3_far) := rfl
set_option maxRecDepth 100000 in
theorem cn_0 : cnP (0, 59, 7, 1) := ⟨iX3_isKind, rfl, nth_mem (k := 183) rfl, ⟨nth_mem w_63, rfl⟩, ⟨nth_mem w_53, rfl⟩, by decide +kernel⟩
set_option maxRecDepth 100000 in
theorem cn_1 : cnP (0, 62, 8, 1) := ⟨iX3_isFigure, rfl, nth_mem (k := 186) rfl, ⟨nth_mem w_65, rfl⟩, ⟨nth_mem w_53, rfl⟩, by decide +kernel⟩
set_option maxRecDepth 100000 in
theorem cn_2 : cnP (0, 65, 9, 1) := ⟨iX3_isSide, rfl, nth_mem (k := 189) rfl, ⟨nth_mem w_60, rfl⟩, ⟨nth_mem w_53, rfl⟩, by decide +kernel⟩
set_option maxRecDepth 100000 in
theorem cn_3 : cnP (0, 71, 11, 1) := ⟨iX3_isSquare, rfl, nth_mem (k := 204) rfl, ⟨nth_mem w_58, rfl⟩, ⟨nth_mem w_53, rfl⟩, by decide +kernel⟩
set_option maxRecDepth 100000 in
theorem cn_4 : cnP (0, 114, 20, 2) := ⟨iX3_far, rfl, nth_mem (k := 268) rfl, ⟨nth_mem w_101, rfl⟩, ⟨nth_mem w_53, rfl⟩, by decide +kernel⟩
set_option maxRecDepth 100000 in
theorem cn_ok : ∀ e ∈ cnT, cnP e := List.forall_mem_cons.mpr ⟨cn_0, List.forall_mem_cons.mpr ⟨cn_1, List.forall_mem_cons.mpr ⟨cn_2, List.forall_mem_cons.mpr ⟨cn_3, List.forall_mem_cons.mpr ⟨cn_4, fun _ h => absurd h List.not_mem_nil⟩⟩⟩⟩⟩
set_option maxRecDepth 100000 in
theorem w_102 : nth lw_tbl 200 = some (.methodLink RX0 52 yX0_has) := rfl
set_option maxRecDepth 100000 in
theorem w_103 : nth lw_tbl 7 = some (.initialized RX0) := rfl
set_option maxRecDepth 100000 in
theorem w_104 : nth lw_tbl 201 = some (.instanceMethod yX0_has) := rfl
set_option maxRecDepth 100000 in
theorem w_105 : nth lw_tbl 202 = some (.selects RX0 yX0_has yX0_has) := rfl
set_option maxRecDepth 100000 in
theorem w_106 : nth lw_tbl 240 = some (.methodLink RX0 56 yX0_isThere) := rfl
set_option maxRecDepth 100000 in
theorem w_107 : nth lw_tbl 241 = some (.instanceMethod yX0_isThere) := rfl
set_option maxRecDepth 100000 in
theorem w_108 : nth lw_tbl 242 = some (.selects RX0 yX0_isThere yX0_isThere) := rfl
set_option maxRecDepth 100000 in
theorem w_109 : nth lw_tbl 192 = some (.methodLink RX0 68 yX0_isFree) := rfl
set_option maxRecDepth 100000 in
theorem w_110 : nth lw_tbl 193 = some (.instanceMethod yX0_isFree) := rfl
set_option maxRecDepth 100000 in
theorem w_111 : nth lw_tbl 194 = some (.selects RX0 yX0_isFree yX0_isFree) := rfl
set_option maxRecDepth 100000 in
theorem w_112 : nth lw_tbl 207 = some (.methodLink RX0 74 yX0_takeOff) := rfl
set_option maxRecDepth 100000 in
theorem w_113 : nth lw_tbl 208 = some (.instanceMethod yX0_takeOff) := rfl
set_option maxRecDepth 100000 in
theorem w_114 : nth lw_tbl 209 = some (.selects RX0 yX0_takeOff yX0_takeOff) := rfl
set_option maxRecDepth 100000 in
theorem w_115 : nth lw_tbl 224 = some (.methodLink RX0 77 yX0_passDay) := rfl
set_option maxRecDepth 100000 in
theorem w_116 : nth lw_tbl 225 = some (.instanceMethod yX0_passDay) := rfl
set_option maxRecDepth 100000 in
theorem w_117 : nth lw_tbl 226 = some (.selects RX0 yX0_passDay yX0_passDay) := rfl
set_option maxRecDepth 100000 in
theorem w_118 : nth lw_tbl 228 = some (.methodLink RX0 81 yX0_goerOn) := rfl
set_option maxRecDepth 100000 in
theorem w_119 : nth lw_tbl 229 = some (.instanceMethod yX0_goerOn) := rfl
set_option maxRecDepth 100000 in
theorem w_120 : nth lw_tbl 230 = some (.selects RX0 yX0_goerOn yX0_goerOn) := rfl
set_option maxRecDepth 100000 in
theorem w_121 : nth lw_tbl 236 = some (.methodLink RX0 85 yX0_ideaOf) := rfl
set_option maxRecDepth 100000 in
theorem w_122 : nth lw_tbl 237 = some (.instanceMethod yX0_ideaOf) := rfl
set_option maxRecDepth 100000 in
theorem w_123 : nth lw_tbl 238 = some (.selects RX0 yX0_ideaOf yX0_ideaOf) := rfl
set_option maxRecDepth 100000 in
theorem w_124 : nth lw_tbl 292 = some (.methodLink RX0 89 yX0_movePiece) := rfl
set_option maxRecDepth 100000 in
theorem w_125 : nth lw_tbl 197 = some (.instanceMethod yX0_movePiece) := rfl
set_option maxRecDepth 100000 in
theorem w_126 : nth lw_tbl 198 = some (.selects RX0 yX0_movePiece yX0_movePiece) := rfl
set_option maxRecDepth 100000 in
theorem w_127 : nth lw_tbl 232 = some (.methodLink RX0 93 yX0_isThereOf) := rfl
set_option maxRecDepth 100000 in
theorem w_128 : nth lw_tbl 233 = some (.instanceMethod yX0_isThereOf) := rfl
set_option maxRecDepth 100000 in
theorem w_129 : nth lw_tbl 234 = some (.selects RX0 yX0_isThereOf yX0_isThereOf) := rfl
set_option maxRecDepth 100000 in
theorem w_130 : nth lw_tbl 275 = some (.methodLink RX0 96 yX0_hearersOf) := rfl
set_option maxRecDepth 100000 in
theorem w_131 : nth lw_tbl 276 = some (.instanceMethod yX0_hearersOf) := rfl
set_option maxRecDepth 100000 in
theorem w_132 : nth lw_tbl 277 = some (.selects RX0 yX0_hearersOf yX0_hearersOf) := rfl
set_option maxRecDepth 100000 in
theorem w_133 : nth lw_tbl 288 = some (.methodLink RX0 106 yX0_howManyOf) := rfl
set_option maxRecDepth 100000 in
theorem w_134 : nth lw_tbl 289 = some (.instanceMethod yX0_howManyOf) := rfl
set_option maxRecDepth 100000 in
theorem w_135 : nth lw_tbl 290 = some (.selects RX0 yX0_howManyOf yX0_howManyOf) := rfl
set_option maxRecDepth 100000 in
theorem w_136 : nth lw_tbl 244 = some (.methodLink RX0 117 yX0_knightIdea) := rfl
set_option maxRecDepth 100000 in
theorem w_137 : nth lw_tbl 245 = some (.instanceMethod yX0_knightIdea) := rfl
set_option maxRecDepth 100000 in
theorem w_138 : nth lw_tbl 246 = some (.selects RX0 yX0_knightIdea yX0_knightIdea) := rfl
set_option maxRecDepth 100000 in
theorem w_139 : nth lw_tbl 256 = some (.methodLink RX0 120 yX0_slideIdea) := rfl
set_option maxRecDepth 100000 in
theorem w_140 : nth lw_tbl 257 = some (.instanceMethod yX0_slideIdea) := rfl
set_option maxRecDepth 100000 in
theorem w_141 : nth lw_tbl 258 = some (.selects RX0 yX0_slideIdea yX0_slideIdea) := rfl
set_option maxRecDepth 100000 in
theorem w_142 : nth lw_tbl 260 = some (.methodLink RX0 124 yX0_bishopIdea) := rfl
set_option maxRecDepth 100000 in
theorem w_143 : nth lw_tbl 261 = some (.instanceMethod yX0_bishopIdea) := rfl
set_option maxRecDepth 100000 in
theorem w_144 : nth lw_tbl 262 = some (.selects RX0 yX0_bishopIdea yX0_bishopIdea) := rfl
set_option maxRecDepth 100000 in
theorem w_145 : nth lw_tbl 264 = some (.methodLink RX0 127 yX0_kingIdea) := rfl
set_option maxRecDepth 100000 in
theorem w_146 : nth lw_tbl 265 = some (.instanceMethod yX0_kingIdea) := rfl
set_option maxRecDepth 100000 in
theorem w_147 : nth lw_tbl 266 = some (.selects RX0 yX0_kingIdea yX0_kingIdea) := rfl
set_option maxRecDepth 100000 in
theorem w_148 : nth lw_tbl 248 = some (.methodLink RX0 130 yX0_squareFrom) := rfl
set_option maxRecDepth 100000 in
theorem w_149 : nth lw_tbl 249 = some (.instanceMethod yX0_squareFrom) := rfl
set_option maxRecDepth 100000 in
theorem w_150 : nth lw_tbl 250 = some (.selects RX0 yX0_squareFrom yX0_squareFrom) := rfl
set_option maxRecDepth 100000 in
theorem w_151 : nth lw_tbl 271 = some (.methodLink RX0 133 yX0_pawnIdea) := rfl
set_option maxRecDepth 100000 in
theorem w_152 : nth lw_tbl 272 = some (.instanceMethod yX0_pawnIdea) := rfl
set_option maxRecDepth 100000 in
theorem w_153 : nth lw_tbl 273 = some (.selects RX0 yX0_pawnIdea yX0_pawnIdea) := rfl
set_option maxRecDepth 100000 in
theorem w_154 : nth lw_tbl 252 = some (.methodLink RX0 136 yX0_isHeldBy) := rfl
set_option maxRecDepth 100000 in
theorem w_155 : nth lw_tbl 253 = some (.instanceMethod yX0_isHeldBy) := rfl
set_option maxRecDepth 100000 in
theorem w_156 : nth lw_tbl 254 = some (.selects RX0 yX0_isHeldBy yX0_isHeldBy) := rfl
set_option maxRecDepth 100000 in
theorem w_157 : nth lw_tbl 409 = some (.methodLink RX0 142 yX0_worthOf) := rfl
set_option maxRecDepth 100000 in
theorem w_158 : nth lw_tbl 358 = some (.instanceMethod yX0_worthOf) := rfl
set_option maxRecDepth 100000 in
theorem w_159 : nth lw_tbl 359 = some (.selects RX0 yX0_worthOf yX0_worthOf) := rfl
set_option maxRecDepth 100000 in
theorem w_160 : nth lw_tbl 418 = some (.methodLink RX0 145 yX0_groupAround) := rfl
set_option maxRecDepth 100000 in
theorem w_161 : nth lw_tbl 419 = some (.instanceMethod yX0_groupAround) := rfl
set_option maxRecDepth 100000 in
theorem w_162 : nth lw_tbl 420 = some (.selects RX0 yX0_groupAround yX0_groupAround) := rfl
set_option maxRecDepth 100000 in
theorem w_163 : nth lw_tbl 150 = some (.methodLink RX2 37 yX2_hasPlace) := rfl
set_option maxRecDepth 100000 in
theorem w_164 : nth lw_tbl 9 = some (.initialized RX2) := rfl
set_option maxRecDepth 100000 in
theorem w_165 : nth lw_tbl 151 = some (.instanceMethod yX2_hasPlace) := rfl
set_option maxRecDepth 100000 in
theorem w_166 : nth lw_tbl 152 = some (.selects RX2 yX2_hasPlace yX2_hasPlace) := rfl
set_option maxRecDepth 100000 in
theorem w_167 : nth lw_tbl 146 = some (.methodLink RX2 42 yX2_elementAt) := rfl
set_option maxRecDepth 100000 in
theorem w_168 : nth lw_tbl 147 = some (.instanceMethod yX2_elementAt) := rfl
set_option maxRecDepth 100000 in
theorem w_169 : nth lw_tbl 148 = some (.selects RX2 yX2_elementAt yX2_elementAt) := rfl
set_option maxRecDepth 100000 in
theorem w_170 : nth lw_tbl 154 = some (.methodLink RX2 46 yX2_digitsBehind) := rfl
set_option maxRecDepth 100000 in
theorem w_171 : nth lw_tbl 155 = some (.instanceMethod yX2_digitsBehind) := rfl
set_option maxRecDepth 100000 in
theorem w_172 : nth lw_tbl 156 = some (.selects RX2 yX2_digitsBehind yX2_digitsBehind) := rfl
set_option maxRecDepth 100000 in
theorem w_173 : nth lw_tbl 178 = some (.methodLink RX2 49 yX2_digitAt) := rfl
set_option maxRecDepth 100000 in
theorem w_174 : nth lw_tbl 170 = some (.instanceMethod yX2_digitAt) := rfl
set_option maxRecDepth 100000 in
theorem w_175 : nth lw_tbl 171 = some (.selects RX2 yX2_digitAt yX2_digitAt) := rfl
set_option maxRecDepth 100000 in
theorem w_176 : nth lw_tbl 135 = some (.methodLink RX3 51 yX3_shelfAt) := rfl
set_option maxRecDepth 100000 in
theorem w_177 : nth lw_tbl 137 = some (.instanceMethod yX3_shelfAt) := rfl
set_option maxRecDepth 100000 in
theorem w_178 : nth lw_tbl 0 = some (.selects RX3 yX3_shelfAt yX3_shelfAt) := rfl
set_option maxRecDepth 100000 in
theorem w_179 : nth lw_tbl 142 = some (.methodLink RX3 62 yX2_wrongByte) := rfl
set_option maxRecDepth 100000 in
theorem w_180 : nth lw_tbl 143 = some (.instanceMethod yX2_wrongByte) := rfl
set_option maxRecDepth 100000 in
theorem w_181 : nth lw_tbl 144 = some (.selects RX2 yX2_wrongByte yX2_wrongByte) := rfl
set_option maxRecDepth 100000 in
theorem w_182 : nth lw_tbl 158 = some (.methodLink RX3 66 yX0_becomes) := rfl
set_option maxRecDepth 100000 in
theorem w_183 : nth lw_tbl 159 = some (.instanceMethod yX0_becomes) := rfl
set_option maxRecDepth 100000 in
theorem w_184 : nth lw_tbl 160 = some (.selects RX0 yX0_becomes yX0_becomes) := rfl
set_option maxRecDepth 100000 in
theorem w_185 : nth lw_tbl 165 = some (.methodLink RX3 73 yX3_isDone) := rfl
set_option maxRecDepth 100000 in
theorem w_186 : nth lw_tbl 167 = some (.instanceMethod yX3_isDone) := rfl
set_option maxRecDepth 100000 in
theorem w_187 : nth lw_tbl 1 = some (.selects RX3 yX3_isDone yX3_isDone) := rfl
set_option maxRecDepth 100000 in
theorem w_188 : nth lw_tbl 293 = some (.methodLink RX3 77 yX2_digitsBehind) := rfl
set_option maxRecDepth 100000 in
theorem w_189 : nth lw_tbl 301 = some (.methodLink RX3 87 yX0_has) := rfl
set_option maxRecDepth 100000 in
theorem w_190 : nth lw_tbl 302 = some (.methodLink RX3 100 yX0_squareOrNone) := rfl
set_option maxRecDepth 100000 in
theorem w_191 : nth lw_tbl 303 = some (.instanceMethod yX0_squareOrNone) := rfl
set_option maxRecDepth 100000 in
theorem w_192 : nth lw_tbl 304 = some (.selects RX0 yX0_squareOrNone yX0_squareOrNone) := rfl
set_option maxRecDepth 100000 in
theorem w_193 : nth lw_tbl 310 = some (.methodLink RX3 114 yX0_ideaOf) := rfl
set_option maxRecDepth 100000 in
theorem w_194 : nth lw_tbl 179 = some (.methodLink RX3 133 yX0_addPiece) := rfl
set_option maxRecDepth 100000 in
theorem w_195 : nth lw_tbl 180 = some (.instanceMethod yX0_addPiece) := rfl
set_option maxRecDepth 100000 in
theorem w_196 : nth lw_tbl 181 = some (.selects RX0 yX0_addPiece yX0_addPiece) := rfl
set_option maxRecDepth 100000 in
theorem w_197 : nth lw_tbl 196 = some (.methodLink RX3 137 yX0_movePiece) := rfl
set_option maxRecDepth 100000 in
theorem w_198 : nth lw_tbl 211 = some (.methodLink RX3 141 yX0_takeOff) := rfl
set_option maxRecDepth 100000 in
theorem w_199 : nth lw_tbl 212 = some (.methodLink RX3 147 yX0_giveTurn) := rfl
set_option maxRecDepth 100000 in
theorem w_200 : nth lw_tbl 213 = some (.instanceMethod yX0_giveTurn) := rfl
set_option maxRecDepth 100000 in
theorem w_201 : nth lw_tbl 214 = some (.selects RX0 yX0_giveTurn yX0_giveTurn) := rfl
set_option maxRecDepth 100000 in
theorem w_202 : nth lw_tbl 220 = some (.methodLink RX3 150 yX0_passWithinLast) := rfl
set_option maxRecDepth 100000 in
theorem w_203 : nth lw_tbl 221 = some (.instanceMethod yX0_passWithinLast) := rfl
set_option maxRecDepth 100000 in
theorem w_204 : nth lw_tbl 222 = some (.selects RX0 yX0_passWithinLast yX0_passWithinLast) := rfl
set_option maxRecDepth 100000 in
theorem w_205 : nth lw_tbl 337 = some (.methodLink RX3 153 yX0_howManyThere) := rfl
set_option maxRecDepth 100000 in
theorem w_206 : nth lw_tbl 338 = some (.instanceMethod yX0_howManyThere) := rfl
set_option maxRecDepth 100000 in
theorem w_207 : nth lw_tbl 339 = some (.selects RX0 yX0_howManyThere yX0_howManyThere) := rfl
set_option maxRecDepth 100000 in
theorem w_208 : nth lw_tbl 345 = some (.methodLink RX3 156 yX3_lookAhead) := rfl
set_option maxRecDepth 100000 in
theorem w_209 : nth lw_tbl 347 = some (.instanceMethod yX3_lookAhead) := rfl
set_option maxRecDepth 100000 in
theorem w_210 : nth lw_tbl 2 = some (.selects RX3 yX3_lookAhead yX3_lookAhead) := rfl
set_option maxRecDepth 100000 in
theorem w_211 : nth lw_tbl 353 = some (.methodLink RX3 160 yX0_bitsThere) := rfl
set_option maxRecDepth 100000 in
theorem w_212 : nth lw_tbl 354 = some (.instanceMethod yX0_bitsThere) := rfl
set_option maxRecDepth 100000 in
theorem w_213 : nth lw_tbl 355 = some (.selects RX0 yX0_bitsThere yX0_bitsThere) := rfl
set_option maxRecDepth 100000 in
theorem w_214 : nth lw_tbl 357 = some (.methodLink RX3 166 yX0_worthOf) := rfl
set_option maxRecDepth 100000 in
theorem w_215 : nth lw_tbl 366 = some (.methodLink RX3 169 yX3_firstToFall) := rfl
set_option maxRecDepth 100000 in
theorem w_216 : nth lw_tbl 368 = some (.instanceMethod yX3_firstToFall) := rfl
set_option maxRecDepth 100000 in
theorem w_217 : nth lw_tbl 3 = some (.selects RX3 yX3_firstToFall yX3_firstToFall) := rfl
set_option maxRecDepth 100000 in
theorem w_218 : nth lw_tbl 371 = some (.methodLink RX3 172 yX0_isThere) := rfl
set_option maxRecDepth 100000 in
theorem w_219 : nth lw_tbl 370 = some (.methodLink RX3 175 yX0_passDay) := rfl
set_option maxRecDepth 100000 in
theorem w_220 : nth lw_tbl 380 = some (.methodLink RX3 179 yX0_goerOn) := rfl
set_option maxRecDepth 100000 in
theorem w_221 : nth lw_tbl 381 = some (.methodLink RX3 183 yX0_hearersOf) := rfl
set_option maxRecDepth 100000 in
theorem w_222 : nth lw_tbl 391 = some (.methodLink RX3 192 yX0_isThereOf) := rfl
set_option maxRecDepth 100000 in
theorem w_223 : nth lw_tbl 392 = some (.methodLink RX3 195 yX0_isHeldBy) := rfl
set_option maxRecDepth 100000 in
theorem w_224 : nth lw_tbl 397 = some (.methodLink RX3 198 yX3_placeInMind) := rfl
set_option maxRecDepth 100000 in
theorem w_225 : nth lw_tbl 399 = some (.instanceMethod yX3_placeInMind) := rfl
set_option maxRecDepth 100000 in
theorem w_226 : nth lw_tbl 4 = some (.selects RX3 yX3_placeInMind yX3_placeInMind) := rfl
set_option maxRecDepth 100000 in
theorem w_227 : nth lw_tbl 349 = some (.methodLink RX3 201 yX0_passDays) := rfl
set_option maxRecDepth 100000 in
theorem w_228 : nth lw_tbl 350 = some (.instanceMethod yX0_passDays) := rfl
set_option maxRecDepth 100000 in
theorem w_229 : nth lw_tbl 351 = some (.selects RX0 yX0_passDays yX0_passDays) := rfl
set_option maxRecDepth 100000 in
theorem w_230 : nth lw_tbl 405 = some (.methodLink RX3 204 yX0_worthWithout) := rfl
set_option maxRecDepth 100000 in
theorem w_231 : nth lw_tbl 406 = some (.instanceMethod yX0_worthWithout) := rfl
set_option maxRecDepth 100000 in
theorem w_232 : nth lw_tbl 407 = some (.selects RX0 yX0_worthWithout yX0_worthWithout) := rfl
set_option maxRecDepth 100000 in
theorem w_233 : nth lw_tbl 414 = some (.methodLink RX3 213 yX0_groupsOf) := rfl
set_option maxRecDepth 100000 in
theorem w_234 : nth lw_tbl 415 = some (.instanceMethod yX0_groupsOf) := rfl
set_option maxRecDepth 100000 in
theorem w_235 : nth lw_tbl 416 = some (.selects RX0 yX0_groupsOf yX0_groupsOf) := rfl
set_option maxRecDepth 100000 in
theorem w_236 : nth lw_tbl 422 = some (.methodLink RX3 216 yX0_farthestOf) := rfl
set_option maxRecDepth 100000 in
theorem w_237 : nth lw_tbl 423 = some (.instanceMethod yX0_farthestOf) := rfl
set_option maxRecDepth 100000 in
theorem w_238 : nth lw_tbl 424 = some (.selects RX0 yX0_farthestOf yX0_farthestOf) := rfl
set_option maxRecDepth 100000 in
theorem w_239 : nth lw_tbl 426 = some (.methodLink RX3 219 yX0_howManyOf) := rfl
set_option maxRecDepth 100000 in
theorem w_240 : nth lw_tbl 431 = some (.methodLink RX3 222 yX0_pairsSideBySide) := rfl
set_option maxRecDepth 100000 in
theorem w_241 : nth lw_tbl 432 = some (.instanceMethod yX0_pairsSideBySide) := rfl
set_option maxRecDepth 100000 in
theorem w_242 : nth lw_tbl 433 = some (.selects RX0 yX0_pairsSideBySide yX0_pairsSideBySide) := rfl
set_option maxRecDepth 100000 in
theorem w_243 : nth lw_tbl 435 = some (.methodLink RX3 225 yX0_quietOn) := rfl
set_option maxRecDepth 100000 in
theorem w_244 : nth lw_tbl 436 = some (.instanceMethod yX0_quietOn) := rfl
set_option maxRecDepth 100000 in
theorem w_245 : nth lw_tbl 437 = some (.selects RX0 yX0_quietOn yX0_quietOn) := rfl
set_option maxRecDepth 100000 in
theorem w_246 : nth lw_tbl 216 = some (.methodLink RX3 228 yX0_turnInto) := rfl
set_option maxRecDepth 100000 in
theorem w_247 : nth lw_tbl 217 = some (.instanceMethod yX0_turnInto) := rfl
set_option maxRecDepth 100000 in
theorem w_248 : nth lw_tbl 218 = some (.selects RX0 yX0_turnInto yX0_turnInto) := rfl
set_option maxRecDepth 100000 in
theorem w_249 : nth lw_tbl 173 = some (.methodLink RX3 252 yX2_elementAt) := rfl
set_option maxRecDepth 100000 in
theorem w_250 : nth lw_tbl 169 = some (.methodLink RX3 316 yX2_digitAt) := rfl
set_option maxRecDepth 100000 in
theorem w_251 : nth lw_tbl 174 = some (.methodLink RX3 319 yX2_twoDigitsAt) := rfl
set_option maxRecDepth 100000 in
theorem w_252 : nth lw_tbl 175 = some (.instanceMethod yX2_twoDigitsAt) := rfl
set_option maxRecDepth 100000 in
theorem w_253 : nth lw_tbl 176 = some (.selects RX2 yX2_twoDigitsAt yX2_twoDigitsAt) := rfl
set_option maxRecDepth 100000 in
theorem w_254 : nth lw_tbl 451 = some (.methodLink RL 61 yX3_keep) := rfl
set_option maxRecDepth 100000 in
theorem w_255 : nth lw_tbl 452 = some (.instanceMethod yX3_keep) := rfl
set_option maxRecDepth 100000 in
theorem w_256 : nth lw_tbl 453 = some (.selects RX3 yX3_keep yX3_keep) := rfl
set_option maxRecDepth 100000 in
theorem w_257 : nth lw_tbl 316 = some (.methodLink RL 67 yX3_comes) := rfl
set_option maxRecDepth 100000 in
theorem w_258 : nth lw_tbl 317 = some (.instanceMethod yX3_comes) := rfl
set_option maxRecDepth 100000 in
theorem w_259 : nth lw_tbl 318 = some (.selects RX3 yX3_comes yX3_comes) := rfl
set_option maxRecDepth 100000 in
theorem w_260 : nth lw_tbl 325 = some (.methodLink RL 70 yX3_takes) := rfl
set_option maxRecDepth 100000 in
theorem w_261 : nth lw_tbl 326 = some (.instanceMethod yX3_takes) := rfl
set_option maxRecDepth 100000 in
theorem w_262 : nth lw_tbl 327 = some (.selects RX3 yX3_takes yX3_takes) := rfl
set_option maxRecDepth 100000 in
theorem w_263 : nth lw_tbl 329 = some (.methodLink RL 73 yX3_turn) := rfl
set_option maxRecDepth 100000 in
theorem w_264 : nth lw_tbl 330 = some (.instanceMethod yX3_turn) := rfl
set_option maxRecDepth 100000 in
theorem w_265 : nth lw_tbl 331 = some (.selects RX3 yX3_turn yX3_turn) := rfl
set_option maxRecDepth 100000 in
theorem w_266 : nth lw_tbl 333 = some (.methodLink RL 80 yX3_days) := rfl
set_option maxRecDepth 100000 in
theorem w_267 : nth lw_tbl 334 = some (.instanceMethod yX3_days) := rfl
set_option maxRecDepth 100000 in
theorem w_268 : nth lw_tbl 335 = some (.selects RX3 yX3_days yX3_days) := rfl
set_option maxRecDepth 100000 in
theorem w_269 : nth lw_tbl 447 = some (.methodLink RL 89 yX3_count) := rfl
set_option maxRecDepth 100000 in
theorem w_270 : nth lw_tbl 448 = some (.instanceMethod yX3_count) := rfl
set_option maxRecDepth 100000 in
theorem w_271 : nth lw_tbl 449 = some (.selects RX3 yX3_count yX3_count) := rfl
set_option maxRecDepth 100000 in
theorem w_272 : nth lw_tbl 297 = some (.methodLink RL 92 yX3_piece) := rfl
set_option maxRecDepth 100000 in
theorem w_273 : nth lw_tbl 298 = some (.instanceMethod yX3_piece) := rfl
set_option maxRecDepth 100000 in
theorem w_274 : nth lw_tbl 299 = some (.selects RX3 yX3_piece yX3_piece) := rfl
set_option maxRecDepth 100000 in
theorem w_275 : nth lw_tbl 311 = some (.methodLink RL 104 yX3_on) := rfl
set_option maxRecDepth 100000 in
theorem w_276 : nth lw_tbl 312 = some (.instanceMethod yX3_on) := rfl
set_option maxRecDepth 100000 in
theorem w_277 : nth lw_tbl 313 = some (.selects RX3 yX3_on yX3_on) := rfl
set_option maxRecDepth 100000 in
theorem w_278 : nth lw_tbl 410 = some (.methodLink RL 106 yX3_side) := rfl
set_option maxRecDepth 100000 in
theorem w_279 : nth lw_tbl 411 = some (.instanceMethod yX3_side) := rfl
set_option maxRecDepth 100000 in
theorem w_280 : nth lw_tbl 412 = some (.selects RX3 yX3_side yX3_side) := rfl
set_option maxRecDepth 100000 in
theorem w_281 : nth lw_tbl 427 = some (.methodLink RL 109 yX3_free) := rfl
set_option maxRecDepth 100000 in
theorem w_282 : nth lw_tbl 428 = some (.instanceMethod yX3_free) := rfl
set_option maxRecDepth 100000 in
theorem w_283 : nth lw_tbl 429 = some (.selects RX3 yX3_free yX3_free) := rfl
set_option maxRecDepth 100000 in
theorem w_284 : nth lw_tbl 387 = some (.methodLink RL 112 yX3_danger) := rfl
set_option maxRecDepth 100000 in
theorem w_285 : nth lw_tbl 388 = some (.instanceMethod yX3_danger) := rfl
set_option maxRecDepth 100000 in
theorem w_286 : nth lw_tbl 389 = some (.selects RX3 yX3_danger yX3_danger) := rfl
set_option maxRecDepth 100000 in
theorem w_287 : nth lw_tbl 376 = some (.methodLink RL 115 yX3_next) := rfl
set_option maxRecDepth 100000 in
theorem w_288 : nth lw_tbl 377 = some (.instanceMethod yX3_next) := rfl
set_option maxRecDepth 100000 in
theorem w_289 : nth lw_tbl 378 = some (.selects RX3 yX3_next yX3_next) := rfl
set_option maxRecDepth 100000 in
theorem w_290 : nth lw_tbl 321 = some (.methodLink RL 118 yX3_stands) := rfl
set_option maxRecDepth 100000 in
theorem w_291 : nth lw_tbl 322 = some (.instanceMethod yX3_stands) := rfl
set_option maxRecDepth 100000 in
theorem w_292 : nth lw_tbl 323 = some (.selects RX3 yX3_stands yX3_stands) := rfl
set_option maxRecDepth 100000 in
theorem w_293 : nth lw_tbl 439 = some (.methodLink RL 121 yX3_image) := rfl
set_option maxRecDepth 100000 in
theorem w_294 : nth lw_tbl 440 = some (.instanceMethod yX3_image) := rfl
set_option maxRecDepth 100000 in
theorem w_295 : nth lw_tbl 441 = some (.selects RX3 yX3_image yX3_image) := rfl
set_option maxRecDepth 100000 in
theorem w_296 : nth lw_tbl 443 = some (.methodLink RL 125 yX3_restore) := rfl
set_option maxRecDepth 100000 in
theorem w_297 : nth lw_tbl 444 = some (.instanceMethod yX3_restore) := rfl
set_option maxRecDepth 100000 in
theorem w_298 : nth lw_tbl 445 = some (.selects RX3 yX3_restore yX3_restore) := rfl
set_option maxRecDepth 100000 in
theorem w_299 : nth lw_tbl 131 = some (.methodLink RL 128 yX3_game) := rfl
set_option maxRecDepth 100000 in
theorem w_300 : nth lw_tbl 132 = some (.instanceMethod yX3_game) := rfl
set_option maxRecDepth 100000 in
theorem w_301 : nth lw_tbl 133 = some (.selects RX3 yX3_game yX3_game) := rfl
set_option maxRecDepth 100000 in
theorem w_302 : nth lw_tbl 341 = some (.methodLink RL 131 yX3_then) := rfl
set_option maxRecDepth 100000 in
theorem w_303 : nth lw_tbl 342 = some (.instanceMethod yX3_then) := rfl
set_option maxRecDepth 100000 in
theorem w_304 : nth lw_tbl 343 = some (.selects RX3 yX3_then yX3_then) := rfl
set_option maxRecDepth 100000 in
theorem w_305 : nth lw_tbl 372 = some (.methodLink RL 134 yX3_still) := rfl
set_option maxRecDepth 100000 in
theorem w_306 : nth lw_tbl 373 = some (.instanceMethod yX3_still) := rfl
set_option maxRecDepth 100000 in
theorem w_307 : nth lw_tbl 374 = some (.selects RX3 yX3_still yX3_still) := rfl
set_option maxRecDepth 100000 in
theorem w_308 : nth lw_tbl 401 = some (.methodLink RL 137 yX3_off) := rfl
set_option maxRecDepth 100000 in
theorem w_309 : nth lw_tbl 402 = some (.instanceMethod yX3_off) := rfl
set_option maxRecDepth 100000 in
theorem w_310 : nth lw_tbl 403 = some (.selects RX3 yX3_off yX3_off) := rfl
set_option maxRecDepth 100000 in
theorem w_311 : nth lw_tbl 362 = some (.methodLink RL 140 yX3_falls) := rfl
set_option maxRecDepth 100000 in
theorem w_312 : nth lw_tbl 363 = some (.instanceMethod yX3_falls) := rfl
set_option maxRecDepth 100000 in
theorem w_313 : nth lw_tbl 364 = some (.selects RX3 yX3_falls yX3_falls) := rfl
set_option maxRecDepth 100000 in
theorem w_314 : nth lw_tbl 383 = some (.methodLink RL 143 yX3_heard) := rfl
set_option maxRecDepth 100000 in
theorem w_315 : nth lw_tbl 384 = some (.instanceMethod yX3_heard) := rfl
set_option maxRecDepth 100000 in
theorem w_316 : nth lw_tbl 385 = some (.selects RX3 yX3_heard yX3_heard) := rfl
set_option maxRecDepth 100000 in
theorem w_317 : nth lw_tbl 393 = some (.methodLink RL 145 yX3_stand) := rfl
set_option maxRecDepth 100000 in
theorem w_318 : nth lw_tbl 394 = some (.instanceMethod yX3_stand) := rfl
set_option maxRecDepth 100000 in
theorem w_319 : nth lw_tbl 395 = some (.selects RX3 yX3_stand yX3_stand) := rfl
set_option maxRecDepth 100000 in
theorem cv_0 : cvP (0, 52, 1, 2) := ⟨iX0_has, rfl, ⟨nth_mem w_102, rfl⟩, ⟨nth_mem w_104, rfl⟩, ⟨nth_mem w_103, rfl⟩, ⟨nth_mem w_105, rfl⟩, by decide, by decide +kernel⟩
set_option maxRecDepth 100000 in
theorem cv_1 : cvP (0, 56, 2, 2) := ⟨iX0_isThere, rfl, ⟨nth_mem w_106, rfl⟩, ⟨nth_mem w_107, rfl⟩, ⟨nth_mem w_103, rfl⟩, ⟨nth_mem w_108, rfl⟩, by decide, by decide +kernel⟩
set_option maxRecDepth 100000 in
theorem cv_2 : cvP (0, 68, 5, 2) := ⟨iX0_isFree, rfl, ⟨nth_mem w_109, rfl⟩, ⟨nth_mem w_110, rfl⟩, ⟨nth_mem w_103, rfl⟩, ⟨nth_mem w_111, rfl⟩, by decide, by decide +kernel⟩
set_option maxRecDepth 100000 in
theorem cv_3 : cvP (0, 74, 12, 2) := ⟨iX0_takeOff, rfl, ⟨nth_mem w_112, rfl⟩, ⟨nth_mem w_113, rfl⟩, ⟨nth_mem w_103, rfl⟩, ⟨nth_mem w_114, rfl⟩, by decide, by decide +kernel⟩
set_option maxRecDepth 100000 in
theorem cv_4 : cvP (0, 77, 29, 3) := ⟨iX0_passDay, rfl, ⟨nth_mem w_115, rfl⟩, ⟨nth_mem w_116, rfl⟩, ⟨nth_mem w_103, rfl⟩, ⟨nth_mem w_117, rfl⟩, by decide, by decide +kernel⟩
set_option maxRecDepth 100000 in
theorem cv_5 : cvP (0, 81, 28, 4) := ⟨iX0_goerOn, rfl, ⟨nth_mem w_118, rfl⟩, ⟨nth_mem w_119, rfl⟩, ⟨nth_mem w_103, rfl⟩, ⟨nth_mem w_120, rfl⟩, by decide, by decide +kernel⟩
set_option maxRecDepth 100000 in
theorem cv_6 : cvP (0, 85, 23, 3) := ⟨iX0_ideaOf, rfl, ⟨nth_mem w_121, rfl⟩, ⟨nth_mem w_122, rfl⟩, ⟨nth_mem w_103, rfl⟩, ⟨nth_mem w_123, rfl⟩, by decide, by decide +kernel⟩
set_option maxRecDepth 100000 in
theorem cv_7 : cvP (0, 89, 13, 3) := ⟨iX0_movePiece, rfl, ⟨nth_mem w_124, rfl⟩, ⟨nth_mem w_125, rfl⟩, ⟨nth_mem w_103, rfl⟩, ⟨nth_mem w_126, rfl⟩, by decide, by decide +kernel⟩
set_option maxRecDepth 100000 in
theorem cv_8 : cvP (0, 93, 3, 3) := ⟨iX0_isThereOf, rfl, ⟨nth_mem w_127, rfl⟩, ⟨nth_mem w_128, rfl⟩, ⟨nth_mem w_103, rfl⟩, ⟨nth_mem w_129, rfl⟩, by decide, by decide +kernel⟩
set_option maxRecDepth 100000 in
theorem cv_9 : cvP (0, 96, 25, 3) := ⟨iX0_hearersOf, rfl, ⟨nth_mem w_130, rfl⟩, ⟨nth_mem w_131, rfl⟩, ⟨nth_mem w_103, rfl⟩, ⟨nth_mem w_132, rfl⟩, by decide, by decide +kernel⟩
set_option maxRecDepth 100000 in
theorem cv_10 : cvP (0, 106, 27, 2) := ⟨iX0_howManyOf, rfl, ⟨nth_mem w_133, rfl⟩, ⟨nth_mem w_134, rfl⟩, ⟨nth_mem w_103, rfl⟩, ⟨nth_mem w_135, rfl⟩, by decide, by decide +kernel⟩
set_option maxRecDepth 100000 in
theorem cv_11 : cvP (0, 117, 17, 2) := ⟨iX0_knightIdea, rfl, ⟨nth_mem w_136, rfl⟩, ⟨nth_mem w_137, rfl⟩, ⟨nth_mem w_103, rfl⟩, ⟨nth_mem w_138, rfl⟩, by decide, by decide +kernel⟩
set_option maxRecDepth 100000 in
theorem cv_12 : cvP (0, 120, 18, 4) := ⟨iX0_slideIdea, rfl, ⟨nth_mem w_139, rfl⟩, ⟨nth_mem w_140, rfl⟩, ⟨nth_mem w_103, rfl⟩, ⟨nth_mem w_141, rfl⟩, by decide, by decide +kernel⟩
set_option maxRecDepth 100000 in
theorem cv_13 : cvP (0, 124, 19, 3) := ⟨iX0_bishopIdea, rfl, ⟨nth_mem w_142, rfl⟩, ⟨nth_mem w_143, rfl⟩, ⟨nth_mem w_103, rfl⟩, ⟨nth_mem w_144, rfl⟩, by decide, by decide +kernel⟩
set_option maxRecDepth 100000 in
theorem cv_14 : cvP (0, 127, 21, 2) := ⟨iX0_kingIdea, rfl, ⟨nth_mem w_145, rfl⟩, ⟨nth_mem w_146, rfl⟩, ⟨nth_mem w_103, rfl⟩, ⟨nth_mem w_147, rfl⟩, by decide, by decide +kernel⟩
set_option maxRecDepth 100000 in
theorem cv_15 : cvP (0, 130, 16, 4) := ⟨iX0_squareFrom, rfl, ⟨nth_mem w_148, rfl⟩, ⟨nth_mem w_149, rfl⟩, ⟨nth_mem w_103, rfl⟩, ⟨nth_mem w_150, rfl⟩, by decide, by decide +kernel⟩
set_option maxRecDepth 100000 in
theorem cv_16 : cvP (0, 133, 22, 2) := ⟨iX0_pawnIdea, rfl, ⟨nth_mem w_151, rfl⟩, ⟨nth_mem w_152, rfl⟩, ⟨nth_mem w_103, rfl⟩, ⟨nth_mem w_153, rfl⟩, by decide, by decide +kernel⟩
set_option maxRecDepth 100000 in
theorem cv_17 : cvP (0, 136, 6, 3) := ⟨iX0_isHeldBy, rfl, ⟨nth_mem w_154, rfl⟩, ⟨nth_mem w_155, rfl⟩, ⟨nth_mem w_103, rfl⟩, ⟨nth_mem w_156, rfl⟩, by decide, by decide +kernel⟩
set_option maxRecDepth 100000 in
theorem cv_18 : cvP (0, 142, 35, 2) := ⟨iX0_worthOf, rfl, ⟨nth_mem w_157, rfl⟩, ⟨nth_mem w_158, rfl⟩, ⟨nth_mem w_103, rfl⟩, ⟨nth_mem w_159, rfl⟩, by decide, by decide +kernel⟩
set_option maxRecDepth 100000 in
theorem cv_19 : cvP (0, 145, 37, 2) := ⟨iX0_groupAround, rfl, ⟨nth_mem w_160, rfl⟩, ⟨nth_mem w_161, rfl⟩, ⟨nth_mem w_103, rfl⟩, ⟨nth_mem w_162, rfl⟩, by decide, by decide +kernel⟩
set_option maxRecDepth 100000 in
theorem cv_20 : cvP (1, 37, 42, 2) := ⟨iX2_hasPlace, rfl, ⟨nth_mem w_163, rfl⟩, ⟨nth_mem w_165, rfl⟩, ⟨nth_mem w_164, rfl⟩, ⟨nth_mem w_166, rfl⟩, by decide, by decide +kernel⟩
set_option maxRecDepth 100000 in
theorem cv_21 : cvP (1, 42, 43, 2) := ⟨iX2_elementAt, rfl, ⟨nth_mem w_167, rfl⟩, ⟨nth_mem w_168, rfl⟩, ⟨nth_mem w_164, rfl⟩, ⟨nth_mem w_169, rfl⟩, by decide, by decide +kernel⟩
set_option maxRecDepth 100000 in
theorem cv_22 : cvP (1, 46, 44, 2) := ⟨iX2_digitsBehind, rfl, ⟨nth_mem w_170, rfl⟩, ⟨nth_mem w_171, rfl⟩, ⟨nth_mem w_164, rfl⟩, ⟨nth_mem w_172, rfl⟩, by decide, by decide +kernel⟩
set_option maxRecDepth 100000 in
theorem cv_23 : cvP (1, 49, 46, 2) := ⟨iX2_digitAt, rfl, ⟨nth_mem w_173, rfl⟩, ⟨nth_mem w_174, rfl⟩, ⟨nth_mem w_164, rfl⟩, ⟨nth_mem w_175, rfl⟩, by decide, by decide +kernel⟩
set_option maxRecDepth 100000 in
theorem cv_24 : cvP (2, 51, 48, 2) := ⟨iX3_shelfAt, rfl, ⟨nth_mem w_176, rfl⟩, ⟨nth_mem w_177, rfl⟩, ⟨nth_mem w_53, rfl⟩, ⟨nth_mem w_178, rfl⟩, by decide, by decide +kernel⟩
set_option maxRecDepth 100000 in
theorem cv_25 : cvP (2, 62, 45, 1) := ⟨iX2_wrongByte, rfl, ⟨nth_mem w_179, rfl⟩, ⟨nth_mem w_180, rfl⟩, ⟨nth_mem w_164, rfl⟩, ⟨nth_mem w_181, rfl⟩, by decide, by decide +kernel⟩
set_option maxRecDepth 100000 in
theorem cv_26 : cvP (2, 66, 0, 2) := ⟨iX0_becomes, rfl, ⟨nth_mem w_182, rfl⟩, ⟨nth_mem w_183, rfl⟩, ⟨nth_mem w_103, rfl⟩, ⟨nth_mem w_184, rfl⟩, by decide, by decide +kernel⟩
set_option maxRecDepth 100000 in
theorem cv_27 : cvP (2, 73, 50, 3) := ⟨iX3_isDone, rfl, ⟨nth_mem w_185, rfl⟩, ⟨nth_mem w_186, rfl⟩, ⟨nth_mem w_53, rfl⟩, ⟨nth_mem w_187, rfl⟩, by decide, by decide +kernel⟩
set_option maxRecDepth 100000 in
theorem cv_28 : cvP (2, 77, 44, 2) := ⟨iX2_digitsBehind, rfl, ⟨nth_mem w_188, rfl⟩, ⟨nth_mem w_171, rfl⟩, ⟨nth_mem w_164, rfl⟩, ⟨nth_mem w_172, rfl⟩, by decide, by decide +kernel⟩
set_option maxRecDepth 100000 in
theorem cv_29 : cvP (2, 87, 1, 2) := ⟨iX0_has, rfl, ⟨nth_mem w_189, rfl⟩, ⟨nth_mem w_104, rfl⟩, ⟨nth_mem w_103, rfl⟩, ⟨nth_mem w_105, rfl⟩, by decide, by decide +kernel⟩
set_option maxRecDepth 100000 in
theorem cv_30 : cvP (2, 100, 4, 2) := ⟨iX0_squareOrNone, rfl, ⟨nth_mem w_190, rfl⟩, ⟨nth_mem w_191, rfl⟩, ⟨nth_mem w_103, rfl⟩, ⟨nth_mem w_192, rfl⟩, by decide, by decide +kernel⟩
set_option maxRecDepth 100000 in
theorem cv_31 : cvP (2, 114, 23, 3) := ⟨iX0_ideaOf, rfl, ⟨nth_mem w_193, rfl⟩, ⟨nth_mem w_122, rfl⟩, ⟨nth_mem w_103, rfl⟩, ⟨nth_mem w_123, rfl⟩, by decide, by decide +kernel⟩
set_option maxRecDepth 100000 in
theorem cv_32 : cvP (2, 133, 10, 5) := ⟨iX0_addPiece, rfl, ⟨nth_mem w_194, rfl⟩, ⟨nth_mem w_195, rfl⟩, ⟨nth_mem w_103, rfl⟩, ⟨nth_mem w_196, rfl⟩, by decide, by decide +kernel⟩
set_option maxRecDepth 100000 in
theorem cv_33 : cvP (2, 137, 13, 3) := ⟨iX0_movePiece, rfl, ⟨nth_mem w_197, rfl⟩, ⟨nth_mem w_125, rfl⟩, ⟨nth_mem w_103, rfl⟩, ⟨nth_mem w_126, rfl⟩, by decide, by decide +kernel⟩
set_option maxRecDepth 100000 in
theorem cv_34 : cvP (2, 141, 12, 2) := ⟨iX0_takeOff, rfl, ⟨nth_mem w_198, rfl⟩, ⟨nth_mem w_113, rfl⟩, ⟨nth_mem w_103, rfl⟩, ⟨nth_mem w_114, rfl⟩, by decide, by decide +kernel⟩
set_option maxRecDepth 100000 in
theorem cv_35 : cvP (2, 147, 15, 2) := ⟨iX0_giveTurn, rfl, ⟨nth_mem w_199, rfl⟩, ⟨nth_mem w_200, rfl⟩, ⟨nth_mem w_103, rfl⟩, ⟨nth_mem w_201, rfl⟩, by decide, by decide +kernel⟩
set_option maxRecDepth 100000 in
theorem cv_36 : cvP (2, 150, 30, 2) := ⟨iX0_passWithinLast, rfl, ⟨nth_mem w_202, rfl⟩, ⟨nth_mem w_203, rfl⟩, ⟨nth_mem w_103, rfl⟩, ⟨nth_mem w_204, rfl⟩, by decide, by decide +kernel⟩
set_option maxRecDepth 100000 in
theorem cv_37 : cvP (2, 153, 32, 1) := ⟨iX0_howManyThere, rfl, ⟨nth_mem w_205, rfl⟩, ⟨nth_mem w_206, rfl⟩, ⟨nth_mem w_103, rfl⟩, ⟨nth_mem w_207, rfl⟩, by decide, by decide +kernel⟩
set_option maxRecDepth 100000 in
theorem cv_38 : cvP (2, 156, 59, 2) := ⟨iX3_lookAhead, rfl, ⟨nth_mem w_208, rfl⟩, ⟨nth_mem w_209, rfl⟩, ⟨nth_mem w_53, rfl⟩, ⟨nth_mem w_210, rfl⟩, by decide, by decide +kernel⟩
set_option maxRecDepth 100000 in
theorem cv_39 : cvP (2, 160, 33, 1) := ⟨iX0_bitsThere, rfl, ⟨nth_mem w_211, rfl⟩, ⟨nth_mem w_212, rfl⟩, ⟨nth_mem w_103, rfl⟩, ⟨nth_mem w_213, rfl⟩, by decide, by decide +kernel⟩
set_option maxRecDepth 100000 in
theorem cv_40 : cvP (2, 166, 35, 2) := ⟨iX0_worthOf, rfl, ⟨nth_mem w_214, rfl⟩, ⟨nth_mem w_158, rfl⟩, ⟨nth_mem w_103, rfl⟩, ⟨nth_mem w_159, rfl⟩, by decide, by decide +kernel⟩
set_option maxRecDepth 100000 in
theorem cv_41 : cvP (2, 169, 61, 1) := ⟨iX3_firstToFall, rfl, ⟨nth_mem w_215, rfl⟩, ⟨nth_mem w_216, rfl⟩, ⟨nth_mem w_53, rfl⟩, ⟨nth_mem w_217, rfl⟩, by decide, by decide +kernel⟩
set_option maxRecDepth 100000 in
theorem cv_42 : cvP (2, 172, 2, 2) := ⟨iX0_isThere, rfl, ⟨nth_mem w_218, rfl⟩, ⟨nth_mem w_107, rfl⟩, ⟨nth_mem w_103, rfl⟩, ⟨nth_mem w_108, rfl⟩, by decide, by decide +kernel⟩
set_option maxRecDepth 100000 in
theorem cv_43 : cvP (2, 175, 29, 3) := ⟨iX0_passDay, rfl, ⟨nth_mem w_219, rfl⟩, ⟨nth_mem w_116, rfl⟩, ⟨nth_mem w_103, rfl⟩, ⟨nth_mem w_117, rfl⟩, by decide, by decide +kernel⟩
set_option maxRecDepth 100000 in
theorem cv_44 : cvP (2, 179, 28, 4) := ⟨iX0_goerOn, rfl, ⟨nth_mem w_220, rfl⟩, ⟨nth_mem w_119, rfl⟩, ⟨nth_mem w_103, rfl⟩, ⟨nth_mem w_120, rfl⟩, by decide, by decide +kernel⟩
set_option maxRecDepth 100000 in
theorem cv_45 : cvP (2, 183, 25, 3) := ⟨iX0_hearersOf, rfl, ⟨nth_mem w_221, rfl⟩, ⟨nth_mem w_131, rfl⟩, ⟨nth_mem w_103, rfl⟩, ⟨nth_mem w_132, rfl⟩, by decide, by decide +kernel⟩
set_option maxRecDepth 100000 in
theorem cv_46 : cvP (2, 192, 3, 3) := ⟨iX0_isThereOf, rfl, ⟨nth_mem w_222, rfl⟩, ⟨nth_mem w_128, rfl⟩, ⟨nth_mem w_103, rfl⟩, ⟨nth_mem w_129, rfl⟩, by decide, by decide +kernel⟩
set_option maxRecDepth 100000 in
theorem cv_47 : cvP (2, 195, 6, 3) := ⟨iX0_isHeldBy, rfl, ⟨nth_mem w_223, rfl⟩, ⟨nth_mem w_155, rfl⟩, ⟨nth_mem w_103, rfl⟩, ⟨nth_mem w_156, rfl⟩, by decide, by decide +kernel⟩
set_option maxRecDepth 100000 in
theorem cv_48 : cvP (2, 198, 67, 3) := ⟨iX3_placeInMind, rfl, ⟨nth_mem w_224, rfl⟩, ⟨nth_mem w_225, rfl⟩, ⟨nth_mem w_53, rfl⟩, ⟨nth_mem w_226, rfl⟩, by decide, by decide +kernel⟩
set_option maxRecDepth 100000 in
theorem cv_49 : cvP (2, 201, 31, 2) := ⟨iX0_passDays, rfl, ⟨nth_mem w_227, rfl⟩, ⟨nth_mem w_228, rfl⟩, ⟨nth_mem w_103, rfl⟩, ⟨nth_mem w_229, rfl⟩, by decide, by decide +kernel⟩
set_option maxRecDepth 100000 in
theorem cv_50 : cvP (2, 204, 36, 2) := ⟨iX0_worthWithout, rfl, ⟨nth_mem w_230, rfl⟩, ⟨nth_mem w_231, rfl⟩, ⟨nth_mem w_103, rfl⟩, ⟨nth_mem w_232, rfl⟩, by decide, by decide +kernel⟩
set_option maxRecDepth 100000 in
theorem cv_51 : cvP (2, 213, 38, 2) := ⟨iX0_groupsOf, rfl, ⟨nth_mem w_233, rfl⟩, ⟨nth_mem w_234, rfl⟩, ⟨nth_mem w_103, rfl⟩, ⟨nth_mem w_235, rfl⟩, by decide, by decide +kernel⟩
set_option maxRecDepth 100000 in
theorem cv_52 : cvP (2, 216, 39, 2) := ⟨iX0_farthestOf, rfl, ⟨nth_mem w_236, rfl⟩, ⟨nth_mem w_237, rfl⟩, ⟨nth_mem w_103, rfl⟩, ⟨nth_mem w_238, rfl⟩, by decide, by decide +kernel⟩
set_option maxRecDepth 100000 in
theorem cv_53 : cvP (2, 219, 27, 2) := ⟨iX0_howManyOf, rfl, ⟨nth_mem w_239, rfl⟩, ⟨nth_mem w_134, rfl⟩, ⟨nth_mem w_103, rfl⟩, ⟨nth_mem w_135, rfl⟩, by decide, by decide +kernel⟩
set_option maxRecDepth 100000 in
theorem cv_54 : cvP (2, 222, 40, 1) := ⟨iX0_pairsSideBySide, rfl, ⟨nth_mem w_240, rfl⟩, ⟨nth_mem w_241, rfl⟩, ⟨nth_mem w_103, rfl⟩, ⟨nth_mem w_242, rfl⟩, by decide, by decide +kernel⟩
set_option maxRecDepth 100000 in
theorem cv_55 : cvP (2, 225, 41, 2) := ⟨iX0_quietOn, rfl, ⟨nth_mem w_243, rfl⟩, ⟨nth_mem w_244, rfl⟩, ⟨nth_mem w_103, rfl⟩, ⟨nth_mem w_245, rfl⟩, by decide, by decide +kernel⟩
set_option maxRecDepth 100000 in
theorem cv_56 : cvP (2, 228, 14, 4) := ⟨iX0_turnInto, rfl, ⟨nth_mem w_246, rfl⟩, ⟨nth_mem w_247, rfl⟩, ⟨nth_mem w_103, rfl⟩, ⟨nth_mem w_248, rfl⟩, by decide, by decide +kernel⟩
set_option maxRecDepth 100000 in
theorem cv_57 : cvP (2, 252, 43, 2) := ⟨iX2_elementAt, rfl, ⟨nth_mem w_249, rfl⟩, ⟨nth_mem w_168, rfl⟩, ⟨nth_mem w_164, rfl⟩, ⟨nth_mem w_169, rfl⟩, by decide, by decide +kernel⟩
set_option maxRecDepth 100000 in
theorem cv_58 : cvP (2, 316, 46, 2) := ⟨iX2_digitAt, rfl, ⟨nth_mem w_250, rfl⟩, ⟨nth_mem w_174, rfl⟩, ⟨nth_mem w_164, rfl⟩, ⟨nth_mem w_175, rfl⟩, by decide, by decide +kernel⟩
set_option maxRecDepth 100000 in
theorem cv_59 : cvP (2, 319, 47, 2) := ⟨iX2_twoDigitsAt, rfl, ⟨nth_mem w_251, rfl⟩, ⟨nth_mem w_252, rfl⟩, ⟨nth_mem w_164, rfl⟩, ⟨nth_mem w_253, rfl⟩, by decide, by decide +kernel⟩
set_option maxRecDepth 100000 in
theorem cv_60 : cvP (8, 61, 75, 5) := ⟨iX3_keep, rfl, ⟨nth_mem w_254, rfl⟩, ⟨nth_mem w_255, rfl⟩, ⟨nth_mem w_53, rfl⟩, ⟨nth_mem w_256, rfl⟩, by decide, by decide +kernel⟩
set_option maxRecDepth 100000 in
theorem cv_61 : cvP (8, 67, 54, 4) := ⟨iX3_comes, rfl, ⟨nth_mem w_257, rfl⟩, ⟨nth_mem w_258, rfl⟩, ⟨nth_mem w_53, rfl⟩, ⟨nth_mem w_259, rfl⟩, by decide, by decide +kernel⟩
set_option maxRecDepth 100000 in
theorem cv_62 : cvP (8, 70, 56, 2) := ⟨iX3_takes, rfl, ⟨nth_mem w_260, rfl⟩, ⟨nth_mem w_261, rfl⟩, ⟨nth_mem w_53, rfl⟩, ⟨nth_mem w_262, rfl⟩, by decide, by decide +kernel⟩
set_option maxRecDepth 100000 in
theorem cv_63 : cvP (8, 73, 57, 2) := ⟨iX3_turn, rfl, ⟨nth_mem w_263, rfl⟩, ⟨nth_mem w_264, rfl⟩, ⟨nth_mem w_53, rfl⟩, ⟨nth_mem w_265, rfl⟩, by decide, by decide +kernel⟩
set_option maxRecDepth 100000 in
theorem cv_64 : cvP (8, 80, 58, 2) := ⟨iX3_days, rfl, ⟨nth_mem w_266, rfl⟩, ⟨nth_mem w_267, rfl⟩, ⟨nth_mem w_53, rfl⟩, ⟨nth_mem w_268, rfl⟩, by decide, by decide +kernel⟩
set_option maxRecDepth 100000 in
theorem cv_65 : cvP (8, 89, 74, 2) := ⟨iX3_count, rfl, ⟨nth_mem w_269, rfl⟩, ⟨nth_mem w_270, rfl⟩, ⟨nth_mem w_53, rfl⟩, ⟨nth_mem w_271, rfl⟩, by decide, by decide +kernel⟩
set_option maxRecDepth 100000 in
theorem cv_66 : cvP (8, 92, 52, 3) := ⟨iX3_piece, rfl, ⟨nth_mem w_272, rfl⟩, ⟨nth_mem w_273, rfl⟩, ⟨nth_mem w_53, rfl⟩, ⟨nth_mem w_274, rfl⟩, by decide, by decide +kernel⟩
set_option maxRecDepth 100000 in
theorem cv_67 : cvP (8, 104, 53, 2) := ⟨iX3_on, rfl, ⟨nth_mem w_275, rfl⟩, ⟨nth_mem w_276, rfl⟩, ⟨nth_mem w_53, rfl⟩, ⟨nth_mem w_277, rfl⟩, by decide, by decide +kernel⟩
set_option maxRecDepth 100000 in
theorem cv_68 : cvP (8, 106, 70, 3) := ⟨iX3_side, rfl, ⟨nth_mem w_278, rfl⟩, ⟨nth_mem w_279, rfl⟩, ⟨nth_mem w_53, rfl⟩, ⟨nth_mem w_280, rfl⟩, by decide, by decide +kernel⟩
set_option maxRecDepth 100000 in
theorem cv_69 : cvP (8, 109, 71, 2) := ⟨iX3_free, rfl, ⟨nth_mem w_281, rfl⟩, ⟨nth_mem w_282, rfl⟩, ⟨nth_mem w_53, rfl⟩, ⟨nth_mem w_283, rfl⟩, by decide, by decide +kernel⟩
set_option maxRecDepth 100000 in
theorem cv_70 : cvP (8, 112, 66, 2) := ⟨iX3_danger, rfl, ⟨nth_mem w_284, rfl⟩, ⟨nth_mem w_285, rfl⟩, ⟨nth_mem w_53, rfl⟩, ⟨nth_mem w_286, rfl⟩, by decide, by decide +kernel⟩
set_option maxRecDepth 100000 in
theorem cv_71 : cvP (8, 115, 64, 2) := ⟨iX3_next, rfl, ⟨nth_mem w_287, rfl⟩, ⟨nth_mem w_288, rfl⟩, ⟨nth_mem w_53, rfl⟩, ⟨nth_mem w_289, rfl⟩, by decide, by decide +kernel⟩
set_option maxRecDepth 100000 in
theorem cv_72 : cvP (8, 118, 55, 3) := ⟨iX3_stands, rfl, ⟨nth_mem w_290, rfl⟩, ⟨nth_mem w_291, rfl⟩, ⟨nth_mem w_53, rfl⟩, ⟨nth_mem w_292, rfl⟩, by decide, by decide +kernel⟩
set_option maxRecDepth 100000 in
theorem cv_73 : cvP (8, 121, 72, 1) := ⟨iX3_image, rfl, ⟨nth_mem w_293, rfl⟩, ⟨nth_mem w_294, rfl⟩, ⟨nth_mem w_53, rfl⟩, ⟨nth_mem w_295, rfl⟩, by decide, by decide +kernel⟩
set_option maxRecDepth 100000 in
theorem cv_74 : cvP (8, 125, 73, 1) := ⟨iX3_restore, rfl, ⟨nth_mem w_296, rfl⟩, ⟨nth_mem w_297, rfl⟩, ⟨nth_mem w_53, rfl⟩, ⟨nth_mem w_298, rfl⟩, by decide, by decide +kernel⟩
set_option maxRecDepth 100000 in
theorem cv_75 : cvP (8, 128, 51, 2) := ⟨iX3_game, rfl, ⟨nth_mem w_299, rfl⟩, ⟨nth_mem w_300, rfl⟩, ⟨nth_mem w_53, rfl⟩, ⟨nth_mem w_301, rfl⟩, by decide, by decide +kernel⟩
set_option maxRecDepth 100000 in
theorem cv_76 : cvP (8, 131, 60, 3) := ⟨iX3_then, rfl, ⟨nth_mem w_302, rfl⟩, ⟨nth_mem w_303, rfl⟩, ⟨nth_mem w_53, rfl⟩, ⟨nth_mem w_304, rfl⟩, by decide, by decide +kernel⟩
set_option maxRecDepth 100000 in
theorem cv_77 : cvP (8, 134, 63, 1) := ⟨iX3_still, rfl, ⟨nth_mem w_305, rfl⟩, ⟨nth_mem w_306, rfl⟩, ⟨nth_mem w_53, rfl⟩, ⟨nth_mem w_307, rfl⟩, by decide, by decide +kernel⟩
set_option maxRecDepth 100000 in
theorem cv_78 : cvP (8, 137, 69, 2) := ⟨iX3_off, rfl, ⟨nth_mem w_308, rfl⟩, ⟨nth_mem w_309, rfl⟩, ⟨nth_mem w_53, rfl⟩, ⟨nth_mem w_310, rfl⟩, by decide, by decide +kernel⟩
set_option maxRecDepth 100000 in
theorem cv_79 : cvP (8, 140, 62, 2) := ⟨iX3_falls, rfl, ⟨nth_mem w_311, rfl⟩, ⟨nth_mem w_312, rfl⟩, ⟨nth_mem w_53, rfl⟩, ⟨nth_mem w_313, rfl⟩, by decide, by decide +kernel⟩
set_option maxRecDepth 100000 in
theorem cv_80 : cvP (8, 143, 65, 2) := ⟨iX3_heard, rfl, ⟨nth_mem w_314, rfl⟩, ⟨nth_mem w_315, rfl⟩, ⟨nth_mem w_53, rfl⟩, ⟨nth_mem w_316, rfl⟩, by decide, by decide +kernel⟩
set_option maxRecDepth 100000 in
theorem cv_81 : cvP (8, 145, 68, 4) := ⟨iX3_stand, rfl, ⟨nth_mem w_317, rfl⟩, ⟨nth_mem w_318, rfl⟩, ⟨nth_mem w_53, rfl⟩, ⟨nth_mem w_319, rfl⟩, by decide, by decide +kernel⟩
set_option maxRecDepth 100000 in
theorem cv_ok : ∀ e ∈ cvT, cvP e := List.forall_mem_cons.mpr ⟨cv_0, List.forall_mem_cons.mpr ⟨cv_1, List.forall_mem_cons.mpr ⟨cv_2, List.forall_mem_cons.mpr ⟨cv_3, List.forall_mem_cons.mpr ⟨cv_4, List.forall_mem_cons.mpr ⟨cv_5, List.forall_mem_cons.mpr ⟨cv_6, List.forall_mem_cons.mpr ⟨cv_7, List.forall_mem_cons.mpr ⟨cv_8, List.forall_mem_cons.mpr ⟨cv_9, List.forall_mem_cons.mpr ⟨cv_10, List.forall_mem_cons.mpr ⟨cv_11, List.forall_mem_cons.mpr ⟨cv_12, List.forall_mem_cons.mpr ⟨cv_13, List.forall_mem_cons.mpr ⟨cv_14, List.forall_mem_cons.mpr ⟨cv_15, List.forall_mem_cons.mpr ⟨cv_16, List.forall_mem_cons.mpr ⟨cv_17, List.forall_mem_cons.mpr ⟨cv_18, List.forall_mem_cons.mpr ⟨cv_19, List.forall_mem_cons.mpr ⟨cv_20, List.forall_mem_cons.mpr ⟨cv_21, List.forall_mem_cons.mpr ⟨cv_22, List.forall_mem_cons.mpr ⟨cv_23, List.forall_mem_cons.mpr ⟨cv_24, List.forall_mem_cons.mpr ⟨cv_25, List.forall_mem_cons.mpr ⟨cv_26, List.forall_mem_cons.mpr ⟨cv_27, List.forall_mem_cons.mpr ⟨cv_28, List.forall_mem_cons.mpr ⟨cv_29, List.forall_mem_cons.mpr ⟨cv_30, List.forall_mem_cons.mpr ⟨cv_31, List.forall_mem_cons.mpr ⟨cv_32, List.forall_mem_cons.mpr ⟨cv_33, List.forall_mem_cons.mpr ⟨cv_34, List.forall_mem_cons.mpr ⟨cv_35, List.forall_mem_cons.mpr ⟨cv_36, List.forall_mem_cons.mpr ⟨cv_37, List.forall_mem_cons.mpr ⟨cv_38, List.forall_mem_cons.mpr ⟨cv_39, List.forall_mem_cons.mpr ⟨cv_40, List.forall_mem_cons.mpr ⟨cv_41, List.forall_mem_cons.mpr ⟨cv_42, List.forall_mem_cons.mpr ⟨cv_43, List.forall_mem_cons.mpr ⟨cv_44, List.forall_mem_cons.mpr ⟨cv_45, List.forall_mem_cons.mpr ⟨cv_46, List.forall_mem_cons.mpr ⟨cv_47, List.forall_mem_cons.mpr ⟨cv_48, List.forall_mem_cons.mpr ⟨cv_49, List.forall_mem_cons.mpr ⟨cv_50, List.forall_mem_cons.mpr ⟨cv_51, List.forall_mem_cons.mpr ⟨cv_52, List.forall_mem_cons.mpr ⟨cv_53, List.forall_mem_cons.mpr ⟨cv_54, List.forall_mem_cons.mpr ⟨cv_55, List.forall_mem_cons.mpr ⟨cv_56, List.forall_mem_cons.mpr ⟨cv_57, List.forall_mem_cons.mpr ⟨cv_58, List.forall_mem_cons.mpr ⟨cv_59, List.forall_mem_cons.mpr ⟨cv_60, List.forall_mem_cons.mpr ⟨cv_61, List.forall_mem_cons.mpr ⟨cv_62, List.forall_mem_cons.mpr ⟨cv_63, List.forall_mem_cons.mpr ⟨cv_64, List.forall_mem_cons.mpr ⟨cv_65, List.forall_mem_cons.mpr ⟨cv_66, List.forall_mem_cons.mpr ⟨cv_67, List.forall_mem_cons.mpr ⟨cv_68, List.forall_mem_cons.mpr ⟨cv_69, List.forall_mem_cons.mpr ⟨cv_70, List.forall_mem_cons.mpr ⟨cv_71, List.forall_mem_cons.mpr ⟨cv_72, List.forall_mem_cons.mpr ⟨cv_73, List.forall_mem_cons.mpr ⟨cv_74, List.forall_mem_cons.mpr ⟨cv_75, List.forall_mem_cons.mpr ⟨cv_76, List.forall_mem_cons.mpr ⟨cv_77, List.forall_mem_cons.mpr ⟨cv_78, List.forall_mem_cons.mpr ⟨cv_79, List.forall_mem_cons.mpr ⟨cv_80, List.forall_mem_cons.mpr ⟨cv_81, fun _ h => absurd h List.not_mem_nil⟩⟩⟩⟩⟩⟩⟩⟩⟩⟩⟩⟩⟩⟩⟩⟩⟩⟩⟩⟩⟩⟩⟩⟩⟩⟩⟩⟩⟩⟩⟩⟩⟩⟩⟩⟩⟩⟩⟩⟩⟩⟩⟩⟩⟩⟩⟩⟩⟩⟩⟩⟩⟩⟩⟩⟩⟩⟩⟩⟩⟩⟩⟩⟩⟩⟩⟩⟩⟩⟩⟩⟩⟩⟩⟩⟩⟩⟩⟩⟩⟩⟩
