set_option maxRecDepth 100000 in
theorem cdX0_becomes : cdP iX0_becomes := ⟨nth_mem (k := 201) rfl, rfl⟩
set_option maxRecDepth 100000 in
theorem cdX0_has : cdP iX0_has := ⟨nth_mem (k := 243) rfl, rfl⟩
set_option maxRecDepth 100000 in
theorem cdX0_isThere : cdP iX0_isThere := ⟨nth_mem (k := 283) rfl, rfl⟩
set_option maxRecDepth 100000 in
theorem cdX0_isThereOf : cdP iX0_isThereOf := ⟨nth_mem (k := 275) rfl, rfl⟩
set_option maxRecDepth 100000 in
theorem cdX0_squareOf : cdP iX0_squareOf := ⟨nth_mem (k := 504) rfl, rfl⟩
set_option maxRecDepth 100000 in
theorem cdX0_squareOrNone : cdP iX0_squareOrNone := ⟨nth_mem (k := 345) rfl, rfl⟩
set_option maxRecDepth 100000 in
theorem cdX0_isFree : cdP iX0_isFree := ⟨nth_mem (k := 235) rfl, rfl⟩
set_option maxRecDepth 100000 in
theorem cdX0_isHeldBy : cdP iX0_isHeldBy := ⟨nth_mem (k := 295) rfl, rfl⟩
set_option maxRecDepth 100000 in
theorem cdX3_isKind : cdP iX3_isKind := ⟨nth_mem (k := 225) rfl, rfl⟩
set_option maxRecDepth 100000 in
theorem cdX3_isFigure : cdP iX3_isFigure := ⟨nth_mem (k := 228) rfl, rfl⟩
set_option maxRecDepth 100000 in
theorem cdX3_isSide : cdP iX3_isSide := ⟨nth_mem (k := 231) rfl, rfl⟩
set_option maxRecDepth 100000 in
theorem cdX0_addPiece : cdP iX0_addPiece := ⟨nth_mem (k := 222) rfl, rfl⟩
set_option maxRecDepth 100000 in
theorem cdX3_isSquare : cdP iX3_isSquare := ⟨nth_mem (k := 246) rfl, rfl⟩
set_option maxRecDepth 100000 in
theorem cdX0_takeOff : cdP iX0_takeOff := ⟨nth_mem (k := 250) rfl, rfl⟩
set_option maxRecDepth 100000 in
theorem cdX0_movePiece : cdP iX0_movePiece := ⟨nth_mem (k := 239) rfl, rfl⟩
set_option maxRecDepth 100000 in
theorem cdX0_takeAllOff : cdP iX0_takeAllOff := ⟨nth_mem (k := 555) rfl, rfl⟩
set_option maxRecDepth 100000 in
theorem cdX0_turnInto : cdP iX0_turnInto := ⟨nth_mem (k := 259) rfl, rfl⟩
set_option maxRecDepth 100000 in
theorem cdX0_giveTurn : cdP iX0_giveTurn := ⟨nth_mem (k := 255) rfl, rfl⟩
set_option maxRecDepth 100000 in
theorem cdX0_squareFrom : cdP iX0_squareFrom := ⟨nth_mem (k := 291) rfl, rfl⟩
set_option maxRecDepth 100000 in
theorem cdX0_knightIdea : cdP iX0_knightIdea := ⟨nth_mem (k := 287) rfl, rfl⟩
set_option maxRecDepth 100000 in
theorem cdX0_slideIdea : cdP iX0_slideIdea := ⟨nth_mem (k := 299) rfl, rfl⟩
set_option maxRecDepth 100000 in
theorem cdX0_bishopIdea : cdP iX0_bishopIdea := ⟨nth_mem (k := 303) rfl, rfl⟩
set_option maxRecDepth 100000 in
theorem cdX3_far : cdP iX3_far := ⟨nth_mem (k := 310) rfl, rfl⟩
set_option maxRecDepth 100000 in
theorem cdX0_kingIdea : cdP iX0_kingIdea := ⟨nth_mem (k := 307) rfl, rfl⟩
set_option maxRecDepth 100000 in
theorem cdX0_pawnIdea : cdP iX0_pawnIdea := ⟨nth_mem (k := 314) rfl, rfl⟩
set_option maxRecDepth 100000 in
theorem cdX0_ideaOf : cdP iX0_ideaOf := ⟨nth_mem (k := 279) rfl, rfl⟩
set_option maxRecDepth 100000 in
theorem cdX1_earsWith : cdP iX1_earsWith := ⟨nth_mem (k := 321) rfl, rfl⟩
set_option maxRecDepth 100000 in
theorem cdX0_hearersOf : cdP iX0_hearersOf := ⟨nth_mem (k := 318) rfl, rfl⟩
set_option maxRecDepth 100000 in
theorem cdJ6_bitCount_0f7a4 : cdP iJ6_bitCount_0f7a4 := ⟨nth_mem (k := 324) rfl, rfl⟩
set_option maxRecDepth 100000 in
theorem cdX0_howManyOf : cdP iX0_howManyOf := ⟨nth_mem (k := 331) rfl, rfl⟩
set_option maxRecDepth 100000 in
theorem cdX0_goerOn : cdP iX0_goerOn := ⟨nth_mem (k := 271) rfl, rfl⟩
set_option maxRecDepth 100000 in
theorem cdX0_passDay : cdP iX0_passDay := ⟨nth_mem (k := 267) rfl, rfl⟩
set_option maxRecDepth 100000 in
theorem cdX0_passWithinLast : cdP iX0_passWithinLast := ⟨nth_mem (k := 263) rfl, rfl⟩
set_option maxRecDepth 100000 in
theorem cdX0_passDays : cdP iX0_passDays := ⟨nth_mem (k := 392) rfl, rfl⟩
set_option maxRecDepth 100000 in
theorem cdX0_howManyThere : cdP iX0_howManyThere := ⟨nth_mem (k := 380) rfl, rfl⟩
set_option maxRecDepth 100000 in
theorem cdX0_bitsThere : cdP iX0_bitsThere := ⟨nth_mem (k := 400) rfl, rfl⟩
set_option maxRecDepth 100000 in
theorem cdX1_worthWith : cdP iX1_worthWith := ⟨nth_mem (k := 349) rfl, rfl⟩
set_option maxRecDepth 100000 in
theorem cdX0_worthOf : cdP iX0_worthOf := ⟨nth_mem (k := 404) rfl, rfl⟩
set_option maxRecDepth 100000 in
theorem cdX0_worthWithout : cdP iX0_worthWithout := ⟨nth_mem (k := 452) rfl, rfl⟩
set_option maxRecDepth 100000 in
theorem cdX0_gainOf : cdP iX0_gainOf := ⟨nth_mem (k := 516) rfl, rfl⟩
set_option maxRecDepth 100000 in
theorem cdX0_groupAround : cdP iX0_groupAround := ⟨nth_mem (k := 470) rfl, rfl⟩
set_option maxRecDepth 100000 in
theorem cdX0_groupsOf : cdP iX0_groupsOf := ⟨nth_mem (k := 466) rfl, rfl⟩
set_option maxRecDepth 100000 in
theorem cdX0_farthestOf : cdP iX0_farthestOf := ⟨nth_mem (k := 474) rfl, rfl⟩
set_option maxRecDepth 100000 in
theorem cdX0_pairsSideBySide : cdP iX0_pairsSideBySide := ⟨nth_mem (k := 483) rfl, rfl⟩
set_option maxRecDepth 100000 in
theorem cdX0_quietOn : cdP iX0_quietOn := ⟨nth_mem (k := 487) rfl, rfl⟩
set_option maxRecDepth 100000 in
theorem cdX1_costWith : cdP iX1_costWith := ⟨nth_mem (k := 613) rfl, rfl⟩
set_option maxRecDepth 100000 in
theorem cdJ7_fill_53178 : cdP iJ7_fill_53178 := ⟨nth_mem (k := 68) rfl, rfl⟩
set_option maxRecDepth 100000 in
theorem cdX2_becomesRow : cdP iX2_becomesRow := ⟨nth_mem (k := 588) rfl, rfl⟩
set_option maxRecDepth 100000 in
theorem cdX2_hasPlace : cdP iX2_hasPlace := ⟨nth_mem (k := 193) rfl, rfl⟩
set_option maxRecDepth 100000 in
theorem cdX2_hasPlaces : cdP iX2_hasPlaces := ⟨nth_mem (k := 605) rfl, rfl⟩
set_option maxRecDepth 100000 in
theorem cdX2_elementAt : cdP iX2_elementAt := ⟨nth_mem (k := 189) rfl, rfl⟩
set_option maxRecDepth 100000 in
theorem cdX2_putIn : cdP iX2_putIn := ⟨nth_mem (k := 597) rfl, rfl⟩
set_option maxRecDepth 100000 in
theorem cdX2_isSkipped : cdP iX2_isSkipped := ⟨nth_mem (k := 499) rfl, rfl⟩
set_option maxRecDepth 100000 in
theorem cdX2_digitsBehind : cdP iX2_digitsBehind := ⟨nth_mem (k := 197) rfl, rfl⟩
set_option maxRecDepth 100000 in
theorem cdX2_wrongByte : cdP iX2_wrongByte := ⟨nth_mem (k := 185) rfl, rfl⟩
set_option maxRecDepth 100000 in
theorem cdX2_digitAt : cdP iX2_digitAt := ⟨nth_mem (k := 212) rfl, rfl⟩
set_option maxRecDepth 100000 in
theorem cdX2_twoDigitsAt : cdP iX2_twoDigitsAt := ⟨nth_mem (k := 217) rfl, rfl⟩
set_option maxRecDepth 100000 in
theorem cdX3_shelfAt : cdP iX3_shelfAt := ⟨nth_mem (k := 178) rfl, rfl⟩
set_option maxRecDepth 100000 in
theorem cdX3_refusalUnless : cdP iX3_refusalUnless := ⟨nth_mem (k := 181) rfl, rfl⟩
set_option maxRecDepth 100000 in
theorem cdX3_isDone : cdP iX3_isDone := ⟨nth_mem (k := 208) rfl, rfl⟩
set_option maxRecDepth 100000 in
theorem cdX3_game : cdP iX3_game := ⟨nth_mem (k := 174) rfl, rfl⟩
set_option maxRecDepth 100000 in
theorem cdX3_piece : cdP iX3_piece := ⟨nth_mem (k := 340) rfl, rfl⟩
set_option maxRecDepth 100000 in
theorem cdX3_on : cdP iX3_on := ⟨nth_mem (k := 354) rfl, rfl⟩
set_option maxRecDepth 100000 in
theorem cdX3_comes : cdP iX3_comes := ⟨nth_mem (k := 359) rfl, rfl⟩
set_option maxRecDepth 100000 in
theorem cdX3_stands : cdP iX3_stands := ⟨nth_mem (k := 364) rfl, rfl⟩
set_option maxRecDepth 100000 in
theorem cdX3_takes : cdP iX3_takes := ⟨nth_mem (k := 368) rfl, rfl⟩
set_option maxRecDepth 100000 in
theorem cdX3_turn : cdP iX3_turn := ⟨nth_mem (k := 372) rfl, rfl⟩
set_option maxRecDepth 100000 in
theorem cdX3_days : cdP iX3_days := ⟨nth_mem (k := 376) rfl, rfl⟩
set_option maxRecDepth 100000 in
theorem cdX3_lookAhead : cdP iX3_lookAhead := ⟨nth_mem (k := 388) rfl, rfl⟩
set_option maxRecDepth 100000 in
theorem cdX3_squareThen : cdP iX3_squareThen := ⟨nth_mem (k := 384) rfl, rfl⟩
set_option maxRecDepth 100000 in
theorem cdX3_then : cdP iX3_then := ⟨nth_mem (k := 396) rfl, rfl⟩
set_option maxRecDepth 100000 in
theorem cdX3_firstToFall : cdP iX3_firstToFall := ⟨nth_mem (k := 413) rfl, rfl⟩
set_option maxRecDepth 100000 in
theorem cdX3_falls : cdP iX3_falls := ⟨nth_mem (k := 409) rfl, rfl⟩
set_option maxRecDepth 100000 in
theorem cdX3_still : cdP iX3_still := ⟨nth_mem (k := 419) rfl, rfl⟩
set_option maxRecDepth 100000 in
theorem cdX3_next : cdP iX3_next := ⟨nth_mem (k := 423) rfl, rfl⟩
set_option maxRecDepth 100000 in
theorem cdX3_heard : cdP iX3_heard := ⟨nth_mem (k := 430) rfl, rfl⟩
set_option maxRecDepth 100000 in
theorem cdX3_danger : cdP iX3_danger := ⟨nth_mem (k := 434) rfl, rfl⟩
set_option maxRecDepth 100000 in
theorem cdX3_placeInMind : cdP iX3_placeInMind := ⟨nth_mem (k := 444) rfl, rfl⟩
set_option maxRecDepth 100000 in
theorem cdX3_stand : cdP iX3_stand := ⟨nth_mem (k := 440) rfl, rfl⟩
set_option maxRecDepth 100000 in
theorem cdX3_off : cdP iX3_off := ⟨nth_mem (k := 448) rfl, rfl⟩
set_option maxRecDepth 100000 in
theorem cdX3_ears : cdP iX3_ears := ⟨nth_mem (k := 457) rfl, rfl⟩
set_option maxRecDepth 100000 in
theorem cdX3_side : cdP iX3_side := ⟨nth_mem (k := 462) rfl, rfl⟩
set_option maxRecDepth 100000 in
theorem cdX3_free : cdP iX3_free := ⟨nth_mem (k := 479) rfl, rfl⟩
set_option maxRecDepth 100000 in
theorem cdX3_wentAsTold : cdP iX3_wentAsTold := ⟨nth_mem (k := 495) rfl, rfl⟩
set_option maxRecDepth 100000 in
theorem cdX3_whatIs : cdP iX3_whatIs := ⟨nth_mem (k := 491) rfl, rfl⟩
set_option maxRecDepth 100000 in
theorem cdX3_whereFrom : cdP iX3_whereFrom := ⟨nth_mem (k := 508) rfl, rfl⟩
set_option maxRecDepth 100000 in
theorem cdX3_firstPairAtRest : cdP iX3_firstPairAtRest := ⟨nth_mem (k := 520) rfl, rfl⟩
set_option maxRecDepth 100000 in
theorem cdX3_two : cdP iX3_two := ⟨nth_mem (k := 512) rfl, rfl⟩
set_option maxRecDepth 100000 in
theorem cdX3_waysToBeThere : cdP iX3_waysToBeThere := ⟨nth_mem (k := 528) rfl, rfl⟩
set_option maxRecDepth 100000 in
theorem cdX3_partInLeastTerms : cdP iX3_partInLeastTerms := ⟨nth_mem (k := 531) rfl, rfl⟩
set_option maxRecDepth 100000 in
theorem cdX3_rain : cdP iX3_rain := ⟨nth_mem (k := 524) rfl, rfl⟩
set_option maxRecDepth 100000 in
theorem cdX3_share : cdP iX3_share := ⟨nth_mem (k := 535) rfl, rfl⟩
set_option maxRecDepth 100000 in
theorem cdX3_forged : cdP iX3_forged := ⟨nth_mem (k := 539) rfl, rfl⟩
set_option maxRecDepth 100000 in
theorem cdX3_judge : cdP iX3_judge := ⟨nth_mem (k := 543) rfl, rfl⟩
set_option maxRecDepth 100000 in
theorem cdX3_draw : cdP iX3_draw := ⟨nth_mem (k := 559) rfl, rfl⟩
set_option maxRecDepth 100000 in
theorem cdX3_setUpByDraws : cdP iX3_setUpByDraws := ⟨nth_mem (k := 551) rfl, rfl⟩
set_option maxRecDepth 100000 in
theorem cdX3_games : cdP iX3_games := ⟨nth_mem (k := 547) rfl, rfl⟩
set_option maxRecDepth 100000 in
theorem cdX3_image : cdP iX3_image := ⟨nth_mem (k := 566) rfl, rfl⟩
set_option maxRecDepth 100000 in
theorem cdX3_restore : cdP iX3_restore := ⟨nth_mem (k := 570) rfl, rfl⟩
set_option maxRecDepth 100000 in
theorem cdX3_count : cdP iX3_count := ⟨nth_mem (k := 574) rfl, rfl⟩
set_option maxRecDepth 100000 in
theorem cdX3_keep : cdP iX3_keep := ⟨nth_mem (k := 578) rfl, rfl⟩
set_option maxRecDepth 100000 in
theorem cdX3_row : cdP iX3_row := ⟨nth_mem (k := 584) rfl, rfl⟩
set_option maxRecDepth 100000 in
theorem cdX3_put : cdP iX3_put := ⟨nth_mem (k := 593) rfl, rfl⟩
set_option maxRecDepth 100000 in
theorem cdX3_copy : cdP iX3_copy := ⟨nth_mem (k := 601) rfl, rfl⟩
set_option maxRecDepth 100000 in
theorem cdX3_cost : cdP iX3_cost := ⟨nth_mem (k := 610) rfl, rfl⟩
set_option maxRecDepth 100000 in
theorem cdX4_isIn : cdP iX4_isIn := ⟨nth_mem (k := 825) rfl, rfl⟩
set_option maxRecDepth 100000 in
theorem cdX4_sized : cdP iX4_sized := ⟨nth_mem (k := 919) rfl, rfl⟩
set_option maxRecDepth 100000 in
theorem cdX4_least : cdP iX4_least := ⟨nth_mem (k := 937) rfl, rfl⟩
set_option maxRecDepth 100000 in
theorem cdX4_copies : cdP iX4_copies := ⟨nth_mem (k := 840) rfl, rfl⟩
set_option maxRecDepth 100000 in
theorem cdX4_of : cdP iX4_of := ⟨nth_mem (k := 856) rfl, rfl⟩
set_option maxRecDepth 100000 in
theorem cdX4_isPiece : cdP iX4_isPiece := ⟨nth_mem (k := 864) rfl, rfl⟩
set_option maxRecDepth 100000 in
theorem cdX4_areTwo : cdP iX4_areTwo := ⟨nth_mem (k := 1051) rfl, rfl⟩
set_option maxRecDepth 100000 in
theorem cdX4_isSquare : cdP iX4_isSquare := ⟨nth_mem (k := 850) rfl, rfl⟩
set_option maxRecDepth 100000 in
theorem cdX4_isSide : cdP iX4_isSide := ⟨nth_mem (k := 847) rfl, rfl⟩
set_option maxRecDepth 100000 in
theorem cdX4_isHere : cdP iX4_isHere := ⟨nth_mem (k := 871) rfl, rfl⟩
set_option maxRecDepth 100000 in
theorem cdX4_has : cdP iX4_has := ⟨nth_mem (k := 886) rfl, rfl⟩
set_option maxRecDepth 100000 in
theorem cdX4_bits : cdP iX4_bits := ⟨nth_mem (k := 934) rfl, rfl⟩
set_option maxRecDepth 100000 in
theorem cdX4_onSquare : cdP iX4_onSquare := ⟨nth_mem (k := 853) rfl, rfl⟩
set_option maxRecDepth 100000 in
theorem cdX4_squareOn : cdP iX4_squareOn := ⟨nth_mem (k := 895) rfl, rfl⟩
set_option maxRecDepth 100000 in
theorem cdX4_isFree : cdP iX4_isFree := ⟨nth_mem (k := 907) rfl, rfl⟩
set_option maxRecDepth 100000 in
theorem cdX4_isOfSide : cdP iX4_isOfSide := ⟨nth_mem (k := 901) rfl, rfl⟩
set_option maxRecDepth 100000 in
theorem cdX4_farOf : cdP iX4_farOf := ⟨nth_mem (k := 916) rfl, rfl⟩
set_option maxRecDepth 100000 in
theorem cdX4_forward : cdP iX4_forward := ⟨nth_mem (k := 892) rfl, rfl⟩
set_option maxRecDepth 100000 in
theorem cdX4_pawnIdea : cdP iX4_pawnIdea := ⟨nth_mem (k := 922) rfl, rfl⟩
set_option maxRecDepth 100000 in
theorem cdX4_knightIdea : cdP iX4_knightIdea := ⟨nth_mem (k := 898) rfl, rfl⟩
set_option maxRecDepth 100000 in
theorem cdX4_slideIdea : cdP iX4_slideIdea := ⟨nth_mem (k := 904) rfl, rfl⟩
set_option maxRecDepth 100000 in
theorem cdX4_bishopIdea : cdP iX4_bishopIdea := ⟨nth_mem (k := 910) rfl, rfl⟩
set_option maxRecDepth 100000 in
theorem cdX4_kingIdea : cdP iX4_kingIdea := ⟨nth_mem (k := 913) rfl, rfl⟩
set_option maxRecDepth 100000 in
theorem cdX4_idea : cdP iX4_idea := ⟨nth_mem (k := 889) rfl, rfl⟩
set_option maxRecDepth 100000 in
theorem cdX4_earsBy : cdP iX4_earsBy := ⟨nth_mem (k := 931) rfl, rfl⟩
set_option maxRecDepth 100000 in
theorem cdX4_worthBy : cdP iX4_worthBy := ⟨nth_mem (k := 944) rfl, rfl⟩
set_option maxRecDepth 100000 in
theorem cdX4_doesHear : cdP iX4_doesHear := ⟨nth_mem (k := 928) rfl, rfl⟩
set_option maxRecDepth 100000 in
theorem cdX4_heardBy : cdP iX4_heardBy := ⟨nth_mem (k := 925) rfl, rfl⟩
set_option maxRecDepth 100000 in
theorem cdX4_hereIn : cdP iX4_hereIn := ⟨nth_mem (k := 983) rfl, rfl⟩
set_option maxRecDepth 100000 in
theorem cdX4_ofSide : cdP iX4_ofSide := ⟨nth_mem (k := 883) rfl, rfl⟩
set_option maxRecDepth 100000 in
theorem cdX4_worthOf : cdP iX4_worthOf := ⟨nth_mem (k := 1001) rfl, rfl⟩
set_option maxRecDepth 100000 in
theorem cdX4_goesOn : cdP iX4_goesOn := ⟨nth_mem (k := 880) rfl, rfl⟩
set_option maxRecDepth 100000 in
theorem cdX4_day : cdP iX4_day := ⟨nth_mem (k := 877) rfl, rfl⟩
set_option maxRecDepth 100000 in
theorem cdX4_daysOn : cdP iX4_daysOn := ⟨nth_mem (k := 874) rfl, rfl⟩
set_option maxRecDepth 100000 in
theorem cdX4_here : cdP iX4_here := ⟨nth_mem (k := 833) rfl, rfl⟩
set_option maxRecDepth 100000 in
theorem cdX4_readsNumber : cdP iX4_readsNumber := ⟨nth_mem (k := 837) rfl, rfl⟩
set_option maxRecDepth 100000 in
theorem cdX4_readsStatement : cdP iX4_readsStatement := ⟨nth_mem (k := 829) rfl, rfl⟩
set_option maxRecDepth 100000 in
theorem cdX4_adds : cdP iX4_adds := ⟨nth_mem (k := 860) rfl, rfl⟩
set_option maxRecDepth 100000 in
theorem cdX4_mayStand : cdP iX4_mayStand := ⟨nth_mem (k := 868) rfl, rfl⟩
set_option maxRecDepth 100000 in
theorem cdX4_isDone : cdP iX4_isDone := ⟨nth_mem (k := 844) rfl, rfl⟩
set_option maxRecDepth 100000 in
theorem cdX4_isShelf : cdP iX4_isShelf := ⟨nth_mem (k := 822) rfl, rfl⟩
set_option maxRecDepth 100000 in
theorem cdX4_wrongRow : cdP iX4_wrongRow := ⟨nth_mem (k := 819) rfl, rfl⟩
set_option maxRecDepth 100000 in
theorem cdX4_game : cdP iX4_game := ⟨nth_mem (k := 815) rfl, rfl⟩
set_option maxRecDepth 100000 in
theorem cdX4_nextIdea : cdP iX4_nextIdea := ⟨nth_mem (k := 948) rfl, rfl⟩
set_option maxRecDepth 100000 in
theorem cdX4_piece : cdP iX4_piece := ⟨nth_mem (k := 941) rfl, rfl⟩
set_option maxRecDepth 100000 in
theorem cdX4_on : cdP iX4_on := ⟨nth_mem (k := 952) rfl, rfl⟩
set_option maxRecDepth 100000 in
theorem cdX4_wrongKept : cdP iX4_wrongKept := ⟨nth_mem (k := 960) rfl, rfl⟩
set_option maxRecDepth 100000 in
theorem cdX4_comes : cdP iX4_comes := ⟨nth_mem (k := 956) rfl, rfl⟩
set_option maxRecDepth 100000 in
theorem cdX4_sets : cdP iX4_sets := ⟨nth_mem (k := 968) rfl, rfl⟩
set_option maxRecDepth 100000 in
theorem cdX4_stands : cdP iX4_stands := ⟨nth_mem (k := 964) rfl, rfl⟩
set_option maxRecDepth 100000 in
theorem cdX4_takes : cdP iX4_takes := ⟨nth_mem (k := 972) rfl, rfl⟩
set_option maxRecDepth 100000 in
theorem cdX4_turn : cdP iX4_turn := ⟨nth_mem (k := 976) rfl, rfl⟩
set_option maxRecDepth 100000 in
theorem cdX4_days : cdP iX4_days := ⟨nth_mem (k := 980) rfl, rfl⟩
set_option maxRecDepth 100000 in
theorem cdX4_isLate : cdP iX4_isLate := ⟨nth_mem (k := 990) rfl, rfl⟩
set_option maxRecDepth 100000 in
theorem cdX4_inMind : cdP iX4_inMind := ⟨nth_mem (k := 994) rfl, rfl⟩
set_option maxRecDepth 100000 in
theorem cdX4_squareThen : cdP iX4_squareThen := ⟨nth_mem (k := 987) rfl, rfl⟩
set_option maxRecDepth 100000 in
theorem cdX4_then : cdP iX4_then := ⟨nth_mem (k := 998) rfl, rfl⟩
set_option maxRecDepth 100000 in
theorem cdX4_fallsOf : cdP iX4_fallsOf := ⟨nth_mem (k := 1014) rfl, rfl⟩
set_option maxRecDepth 100000 in
theorem cdX4_firstFalls : cdP iX4_firstFalls := ⟨nth_mem (k := 1009) rfl, rfl⟩
set_option maxRecDepth 100000 in
theorem cdX4_falls : cdP iX4_falls := ⟨nth_mem (k := 1005) rfl, rfl⟩
set_option maxRecDepth 100000 in
theorem cdX4_isMoved : cdP iX4_isMoved := ⟨nth_mem (k := 1022) rfl, rfl⟩
set_option maxRecDepth 100000 in
theorem cdX4_still : cdP iX4_still := ⟨nth_mem (k := 1018) rfl, rfl⟩
set_option maxRecDepth 100000 in
theorem cdX4_next : cdP iX4_next := ⟨nth_mem (k := 1026) rfl, rfl⟩
set_option maxRecDepth 100000 in
theorem cdX4_heard : cdP iX4_heard := ⟨nth_mem (k := 1030) rfl, rfl⟩
set_option maxRecDepth 100000 in
theorem cdX4_danger : cdP iX4_danger := ⟨nth_mem (k := 1034) rfl, rfl⟩
set_option maxRecDepth 100000 in
theorem cdX4_stand : cdP iX4_stand := ⟨nth_mem (k := 1038) rfl, rfl⟩
set_option maxRecDepth 100000 in
theorem cdX4_off : cdP iX4_off := ⟨nth_mem (k := 1043) rfl, rfl⟩
set_option maxRecDepth 100000 in
theorem cdX4_ears : cdP iX4_ears := ⟨nth_mem (k := 1047) rfl, rfl⟩
set_option maxRecDepth 100000 in
theorem cdX4_groupsOf : cdP iX4_groupsOf := ⟨nth_mem (k := 1059) rfl, rfl⟩
set_option maxRecDepth 100000 in
theorem cdX4_farthestOf : cdP iX4_farthestOf := ⟨nth_mem (k := 1063) rfl, rfl⟩
set_option maxRecDepth 100000 in
theorem cdX4_side : cdP iX4_side := ⟨nth_mem (k := 1055) rfl, rfl⟩
set_option maxRecDepth 100000 in
theorem cdX4_pairs : cdP iX4_pairs := ⟨nth_mem (k := 1071) rfl, rfl⟩
set_option maxRecDepth 100000 in
theorem cdX4_quietOnes : cdP iX4_quietOnes := ⟨nth_mem (k := 1075) rfl, rfl⟩
set_option maxRecDepth 100000 in
theorem cdX4_free : cdP iX4_free := ⟨nth_mem (k := 1067) rfl, rfl⟩
set_option maxRecDepth 100000 in
theorem cdX4_leastOf : cdP iX4_leastOf := ⟨nth_mem (k := 1093) rfl, rfl⟩
set_option maxRecDepth 100000 in
theorem cdX4_isTold : cdP iX4_isTold := ⟨nth_mem (k := 1090) rfl, rfl⟩
set_option maxRecDepth 100000 in
theorem cdX4_toldSquare : cdP iX4_toldSquare := ⟨nth_mem (k := 1086) rfl, rfl⟩
set_option maxRecDepth 100000 in
theorem cdX4_isWhereSo : cdP iX4_isWhereSo := ⟨nth_mem (k := 1083) rfl, rfl⟩
set_option maxRecDepth 100000 in
theorem cdX4_whatIs : cdP iX4_whatIs := ⟨nth_mem (k := 1079) rfl, rfl⟩
set_option maxRecDepth 100000 in
theorem cdX4_whereFrom : cdP iX4_whereFrom := ⟨nth_mem (k := 1098) rfl, rfl⟩
set_option maxRecDepth 100000 in
theorem cdX4_hasBy : cdP iX4_hasBy := ⟨nth_mem (k := 1106) rfl, rfl⟩
set_option maxRecDepth 100000 in
theorem cdX4_two : cdP iX4_two := ⟨nth_mem (k := 1102) rfl, rfl⟩
set_option maxRecDepth 100000 in
theorem cdX4_gcd : cdP iX4_gcd := ⟨nth_mem (k := 1117) rfl, rfl⟩
set_option maxRecDepth 100000 in
theorem cdX4_partOf : cdP iX4_partOf := ⟨nth_mem (k := 1114) rfl, rfl⟩
set_option maxRecDepth 100000 in
theorem cdX4_rain : cdP iX4_rain := ⟨nth_mem (k := 1110) rfl, rfl⟩
set_option maxRecDepth 100000 in
theorem cdX4_share : cdP iX4_share := ⟨nth_mem (k := 1121) rfl, rfl⟩
set_option maxRecDepth 100000 in
theorem cdX4_forged : cdP iX4_forged := ⟨nth_mem (k := 1125) rfl, rfl⟩
set_option maxRecDepth 100000 in
theorem cdX4_judge : cdP iX4_judge := ⟨nth_mem (k := 1129) rfl, rfl⟩
set_option maxRecDepth 100000 in
theorem cdX4_drawn : cdP iX4_drawn := ⟨nth_mem (k := 1141) rfl, rfl⟩
set_option maxRecDepth 100000 in
theorem cdX4_setsUp : cdP iX4_setsUp := ⟨nth_mem (k := 1137) rfl, rfl⟩
set_option maxRecDepth 100000 in
theorem cdX4_games : cdP iX4_games := ⟨nth_mem (k := 1133) rfl, rfl⟩
set_option maxRecDepth 100000 in
theorem cdX4_image : cdP iX4_image := ⟨nth_mem (k := 1148) rfl, rfl⟩
set_option maxRecDepth 100000 in
theorem cdX4_restore : cdP iX4_restore := ⟨nth_mem (k := 1152) rfl, rfl⟩
set_option maxRecDepth 100000 in
theorem cdX4_count : cdP iX4_count := ⟨nth_mem (k := 1156) rfl, rfl⟩
set_option maxRecDepth 100000 in
theorem cdX4_thrown : cdP iX4_thrown := ⟨nth_mem (k := 1160) rfl, rfl⟩
set_option maxRecDepth 100000 in
theorem cdX4_keep : cdP iX4_keep := ⟨nth_mem (k := 1164) rfl, rfl⟩
set_option maxRecDepth 100000 in
theorem cdX4_row : cdP iX4_row := ⟨nth_mem (k := 1168) rfl, rfl⟩
set_option maxRecDepth 100000 in
theorem cdX4_put : cdP iX4_put := ⟨nth_mem (k := 1172) rfl, rfl⟩
set_option maxRecDepth 100000 in
theorem cdX4_element : cdP iX4_element := ⟨nth_mem (k := 1176) rfl, rfl⟩
set_option maxRecDepth 100000 in
theorem cdX4_copy : cdP iX4_copy := ⟨nth_mem (k := 1180) rfl, rfl⟩
set_option maxRecDepth 100000 in
theorem cdX4_costBy : cdP iX4_costBy := ⟨nth_mem (k := 1187) rfl, rfl⟩
set_option maxRecDepth 100000 in
theorem cdX4_cost : cdP iX4_cost := ⟨nth_mem (k := 1184) rfl, rfl⟩
set_option maxRecDepth 100000 in
theorem cdX4_toss : cdP iX4_toss := ⟨nth_mem (k := 1191) rfl, rfl⟩
set_option maxRecDepth 100000 in
theorem cdT_0 : ∀ mi ∈ mt_0, cdP mi := List.forall_mem_cons.mpr ⟨cdX0_becomes, List.forall_mem_cons.mpr ⟨cdX0_has, List.forall_mem_cons.mpr ⟨cdX0_isThere, List.forall_mem_cons.mpr ⟨cdX0_isThereOf, List.forall_mem_cons.mpr ⟨cdX0_squareOf, List.forall_mem_cons.mpr ⟨cdX0_squareOrNone, List.forall_mem_cons.mpr ⟨cdX0_isFree, List.forall_mem_cons.mpr ⟨cdX0_isHeldBy, List.forall_mem_cons.mpr ⟨cdX3_isKind, List.forall_mem_cons.mpr ⟨cdX3_isFigure, List.forall_mem_cons.mpr ⟨cdX3_isSide, List.forall_mem_cons.mpr ⟨cdX0_addPiece, List.forall_mem_cons.mpr ⟨cdX3_isSquare, List.forall_mem_cons.mpr ⟨cdX0_takeOff, List.forall_mem_cons.mpr ⟨cdX0_movePiece, List.forall_mem_cons.mpr ⟨cdX0_takeAllOff, fun _ h => absurd h List.not_mem_nil⟩⟩⟩⟩⟩⟩⟩⟩⟩⟩⟩⟩⟩⟩⟩⟩
set_option maxRecDepth 100000 in
theorem cdT_1 : ∀ mi ∈ mt_1, cdP mi := List.forall_mem_cons.mpr ⟨cdX0_turnInto, List.forall_mem_cons.mpr ⟨cdX0_giveTurn, List.forall_mem_cons.mpr ⟨cdX0_squareFrom, List.forall_mem_cons.mpr ⟨cdX0_knightIdea, List.forall_mem_cons.mpr ⟨cdX0_slideIdea, List.forall_mem_cons.mpr ⟨cdX0_bishopIdea, List.forall_mem_cons.mpr ⟨cdX3_far, List.forall_mem_cons.mpr ⟨cdX0_kingIdea, List.forall_mem_cons.mpr ⟨cdX0_pawnIdea, List.forall_mem_cons.mpr ⟨cdX0_ideaOf, List.forall_mem_cons.mpr ⟨cdX1_earsWith, List.forall_mem_cons.mpr ⟨cdX0_hearersOf, List.forall_mem_cons.mpr ⟨cdJ6_bitCount_0f7a4, List.forall_mem_cons.mpr ⟨cdX0_howManyOf, List.forall_mem_cons.mpr ⟨cdX0_goerOn, List.forall_mem_cons.mpr ⟨cdX0_passDay, fun _ h => absurd h List.not_mem_nil⟩⟩⟩⟩⟩⟩⟩⟩⟩⟩⟩⟩⟩⟩⟩⟩
set_option maxRecDepth 100000 in
theorem cdT_2 : ∀ mi ∈ mt_2, cdP mi := List.forall_mem_cons.mpr ⟨cdX0_passWithinLast, List.forall_mem_cons.mpr ⟨cdX0_passDays, List.forall_mem_cons.mpr ⟨cdX0_howManyThere, List.forall_mem_cons.mpr ⟨cdX0_bitsThere, List.forall_mem_cons.mpr ⟨cdX1_worthWith, List.forall_mem_cons.mpr ⟨cdX0_worthOf, List.forall_mem_cons.mpr ⟨cdX0_worthWithout, List.forall_mem_cons.mpr ⟨cdX0_gainOf, List.forall_mem_cons.mpr ⟨cdX0_groupAround, List.forall_mem_cons.mpr ⟨cdX0_groupsOf, List.forall_mem_cons.mpr ⟨cdX0_farthestOf, List.forall_mem_cons.mpr ⟨cdX0_pairsSideBySide, List.forall_mem_cons.mpr ⟨cdX0_quietOn, List.forall_mem_cons.mpr ⟨cdX1_costWith, List.forall_mem_cons.mpr ⟨cdJ7_fill_53178, List.forall_mem_cons.mpr ⟨cdX2_becomesRow, fun _ h => absurd h List.not_mem_nil⟩⟩⟩⟩⟩⟩⟩⟩⟩⟩⟩⟩⟩⟩⟩⟩
set_option maxRecDepth 100000 in
theorem cdT_3 : ∀ mi ∈ mt_3, cdP mi := List.forall_mem_cons.mpr ⟨cdX2_hasPlace, List.forall_mem_cons.mpr ⟨cdX2_hasPlaces, List.forall_mem_cons.mpr ⟨cdX2_elementAt, List.forall_mem_cons.mpr ⟨cdX2_putIn, List.forall_mem_cons.mpr ⟨cdX2_isSkipped, List.forall_mem_cons.mpr ⟨cdX2_digitsBehind, List.forall_mem_cons.mpr ⟨cdX2_wrongByte, List.forall_mem_cons.mpr ⟨cdX2_digitAt, List.forall_mem_cons.mpr ⟨cdX2_twoDigitsAt, List.forall_mem_cons.mpr ⟨cdX3_shelfAt, List.forall_mem_cons.mpr ⟨cdX3_refusalUnless, List.forall_mem_cons.mpr ⟨cdX3_isDone, List.forall_mem_cons.mpr ⟨cdX3_game, List.forall_mem_cons.mpr ⟨cdX3_piece, List.forall_mem_cons.mpr ⟨cdX3_on, List.forall_mem_cons.mpr ⟨cdX3_comes, fun _ h => absurd h List.not_mem_nil⟩⟩⟩⟩⟩⟩⟩⟩⟩⟩⟩⟩⟩⟩⟩⟩
set_option maxRecDepth 100000 in
theorem cdT_4 : ∀ mi ∈ mt_4, cdP mi := List.forall_mem_cons.mpr ⟨cdX3_stands, List.forall_mem_cons.mpr ⟨cdX3_takes, List.forall_mem_cons.mpr ⟨cdX3_turn, List.forall_mem_cons.mpr ⟨cdX3_days, List.forall_mem_cons.mpr ⟨cdX3_lookAhead, List.forall_mem_cons.mpr ⟨cdX3_squareThen, List.forall_mem_cons.mpr ⟨cdX3_then, List.forall_mem_cons.mpr ⟨cdX3_firstToFall, List.forall_mem_cons.mpr ⟨cdX3_falls, List.forall_mem_cons.mpr ⟨cdX3_still, List.forall_mem_cons.mpr ⟨cdX3_next, List.forall_mem_cons.mpr ⟨cdX3_heard, List.forall_mem_cons.mpr ⟨cdX3_danger, List.forall_mem_cons.mpr ⟨cdX3_placeInMind, List.forall_mem_cons.mpr ⟨cdX3_stand, List.forall_mem_cons.mpr ⟨cdX3_off, fun _ h => absurd h List.not_mem_nil⟩⟩⟩⟩⟩⟩⟩⟩⟩⟩⟩⟩⟩⟩⟩⟩
set_option maxRecDepth 100000 in
theorem cdT_5 : ∀ mi ∈ mt_5, cdP mi := List.forall_mem_cons.mpr ⟨cdX3_ears, List.forall_mem_cons.mpr ⟨cdX3_side, List.forall_mem_cons.mpr ⟨cdX3_free, List.forall_mem_cons.mpr ⟨cdX3_wentAsTold, List.forall_mem_cons.mpr ⟨cdX3_whatIs, List.forall_mem_cons.mpr ⟨cdX3_whereFrom, List.forall_mem_cons.mpr ⟨cdX3_firstPairAtRest, List.forall_mem_cons.mpr ⟨cdX3_two, List.forall_mem_cons.mpr ⟨cdX3_waysToBeThere, List.forall_mem_cons.mpr ⟨cdX3_partInLeastTerms, List.forall_mem_cons.mpr ⟨cdX3_rain, List.forall_mem_cons.mpr ⟨cdX3_share, List.forall_mem_cons.mpr ⟨cdX3_forged, List.forall_mem_cons.mpr ⟨cdX3_judge, List.forall_mem_cons.mpr ⟨cdX3_draw, List.forall_mem_cons.mpr ⟨cdX3_setUpByDraws, fun _ h => absurd h List.not_mem_nil⟩⟩⟩⟩⟩⟩⟩⟩⟩⟩⟩⟩⟩⟩⟩⟩
set_option maxRecDepth 100000 in
theorem cdT_6 : ∀ mi ∈ mt_6, cdP mi := List.forall_mem_cons.mpr ⟨cdX3_games, List.forall_mem_cons.mpr ⟨cdX3_image, List.forall_mem_cons.mpr ⟨cdX3_restore, List.forall_mem_cons.mpr ⟨cdX3_count, List.forall_mem_cons.mpr ⟨cdX3_keep, List.forall_mem_cons.mpr ⟨cdX3_row, List.forall_mem_cons.mpr ⟨cdX3_put, List.forall_mem_cons.mpr ⟨cdX3_copy, List.forall_mem_cons.mpr ⟨cdX3_cost, List.forall_mem_cons.mpr ⟨cdX4_isIn, List.forall_mem_cons.mpr ⟨cdX4_sized, List.forall_mem_cons.mpr ⟨cdX4_least, List.forall_mem_cons.mpr ⟨cdX4_copies, List.forall_mem_cons.mpr ⟨cdX4_of, List.forall_mem_cons.mpr ⟨cdX4_isPiece, List.forall_mem_cons.mpr ⟨cdX4_areTwo, fun _ h => absurd h List.not_mem_nil⟩⟩⟩⟩⟩⟩⟩⟩⟩⟩⟩⟩⟩⟩⟩⟩
set_option maxRecDepth 100000 in
theorem cdT_7 : ∀ mi ∈ mt_7, cdP mi := List.forall_mem_cons.mpr ⟨cdX4_isSquare, List.forall_mem_cons.mpr ⟨cdX4_isSide, List.forall_mem_cons.mpr ⟨cdX4_isHere, List.forall_mem_cons.mpr ⟨cdX4_has, List.forall_mem_cons.mpr ⟨cdX4_bits, List.forall_mem_cons.mpr ⟨cdX4_onSquare, List.forall_mem_cons.mpr ⟨cdX4_squareOn, List.forall_mem_cons.mpr ⟨cdX4_isFree, List.forall_mem_cons.mpr ⟨cdX4_isOfSide, List.forall_mem_cons.mpr ⟨cdX4_farOf, List.forall_mem_cons.mpr ⟨cdX4_forward, List.forall_mem_cons.mpr ⟨cdX4_pawnIdea, List.forall_mem_cons.mpr ⟨cdX4_knightIdea, List.forall_mem_cons.mpr ⟨cdX4_slideIdea, List.forall_mem_cons.mpr ⟨cdX4_bishopIdea, List.forall_mem_cons.mpr ⟨cdX4_kingIdea, fun _ h => absurd h List.not_mem_nil⟩⟩⟩⟩⟩⟩⟩⟩⟩⟩⟩⟩⟩⟩⟩⟩
set_option maxRecDepth 100000 in
theorem cdT_8 : ∀ mi ∈ mt_8, cdP mi := List.forall_mem_cons.mpr ⟨cdX4_idea, List.forall_mem_cons.mpr ⟨cdX4_earsBy, List.forall_mem_cons.mpr ⟨cdX4_worthBy, List.forall_mem_cons.mpr ⟨cdX4_doesHear, List.forall_mem_cons.mpr ⟨cdX4_heardBy, List.forall_mem_cons.mpr ⟨cdX4_hereIn, List.forall_mem_cons.mpr ⟨cdX4_ofSide, List.forall_mem_cons.mpr ⟨cdX4_worthOf, List.forall_mem_cons.mpr ⟨cdX4_goesOn, List.forall_mem_cons.mpr ⟨cdX4_day, List.forall_mem_cons.mpr ⟨cdX4_daysOn, List.forall_mem_cons.mpr ⟨cdX4_here, List.forall_mem_cons.mpr ⟨cdX4_readsNumber, List.forall_mem_cons.mpr ⟨cdX4_readsStatement, List.forall_mem_cons.mpr ⟨cdX4_adds, List.forall_mem_cons.mpr ⟨cdX4_mayStand, fun _ h => absurd h List.not_mem_nil⟩⟩⟩⟩⟩⟩⟩⟩⟩⟩⟩⟩⟩⟩⟩⟩
set_option maxRecDepth 100000 in
theorem cdT_9 : ∀ mi ∈ mt_9, cdP mi := List.forall_mem_cons.mpr ⟨cdX4_isDone, List.forall_mem_cons.mpr ⟨cdX4_isShelf, List.forall_mem_cons.mpr ⟨cdX4_wrongRow, List.forall_mem_cons.mpr ⟨cdX4_game, List.forall_mem_cons.mpr ⟨cdX4_nextIdea, List.forall_mem_cons.mpr ⟨cdX4_piece, List.forall_mem_cons.mpr ⟨cdX4_on, List.forall_mem_cons.mpr ⟨cdX4_wrongKept, List.forall_mem_cons.mpr ⟨cdX4_comes, List.forall_mem_cons.mpr ⟨cdX4_sets, List.forall_mem_cons.mpr ⟨cdX4_stands, List.forall_mem_cons.mpr ⟨cdX4_takes, List.forall_mem_cons.mpr ⟨cdX4_turn, List.forall_mem_cons.mpr ⟨cdX4_days, List.forall_mem_cons.mpr ⟨cdX4_isLate, List.forall_mem_cons.mpr ⟨cdX4_inMind, fun _ h => absurd h List.not_mem_nil⟩⟩⟩⟩⟩⟩⟩⟩⟩⟩⟩⟩⟩⟩⟩⟩
set_option maxRecDepth 100000 in
theorem cdT_10 : ∀ mi ∈ mt_10, cdP mi := List.forall_mem_cons.mpr ⟨cdX4_squareThen, List.forall_mem_cons.mpr ⟨cdX4_then, List.forall_mem_cons.mpr ⟨cdX4_fallsOf, List.forall_mem_cons.mpr ⟨cdX4_firstFalls, List.forall_mem_cons.mpr ⟨cdX4_falls, List.forall_mem_cons.mpr ⟨cdX4_isMoved, List.forall_mem_cons.mpr ⟨cdX4_still, List.forall_mem_cons.mpr ⟨cdX4_next, List.forall_mem_cons.mpr ⟨cdX4_heard, List.forall_mem_cons.mpr ⟨cdX4_danger, List.forall_mem_cons.mpr ⟨cdX4_stand, List.forall_mem_cons.mpr ⟨cdX4_off, List.forall_mem_cons.mpr ⟨cdX4_ears, List.forall_mem_cons.mpr ⟨cdX4_groupsOf, List.forall_mem_cons.mpr ⟨cdX4_farthestOf, List.forall_mem_cons.mpr ⟨cdX4_side, fun _ h => absurd h List.not_mem_nil⟩⟩⟩⟩⟩⟩⟩⟩⟩⟩⟩⟩⟩⟩⟩⟩
set_option maxRecDepth 100000 in
theorem cdT_11 : ∀ mi ∈ mt_11, cdP mi := List.forall_mem_cons.mpr ⟨cdX4_pairs, List.forall_mem_cons.mpr ⟨cdX4_quietOnes, List.forall_mem_cons.mpr ⟨cdX4_free, List.forall_mem_cons.mpr ⟨cdX4_leastOf, List.forall_mem_cons.mpr ⟨cdX4_isTold, List.forall_mem_cons.mpr ⟨cdX4_toldSquare, List.forall_mem_cons.mpr ⟨cdX4_isWhereSo, List.forall_mem_cons.mpr ⟨cdX4_whatIs, List.forall_mem_cons.mpr ⟨cdX4_whereFrom, List.forall_mem_cons.mpr ⟨cdX4_hasBy, List.forall_mem_cons.mpr ⟨cdX4_two, List.forall_mem_cons.mpr ⟨cdX4_gcd, List.forall_mem_cons.mpr ⟨cdX4_partOf, List.forall_mem_cons.mpr ⟨cdX4_rain, List.forall_mem_cons.mpr ⟨cdX4_share, List.forall_mem_cons.mpr ⟨cdX4_forged, fun _ h => absurd h List.not_mem_nil⟩⟩⟩⟩⟩⟩⟩⟩⟩⟩⟩⟩⟩⟩⟩⟩
set_option maxRecDepth 100000 in
theorem cdT_12 : ∀ mi ∈ mt_12, cdP mi := List.forall_mem_cons.mpr ⟨cdX4_judge, List.forall_mem_cons.mpr ⟨cdX4_drawn, List.forall_mem_cons.mpr ⟨cdX4_setsUp, List.forall_mem_cons.mpr ⟨cdX4_games, List.forall_mem_cons.mpr ⟨cdX4_image, List.forall_mem_cons.mpr ⟨cdX4_restore, List.forall_mem_cons.mpr ⟨cdX4_count, List.forall_mem_cons.mpr ⟨cdX4_thrown, List.forall_mem_cons.mpr ⟨cdX4_keep, List.forall_mem_cons.mpr ⟨cdX4_row, List.forall_mem_cons.mpr ⟨cdX4_put, List.forall_mem_cons.mpr ⟨cdX4_element, List.forall_mem_cons.mpr ⟨cdX4_copy, List.forall_mem_cons.mpr ⟨cdX4_costBy, List.forall_mem_cons.mpr ⟨cdX4_cost, List.forall_mem_cons.mpr ⟨cdX4_toss, fun _ h => absurd h List.not_mem_nil⟩⟩⟩⟩⟩⟩⟩⟩⟩⟩⟩⟩⟩⟩⟩⟩
set_option maxRecDepth 100000 in
theorem cdT_ok : ∀ mi ∈ mt, cdP mi := List.forall_mem_append.mpr ⟨cdT_0, List.forall_mem_append.mpr ⟨cdT_1, List.forall_mem_append.mpr ⟨cdT_2, List.forall_mem_append.mpr ⟨cdT_3, List.forall_mem_append.mpr ⟨cdT_4, List.forall_mem_append.mpr ⟨cdT_5, List.forall_mem_append.mpr ⟨cdT_6, List.forall_mem_append.mpr ⟨cdT_7, List.forall_mem_append.mpr ⟨cdT_8, List.forall_mem_append.mpr ⟨cdT_9, List.forall_mem_append.mpr ⟨cdT_10, List.forall_mem_append.mpr ⟨cdT_11, cdT_12⟩⟩⟩⟩⟩⟩⟩⟩⟩⟩⟩⟩
set_option maxRecDepth 100000 in
theorem w_0 : nth lw_tbl 69 = some (.fieldLink RX0 9 RX0 "kind" "[I") := rfl
set_option maxRecDepth 100000 in
theorem w_1 : nth lw_tbl 71 = some (.fieldLink RX0 15 RX0 "figure" "[I") := rfl
set_option maxRecDepth 100000 in
theorem w_2 : nth lw_tbl 73 = some (.fieldLink RX0 18 RX0 "side" "[I") := rfl
set_option maxRecDepth 100000 in
theorem w_3 : nth lw_tbl 75 = some (.fieldLink RX0 21 RX0 "square" "[I") := rfl
set_option maxRecDepth 100000 in
theorem w_4 : nth lw_tbl 77 = some (.fieldLink RX0 24 RX0 "standing" "[I") := rfl
set_option maxRecDepth 100000 in
theorem w_5 : nth lw_tbl 79 = some (.fieldLink RX0 27 RX0 "count" "I") := rfl
set_option maxRecDepth 100000 in
theorem w_6 : nth lw_tbl 81 = some (.fieldLink RX0 31 RX0 "turn" "I") := rfl
set_option maxRecDepth 100000 in
theorem w_7 : nth lw_tbl 83 = some (.fieldLink RX0 34 RX0 "thought" "I") := rfl
set_option maxRecDepth 100000 in
theorem w_8 : nth lw_tbl 85 = some (.fieldLink RX0 37 RX0 "day" "I") := rfl
set_option maxRecDepth 100000 in
theorem w_9 : nth lw_tbl 115 = some (.fieldLink RX2 9 RX2 "holds" "I") := rfl
set_option maxRecDepth 100000 in
theorem w_10 : nth lw_tbl 121 = some (.fieldLink RX2 21 RX2 "sort" "I") := rfl
set_option maxRecDepth 100000 in
theorem w_11 : nth lw_tbl 123 = some (.fieldLink RX2 24 RX2 "size" "I") := rfl
set_option maxRecDepth 100000 in
theorem w_12 : nth lw_tbl 125 = some (.fieldLink RX2 27 RX2 "elements" "[I") := rfl
set_option maxRecDepth 100000 in
theorem w_13 : nth lw_tbl 140 = some (.fieldLink RX3 10 RX3 "now" "LTakenUpByThePieces$Board;") := rfl
set_option maxRecDepth 100000 in
theorem w_14 : nth lw_tbl 141 = some (.fieldLink RX3 16 RX3 "image" "LTakenUpByThePieces$Board;") := rfl
set_option maxRecDepth 100000 in
theorem w_15 : nth lw_tbl 142 = some (.fieldLink RX3 19 RX3 "imageTaken" "Z") := rfl
set_option maxRecDepth 100000 in
theorem w_16 : nth lw_tbl 143 = some (.fieldLink RX3 25 RX3 "shelves" "[LTakenUpByThePieces$Shelf;") := rfl
set_option maxRecDepth 100000 in
theorem w_17 : nth lw_tbl 144 = some (.fieldLink RX3 29 RX3 "minds" "[LTakenUpByThePieces$Board;") := rfl
set_option maxRecDepth 100000 in
theorem w_18 : nth lw_tbl 145 = some (.fieldLink RX3 33 RX3 "mind" "LTakenUpByThePieces$Board;") := rfl
set_option maxRecDepth 100000 in
theorem w_19 : nth lw_tbl 146 = some (.fieldLink RX3 36 RX3 "asItIs" "LTakenUpByThePieces$Board;") := rfl
set_option maxRecDepth 100000 in
theorem w_20 : nth lw_tbl 147 = some (.fieldLink RX3 39 RX3 "gainsOfOne" "[I") := rfl
set_option maxRecDepth 100000 in
theorem w_21 : nth lw_tbl 148 = some (.fieldLink RX3 43 RX3 "gainsOfOther" "[I") := rfl
set_option maxRecDepth 100000 in
theorem w_22 : nth lw_tbl 149 = some (.fieldLink RX3 46 RX3 "seed" "I") := rfl
set_option maxRecDepth 100000 in
theorem w_23 : nth lw_tbl 122 = some (.fieldLink RX3 59 RX2 "sort" "I") := rfl
set_option maxRecDepth 100000 in
theorem w_24 : nth lw_tbl 124 = some (.fieldLink RX3 70 RX2 "size" "I") := rfl
set_option maxRecDepth 100000 in
theorem w_25 : nth lw_tbl 70 = some (.fieldLink RX3 91 RX0 "kind" "[I") := rfl
set_option maxRecDepth 100000 in
theorem w_26 : nth lw_tbl 72 = some (.fieldLink RX3 94 RX0 "figure" "[I") := rfl
set_option maxRecDepth 100000 in
theorem w_27 : nth lw_tbl 74 = some (.fieldLink RX3 97 RX0 "side" "[I") := rfl
set_option maxRecDepth 100000 in
theorem w_28 : nth lw_tbl 86 = some (.fieldLink RX3 111 RX0 "day" "I") := rfl
set_option maxRecDepth 100000 in
theorem w_29 : nth lw_tbl 78 = some (.fieldLink RX3 120 RX0 "standing" "[I") := rfl
set_option maxRecDepth 100000 in
theorem w_30 : nth lw_tbl 80 = some (.fieldLink RX3 126 RX0 "count" "I") := rfl
set_option maxRecDepth 100000 in
theorem w_31 : nth lw_tbl 118 = some (.fieldLink RX3 129 RX2 "kind" "I") := rfl
set_option maxRecDepth 100000 in
theorem w_32 : nth lw_tbl 120 = some (.fieldLink RX3 131 RX2 "figure" "I") := rfl
set_option maxRecDepth 100000 in
theorem w_33 : nth lw_tbl 82 = some (.fieldLink RX3 144 RX0 "turn" "I") := rfl
set_option maxRecDepth 100000 in
theorem w_34 : nth lw_tbl 84 = some (.fieldLink RX3 163 RX0 "thought" "I") := rfl
set_option maxRecDepth 100000 in
theorem w_35 : nth lw_tbl 76 = some (.fieldLink RX3 207 RX0 "square" "[I") := rfl
set_option maxRecDepth 100000 in
theorem w_36 : nth lw_tbl 116 = some (.fieldLink RX3 261 RX2 "holds" "I") := rfl
set_option maxRecDepth 100000 in
theorem w_37 : nth lw_tbl 126 = some (.fieldLink RX3 297 RX2 "elements" "[I") := rfl
set_option maxRecDepth 100000 in
theorem w_38 : nth lw_tbl 760 = some (.fieldLink RX4 9 RX4 "s" "[I") := rfl
set_option maxRecDepth 100000 in
theorem w_39 : nth lw_tbl 761 = some (.fieldLink RX4 13 RX4 "m" "[I") := rfl
set_option maxRecDepth 100000 in
theorem w_40 : nth lw_tbl 762 = some (.fieldLink RX4 16 RX4 "image" "[I") := rfl
set_option maxRecDepth 100000 in
theorem w_41 : nth lw_tbl 763 = some (.fieldLink RX4 19 RX4 "was" "[I") := rfl
set_option maxRecDepth 100000 in
theorem w_42 : nth lw_tbl 768 = some (.fieldLink RX4 22 RX4 "numbers" "[I") := rfl
set_option maxRecDepth 100000 in
theorem w_43 : nth lw_tbl 770 = some (.fieldLink RX4 25 RX4 "kept" "[I") := rfl
set_option maxRecDepth 100000 in
theorem w_44 : nth lw_tbl 771 = some (.fieldLink RX4 28 RX4 "keptKind" "[I") := rfl
set_option maxRecDepth 100000 in
theorem w_45 : nth lw_tbl 772 = some (.fieldLink RX4 31 RX4 "keptFigure" "[I") := rfl
set_option maxRecDepth 100000 in
theorem w_46 : nth lw_tbl 773 = some (.fieldLink RX4 34 RX4 "sort" "[I") := rfl
set_option maxRecDepth 100000 in
theorem w_47 : nth lw_tbl 774 = some (.fieldLink RX4 37 RX4 "size" "[I") := rfl
set_option maxRecDepth 100000 in
theorem w_48 : nth lw_tbl 775 = some (.fieldLink RX4 40 RX4 "element" "[I") := rfl
set_option maxRecDepth 100000 in
theorem w_49 : nth lw_tbl 765 = some (.fieldLink RX4 136 RX4 "place" "I") := rfl
set_option maxRecDepth 100000 in
theorem w_50 : nth lw_tbl 767 = some (.fieldLink RX4 140 RX4 "rowEnd" "I") := rfl
set_option maxRecDepth 100000 in
theorem w_51 : nth lw_tbl 766 = some (.fieldLink RX4 143 RX4 "rowAt" "I") := rfl
set_option maxRecDepth 100000 in
theorem w_52 : nth lw_tbl 769 = some (.fieldLink RX4 263 RX4 "seed" "I") := rfl
set_option maxRecDepth 100000 in
theorem w_53 : nth lw_tbl 764 = some (.fieldLink RX4 275 RX4 "hasImage" "Z") := rfl
set_option maxRecDepth 100000 in
theorem w_54 : nth lw_tbl 776 = some (.fieldLink RX4 279 RX4 "thrown" "I") := rfl
set_option maxRecDepth 100000 in
theorem gf_0 : gfP (0, 9, 0, 0) := ⟨by decide, nth_mem w_0, rfl⟩
set_option maxRecDepth 100000 in
theorem gf_1 : gfP (0, 15, 0, 1) := ⟨by decide, nth_mem w_1, rfl⟩
set_option maxRecDepth 100000 in
theorem gf_2 : gfP (0, 18, 0, 2) := ⟨by decide, nth_mem w_2, rfl⟩
set_option maxRecDepth 100000 in
theorem gf_3 : gfP (0, 21, 0, 3) := ⟨by decide, nth_mem w_3, rfl⟩
set_option maxRecDepth 100000 in
theorem gf_4 : gfP (0, 24, 0, 4) := ⟨by decide, nth_mem w_4, rfl⟩
set_option maxRecDepth 100000 in
theorem gf_5 : gfP (0, 27, 0, 5) := ⟨by decide, nth_mem w_5, rfl⟩
set_option maxRecDepth 100000 in
theorem gf_6 : gfP (0, 31, 0, 6) := ⟨by decide, nth_mem w_6, rfl⟩
set_option maxRecDepth 100000 in
theorem gf_7 : gfP (0, 34, 0, 7) := ⟨by decide, nth_mem w_7, rfl⟩
set_option maxRecDepth 100000 in
theorem gf_8 : gfP (0, 37, 0, 8) := ⟨by decide, nth_mem w_8, rfl⟩
set_option maxRecDepth 100000 in
theorem gf_9 : gfP (1, 9, 1, 0) := ⟨by decide, nth_mem w_9, rfl⟩
set_option maxRecDepth 100000 in
theorem gf_10 : gfP (1, 21, 1, 3) := ⟨by decide, nth_mem w_10, rfl⟩
set_option maxRecDepth 100000 in
theorem gf_11 : gfP (1, 24, 1, 4) := ⟨by decide, nth_mem w_11, rfl⟩
set_option maxRecDepth 100000 in
theorem gf_12 : gfP (1, 27, 1, 5) := ⟨by decide, nth_mem w_12, rfl⟩
set_option maxRecDepth 100000 in
theorem gf_13 : gfP (2, 10, 2, 0) := ⟨by decide, nth_mem w_13, rfl⟩
set_option maxRecDepth 100000 in
theorem gf_14 : gfP (2, 16, 2, 1) := ⟨by decide, nth_mem w_14, rfl⟩
set_option maxRecDepth 100000 in
theorem gf_15 : gfP (2, 19, 2, 2) := ⟨by decide, nth_mem w_15, rfl⟩
set_option maxRecDepth 100000 in
theorem gf_16 : gfP (2, 25, 2, 3) := ⟨by decide, nth_mem w_16, rfl⟩
set_option maxRecDepth 100000 in
theorem gf_17 : gfP (2, 29, 2, 4) := ⟨by decide, nth_mem w_17, rfl⟩
set_option maxRecDepth 100000 in
theorem gf_18 : gfP (2, 33, 2, 5) := ⟨by decide, nth_mem w_18, rfl⟩
set_option maxRecDepth 100000 in
theorem gf_19 : gfP (2, 36, 2, 6) := ⟨by decide, nth_mem w_19, rfl⟩
set_option maxRecDepth 100000 in
theorem gf_20 : gfP (2, 39, 2, 7) := ⟨by decide, nth_mem w_20, rfl⟩
set_option maxRecDepth 100000 in
theorem gf_21 : gfP (2, 43, 2, 8) := ⟨by decide, nth_mem w_21, rfl⟩
set_option maxRecDepth 100000 in
theorem gf_22 : gfP (2, 46, 2, 9) := ⟨by decide, nth_mem w_22, rfl⟩
set_option maxRecDepth 100000 in
theorem gf_23 : gfP (2, 59, 1, 3) := ⟨by decide, nth_mem w_23, rfl⟩
set_option maxRecDepth 100000 in
theorem gf_24 : gfP (2, 70, 1, 4) := ⟨by decide, nth_mem w_24, rfl⟩
set_option maxRecDepth 100000 in
theorem gf_25 : gfP (2, 91, 0, 0) := ⟨by decide, nth_mem w_25, rfl⟩
set_option maxRecDepth 100000 in
theorem gf_26 : gfP (2, 94, 0, 1) := ⟨by decide, nth_mem w_26, rfl⟩
set_option maxRecDepth 100000 in
theorem gf_27 : gfP (2, 97, 0, 2) := ⟨by decide, nth_mem w_27, rfl⟩
set_option maxRecDepth 100000 in
theorem gf_28 : gfP (2, 111, 0, 8) := ⟨by decide, nth_mem w_28, rfl⟩
set_option maxRecDepth 100000 in
theorem gf_29 : gfP (2, 120, 0, 4) := ⟨by decide, nth_mem w_29, rfl⟩
set_option maxRecDepth 100000 in
theorem gf_30 : gfP (2, 126, 0, 5) := ⟨by decide, nth_mem w_30, rfl⟩
set_option maxRecDepth 100000 in
theorem gf_31 : gfP (2, 129, 1, 1) := ⟨by decide, nth_mem w_31, rfl⟩
set_option maxRecDepth 100000 in
theorem gf_32 : gfP (2, 131, 1, 2) := ⟨by decide, nth_mem w_32, rfl⟩
set_option maxRecDepth 100000 in
theorem gf_33 : gfP (2, 144, 0, 6) := ⟨by decide, nth_mem w_33, rfl⟩
set_option maxRecDepth 100000 in
theorem gf_34 : gfP (2, 163, 0, 7) := ⟨by decide, nth_mem w_34, rfl⟩
set_option maxRecDepth 100000 in
theorem gf_35 : gfP (2, 207, 0, 3) := ⟨by decide, nth_mem w_35, rfl⟩
set_option maxRecDepth 100000 in
theorem gf_36 : gfP (2, 261, 1, 0) := ⟨by decide, nth_mem w_36, rfl⟩
set_option maxRecDepth 100000 in
theorem gf_37 : gfP (2, 297, 1, 5) := ⟨by decide, nth_mem w_37, rfl⟩
set_option maxRecDepth 100000 in
theorem gf_38 : gfP (3, 9, 3, 0) := ⟨by decide, nth_mem w_38, rfl⟩
set_option maxRecDepth 100000 in
theorem gf_39 : gfP (3, 13, 3, 1) := ⟨by decide, nth_mem w_39, rfl⟩
set_option maxRecDepth 100000 in
theorem gf_40 : gfP (3, 16, 3, 2) := ⟨by decide, nth_mem w_40, rfl⟩
set_option maxRecDepth 100000 in
theorem gf_41 : gfP (3, 19, 3, 3) := ⟨by decide, nth_mem w_41, rfl⟩
set_option maxRecDepth 100000 in
theorem gf_42 : gfP (3, 22, 3, 8) := ⟨by decide, nth_mem w_42, rfl⟩
set_option maxRecDepth 100000 in
theorem gf_43 : gfP (3, 25, 3, 10) := ⟨by decide, nth_mem w_43, rfl⟩
set_option maxRecDepth 100000 in
theorem gf_44 : gfP (3, 28, 3, 11) := ⟨by decide, nth_mem w_44, rfl⟩
set_option maxRecDepth 100000 in
theorem gf_45 : gfP (3, 31, 3, 12) := ⟨by decide, nth_mem w_45, rfl⟩
set_option maxRecDepth 100000 in
theorem gf_46 : gfP (3, 34, 3, 13) := ⟨by decide, nth_mem w_46, rfl⟩
set_option maxRecDepth 100000 in
theorem gf_47 : gfP (3, 37, 3, 14) := ⟨by decide, nth_mem w_47, rfl⟩
set_option maxRecDepth 100000 in
theorem gf_48 : gfP (3, 40, 3, 15) := ⟨by decide, nth_mem w_48, rfl⟩
set_option maxRecDepth 100000 in
theorem gf_49 : gfP (3, 136, 3, 5) := ⟨by decide, nth_mem w_49, rfl⟩
set_option maxRecDepth 100000 in
theorem gf_50 : gfP (3, 140, 3, 7) := ⟨by decide, nth_mem w_50, rfl⟩
set_option maxRecDepth 100000 in
theorem gf_51 : gfP (3, 143, 3, 6) := ⟨by decide, nth_mem w_51, rfl⟩
set_option maxRecDepth 100000 in
theorem gf_52 : gfP (3, 263, 3, 9) := ⟨by decide, nth_mem w_52, rfl⟩
set_option maxRecDepth 100000 in
theorem gf_53 : gfP (3, 275, 3, 4) := ⟨by decide, nth_mem w_53, rfl⟩
set_option maxRecDepth 100000 in
theorem gf_54 : gfP (3, 279, 3, 16) := ⟨by decide, nth_mem w_54, rfl⟩
set_option maxRecDepth 100000 in
theorem gf_ok : ∀ e ∈ gfT, gfP e := List.forall_mem_cons.mpr ⟨gf_0, List.forall_mem_cons.mpr ⟨gf_1, List.forall_mem_cons.mpr ⟨gf_2, List.forall_mem_cons.mpr ⟨gf_3, List.forall_mem_cons.mpr ⟨gf_4, List.forall_mem_cons.mpr ⟨gf_5, List.forall_mem_cons.mpr ⟨gf_6, List.forall_mem_cons.mpr ⟨gf_7, List.forall_mem_cons.mpr ⟨gf_8, List.forall_mem_cons.mpr ⟨gf_9, List.forall_mem_cons.mpr ⟨gf_10, List.forall_mem_cons.mpr ⟨gf_11, List.forall_mem_cons.mpr ⟨gf_12, List.forall_mem_cons.mpr ⟨gf_13, List.forall_mem_cons.mpr ⟨gf_14, List.forall_mem_cons.mpr ⟨gf_15, List.forall_mem_cons.mpr ⟨gf_16, List.forall_mem_cons.mpr ⟨gf_17, List.forall_mem_cons.mpr ⟨gf_18, List.forall_mem_cons.mpr ⟨gf_19, List.forall_mem_cons.mpr ⟨gf_20, List.forall_mem_cons.mpr ⟨gf_21, List.forall_mem_cons.mpr ⟨gf_22, List.forall_mem_cons.mpr ⟨gf_23, List.forall_mem_cons.mpr ⟨gf_24, List.forall_mem_cons.mpr ⟨gf_25, List.forall_mem_cons.mpr ⟨gf_26, List.forall_mem_cons.mpr ⟨gf_27, List.forall_mem_cons.mpr ⟨gf_28, List.forall_mem_cons.mpr ⟨gf_29, List.forall_mem_cons.mpr ⟨gf_30, List.forall_mem_cons.mpr ⟨gf_31, List.forall_mem_cons.mpr ⟨gf_32, List.forall_mem_cons.mpr ⟨gf_33, List.forall_mem_cons.mpr ⟨gf_34, List.forall_mem_cons.mpr ⟨gf_35, List.forall_mem_cons.mpr ⟨gf_36, List.forall_mem_cons.mpr ⟨gf_37, List.forall_mem_cons.mpr ⟨gf_38, List.forall_mem_cons.mpr ⟨gf_39, List.forall_mem_cons.mpr ⟨gf_40, List.forall_mem_cons.mpr ⟨gf_41, List.forall_mem_cons.mpr ⟨gf_42, List.forall_mem_cons.mpr ⟨gf_43, List.forall_mem_cons.mpr ⟨gf_44, List.forall_mem_cons.mpr ⟨gf_45, List.forall_mem_cons.mpr ⟨gf_46, List.forall_mem_cons.mpr ⟨gf_47, List.forall_mem_cons.mpr ⟨gf_48, List.forall_mem_cons.mpr ⟨gf_49, List.forall_mem_cons.mpr ⟨gf_50, List.forall_mem_cons.mpr ⟨gf_51, List.forall_mem_cons.mpr ⟨gf_52, List.forall_mem_cons.mpr ⟨gf_53, List.forall_mem_cons.mpr ⟨gf_54, fun _ h => absurd h List.not_mem_nil⟩⟩⟩⟩⟩⟩⟩⟩⟩⟩⟩⟩⟩⟩⟩⟩⟩⟩⟩⟩⟩⟩⟩⟩⟩⟩⟩⟩⟩⟩⟩⟩⟩⟩⟩⟩⟩⟩⟩⟩⟩⟩⟩⟩⟩⟩⟩⟩⟩⟩⟩⟩⟩⟩⟩
set_option maxRecDepth 100000 in
theorem w_55 : nth lw_tbl 500 = some (.constant RX2 41 (cst 2147483648 1)) := rfl
set_option maxRecDepth 100000 in
theorem w_56 : nth lw_tbl 560 = some (.constant RX3 325 (cst 1103515245 0)) := rfl
set_option maxRecDepth 100000 in
theorem w_57 : nth lw_tbl 561 = some (.constant RX3 326 (cst 2147483647 0)) := rfl
set_option maxRecDepth 100000 in
theorem w_58 : nth lw_tbl 562 = some (.constant RX3 327 (cst 65536 0)) := rfl
set_option maxRecDepth 100000 in
theorem w_59 : nth lw_tbl 1010 = some (.constant RX4 207 (cst 1000000000 0)) := rfl
set_option maxRecDepth 100000 in
theorem w_60 : nth lw_tbl 1039 = some (.constant RX4 217 (cst 1000000000 1)) := rfl
set_option maxRecDepth 100000 in
theorem w_61 : nth lw_tbl 1094 = some (.constant RX4 233 (cst 2147483648 1)) := rfl
set_option maxRecDepth 100000 in
theorem w_62 : nth lw_tbl 1142 = some (.constant RX4 266 (cst 1103515245 0)) := rfl
set_option maxRecDepth 100000 in
theorem w_63 : nth lw_tbl 1143 = some (.constant RX4 267 (cst 2147483647 0)) := rfl
set_option maxRecDepth 100000 in
theorem w_64 : nth lw_tbl 1144 = some (.constant RX4 268 (cst 65536 0)) := rfl
set_option maxRecDepth 100000 in
theorem w_65 : nth lw_tbl 325 = some (.constant RJ6 265 (cst 1431655765 0)) := rfl
set_option maxRecDepth 100000 in
theorem w_66 : nth lw_tbl 326 = some (.constant RJ6 266 (cst 858993459 0)) := rfl
set_option maxRecDepth 100000 in
theorem w_67 : nth lw_tbl 327 = some (.constant RJ6 267 (cst 252645135 0)) := rfl
set_option maxRecDepth 100000 in
theorem ld_0 : ldP (1, 41, 2147483648, 1) := ⟨nth_mem w_55, rfl⟩
set_option maxRecDepth 100000 in
theorem ld_1 : ldP (2, 325, 1103515245, 0) := ⟨nth_mem w_56, rfl⟩
set_option maxRecDepth 100000 in
theorem ld_2 : ldP (2, 326, 2147483647, 0) := ⟨nth_mem w_57, rfl⟩
set_option maxRecDepth 100000 in
theorem ld_3 : ldP (2, 327, 65536, 0) := ⟨nth_mem w_58, rfl⟩
set_option maxRecDepth 100000 in
theorem ld_4 : ldP (3, 207, 1000000000, 0) := ⟨nth_mem w_59, rfl⟩
set_option maxRecDepth 100000 in
theorem ld_5 : ldP (3, 217, 1000000000, 1) := ⟨nth_mem w_60, rfl⟩
set_option maxRecDepth 100000 in
theorem ld_6 : ldP (3, 233, 2147483648, 1) := ⟨nth_mem w_61, rfl⟩
set_option maxRecDepth 100000 in
theorem ld_7 : ldP (3, 266, 1103515245, 0) := ⟨nth_mem w_62, rfl⟩
set_option maxRecDepth 100000 in
theorem ld_8 : ldP (3, 267, 2147483647, 0) := ⟨nth_mem w_63, rfl⟩
set_option maxRecDepth 100000 in
theorem ld_9 : ldP (3, 268, 65536, 0) := ⟨nth_mem w_64, rfl⟩
set_option maxRecDepth 100000 in
theorem ld_10 : ldP (5, 265, 1431655765, 0) := ⟨nth_mem w_65, rfl⟩
set_option maxRecDepth 100000 in
theorem ld_11 : ldP (5, 266, 858993459, 0) := ⟨nth_mem w_66, rfl⟩
set_option maxRecDepth 100000 in
theorem ld_12 : ldP (5, 267, 252645135, 0) := ⟨nth_mem w_67, rfl⟩
set_option maxRecDepth 100000 in
theorem ld_ok : ∀ e ∈ ldT, ldP e := List.forall_mem_cons.mpr ⟨ld_0, List.forall_mem_cons.mpr ⟨ld_1, List.forall_mem_cons.mpr ⟨ld_2, List.forall_mem_cons.mpr ⟨ld_3, List.forall_mem_cons.mpr ⟨ld_4, List.forall_mem_cons.mpr ⟨ld_5, List.forall_mem_cons.mpr ⟨ld_6, List.forall_mem_cons.mpr ⟨ld_7, List.forall_mem_cons.mpr ⟨ld_8, List.forall_mem_cons.mpr ⟨ld_9, List.forall_mem_cons.mpr ⟨ld_10, List.forall_mem_cons.mpr ⟨ld_11, List.forall_mem_cons.mpr ⟨ld_12, fun _ h => absurd h List.not_mem_nil⟩⟩⟩⟩⟩⟩⟩⟩⟩⟩⟩⟩⟩
set_option maxRecDepth 100000 in
theorem w_68 : nth lw_tbl 525 = some (.constantLong RX3 242 (lcst 1000000001)) := rfl
set_option maxRecDepth 100000 in
theorem w_69 : nth lw_tbl 1111 = some (.constantLong RX4 257 (lcst 1000000001)) := rfl
set_option maxRecDepth 100000 in
theorem ll_0 : llP (2, 242, 1000000001) := ⟨nth_mem w_68, rfl⟩
set_option maxRecDepth 100000 in
theorem ll_1 : llP (3, 257, 1000000001) := ⟨nth_mem w_69, rfl⟩
set_option maxRecDepth 100000 in
theorem ll_ok : ∀ e ∈ llT, llP e := List.forall_mem_cons.mpr ⟨ll_0, List.forall_mem_cons.mpr ⟨ll_1, fun _ h => absurd h List.not_mem_nil⟩⟩
set_option maxRecDepth 100000 in
theorem w_70 : nth lw_tbl 202 = some (.methodLink RX0 46 arraycopyName) := rfl
set_option maxRecDepth 100000 in
theorem w_71 : nth lw_tbl 606 = some (.methodLink RX3 300 arraycopyName) := rfl
set_option maxRecDepth 100000 in
theorem ac_0 : acP (0, 46) := ⟨nth_mem w_70, rfl⟩
set_option maxRecDepth 100000 in
theorem ac_1 : acP (2, 300) := ⟨nth_mem w_71, rfl⟩
set_option maxRecDepth 100000 in
theorem ac_ok : ∀ e ∈ acT, acP e := List.forall_mem_cons.mpr ⟨ac_0, List.forall_mem_cons.mpr ⟨ac_1, fun _ h => absurd h List.not_mem_nil⟩⟩
set_option maxRecDepth 100000 in
theorem w_72 : nth lw_tbl 334 = some (.methodLink RX3 81 Lib.Math.max.name) := rfl
set_option maxRecDepth 100000 in
theorem mx_0 : mxP (2, 81) := ⟨nth_mem w_72, rfl⟩
set_option maxRecDepth 100000 in
theorem mx_ok : ∀ e ∈ mxT, mxP e := List.forall_mem_cons.mpr ⟨mx_0, fun _ h => absurd h List.not_mem_nil⟩
set_option maxRecDepth 100000 in
theorem w_73 : nth lw_tbl 335 = some (.static Lib.Math.max.name) := rfl
set_option maxRecDepth 100000 in
theorem w_74 : nth lw_tbl 44 = some (.initialized "java/lang/Math") := rfl
set_option maxRecDepth 100000 in
theorem mxw_ok : InT (.static Lib.Math.max.name) ∧ InT (.initialized "java/lang/Math") ∧ InT (.code Lib.Math.max.name Lib.Math.max.code 2 (some .int)) := ⟨⟨nth_mem w_73, rfl⟩, ⟨nth_mem w_74, rfl⟩, nth_mem (k := 336) rfl, rfl⟩
set_option maxRecDepth 100000 in
theorem w_75 : nth lw_tbl 204 = some (.native arraycopyName) := rfl
set_option maxRecDepth 100000 in
theorem w_76 : nth lw_tbl 203 = some (.static arraycopyName) := rfl
set_option maxRecDepth 100000 in
theorem w_77 : nth lw_tbl 41 = some (.initialized "java/lang/System") := rfl
set_option maxRecDepth 100000 in
theorem acw_ok : InT (.native arraycopyName) ∧ InT (.static arraycopyName) ∧ InT (.initialized "java/lang/System") := ⟨⟨nth_mem w_75, rfl⟩, ⟨nth_mem w_76, rfl⟩, ⟨nth_mem w_77, rfl⟩⟩
set_option maxRecDepth 100000 in
theorem w_78 : nth lw_tbl 322 = some (.methodLink RX0 100 yJ6_bitCount_0f7a4) := rfl
set_option maxRecDepth 100000 in
theorem w_79 : nth lw_tbl 43 = some (.initialized RJ6) := rfl
set_option maxRecDepth 100000 in
theorem w_80 : nth lw_tbl 323 = some (.static yJ6_bitCount_0f7a4) := rfl
set_option maxRecDepth 100000 in
theorem w_81 : nth lw_tbl 319 = some (.methodLink RX0 109 yX1_earsWith) := rfl
set_option maxRecDepth 100000 in
theorem w_82 : nth lw_tbl 42 = some (.initialized RX1) := rfl
set_option maxRecDepth 100000 in
theorem w_83 : nth lw_tbl 320 = some (.static yX1_earsWith) := rfl
set_option maxRecDepth 100000 in
theorem w_84 : nth lw_tbl 405 = some (.methodLink RX0 139 yX1_worthWith) := rfl
set_option maxRecDepth 100000 in
theorem w_85 : nth lw_tbl 348 = some (.static yX1_worthWith) := rfl
set_option maxRecDepth 100000 in
theorem w_86 : nth lw_tbl 589 = some (.methodLink RX2 31 yJ7_fill_53178) := rfl
set_option maxRecDepth 100000 in
theorem w_87 : nth lw_tbl 38 = some (.initialized RJ7) := rfl
set_option maxRecDepth 100000 in
theorem w_88 : nth lw_tbl 67 = some (.static yJ7_fill_53178) := rfl
set_option maxRecDepth 100000 in
theorem w_89 : nth lw_tbl 179 = some (.methodLink RX3 55 yX3_refusalUnless) := rfl
set_option maxRecDepth 100000 in
theorem w_90 : nth lw_tbl 36 = some (.initialized RX3) := rfl
set_option maxRecDepth 100000 in
theorem w_91 : nth lw_tbl 180 = some (.static yX3_refusalUnless) := rfl
set_option maxRecDepth 100000 in
theorem w_92 : nth lw_tbl 346 = some (.methodLink RX3 103 yX1_earsWith) := rfl
set_option maxRecDepth 100000 in
theorem w_93 : nth lw_tbl 347 = some (.methodLink RX3 108 yX1_worthWith) := rfl
set_option maxRecDepth 100000 in
theorem w_94 : nth lw_tbl 355 = some (.methodLink RX3 117 yX3_isSquare) := rfl
set_option maxRecDepth 100000 in
theorem w_95 : nth lw_tbl 245 = some (.static yX3_isSquare) := rfl
set_option maxRecDepth 100000 in
theorem w_96 : nth lw_tbl 360 = some (.methodLink RX3 123 yX3_isSide) := rfl
set_option maxRecDepth 100000 in
theorem w_97 : nth lw_tbl 230 = some (.static yX3_isSide) := rfl
set_option maxRecDepth 100000 in
theorem w_98 : nth lw_tbl 426 = some (.methodLink RX3 187 yJ6_bitCount_0f7a4) := rfl
set_option maxRecDepth 100000 in
theorem w_99 : nth lw_tbl 458 = some (.methodLink RX3 210 yX3_far) := rfl
set_option maxRecDepth 100000 in
theorem w_100 : nth lw_tbl 309 = some (.static yX3_far) := rfl
set_option maxRecDepth 100000 in
theorem w_101 : nth lw_tbl 526 = some (.methodLink RX3 244 yX3_waysToBeThere) := rfl
set_option maxRecDepth 100000 in
theorem w_102 : nth lw_tbl 527 = some (.static yX3_waysToBeThere) := rfl
set_option maxRecDepth 100000 in
theorem w_103 : nth lw_tbl 529 = some (.methodLink RX3 248 yX3_partInLeastTerms) := rfl
set_option maxRecDepth 100000 in
theorem w_104 : nth lw_tbl 530 = some (.static yX3_partInLeastTerms) := rfl
set_option maxRecDepth 100000 in
theorem w_105 : nth lw_tbl 579 = some (.methodLink RX3 264 yX3_isKind) := rfl
set_option maxRecDepth 100000 in
theorem w_106 : nth lw_tbl 224 = some (.static yX3_isKind) := rfl
set_option maxRecDepth 100000 in
theorem w_107 : nth lw_tbl 580 = some (.methodLink RX3 267 yX3_isFigure) := rfl
set_option maxRecDepth 100000 in
theorem w_108 : nth lw_tbl 227 = some (.static yX3_isFigure) := rfl
set_option maxRecDepth 100000 in
theorem w_109 : nth lw_tbl 611 = some (.methodLink RX3 306 yX1_costWith) := rfl
set_option maxRecDepth 100000 in
theorem w_110 : nth lw_tbl 612 = some (.static yX1_costWith) := rfl
set_option maxRecDepth 100000 in
theorem w_111 : nth lw_tbl 823 = some (.methodLink RX4 43 yX4_isIn) := rfl
set_option maxRecDepth 100000 in
theorem w_112 : nth lw_tbl 40 = some (.initialized RX4) := rfl
set_option maxRecDepth 100000 in
theorem w_113 : nth lw_tbl 824 = some (.static yX4_isIn) := rfl
set_option maxRecDepth 100000 in
theorem w_114 : nth lw_tbl 854 = some (.methodLink RX4 51 yX4_of) := rfl
set_option maxRecDepth 100000 in
theorem w_115 : nth lw_tbl 855 = some (.static yX4_of) := rfl
set_option maxRecDepth 100000 in
theorem w_116 : nth lw_tbl 851 = some (.methodLink RX4 55 yX4_onSquare) := rfl
set_option maxRecDepth 100000 in
theorem w_117 : nth lw_tbl 852 = some (.static yX4_onSquare) := rfl
set_option maxRecDepth 100000 in
theorem w_118 : nth lw_tbl 917 = some (.methodLink RX4 59 yX4_sized) := rfl
set_option maxRecDepth 100000 in
theorem w_119 : nth lw_tbl 918 = some (.static yX4_sized) := rfl
set_option maxRecDepth 100000 in
theorem w_120 : nth lw_tbl 890 = some (.methodLink RX4 63 yX4_forward) := rfl
set_option maxRecDepth 100000 in
theorem w_121 : nth lw_tbl 891 = some (.static yX4_forward) := rfl
set_option maxRecDepth 100000 in
theorem w_122 : nth lw_tbl 893 = some (.methodLink RX4 66 yX4_squareOn) := rfl
set_option maxRecDepth 100000 in
theorem w_123 : nth lw_tbl 894 = some (.static yX4_squareOn) := rfl
set_option maxRecDepth 100000 in
theorem w_124 : nth lw_tbl 905 = some (.methodLink RX4 70 yX4_isFree) := rfl
set_option maxRecDepth 100000 in
theorem w_125 : nth lw_tbl 906 = some (.static yX4_isFree) := rfl
set_option maxRecDepth 100000 in
theorem w_126 : nth lw_tbl 899 = some (.methodLink RX4 74 yX4_isOfSide) := rfl
set_option maxRecDepth 100000 in
theorem w_127 : nth lw_tbl 900 = some (.static yX4_isOfSide) := rfl
set_option maxRecDepth 100000 in
theorem w_128 : nth lw_tbl 869 = some (.methodLink RX4 78 yX4_isHere) := rfl
set_option maxRecDepth 100000 in
theorem w_129 : nth lw_tbl 870 = some (.static yX4_isHere) := rfl
set_option maxRecDepth 100000 in
theorem w_130 : nth lw_tbl 914 = some (.methodLink RX4 81 yX4_farOf) := rfl
set_option maxRecDepth 100000 in
theorem w_131 : nth lw_tbl 915 = some (.static yX4_farOf) := rfl
set_option maxRecDepth 100000 in
theorem w_132 : nth lw_tbl 884 = some (.methodLink RX4 84 yX4_has) := rfl
set_option maxRecDepth 100000 in
theorem w_133 : nth lw_tbl 885 = some (.static yX4_has) := rfl
set_option maxRecDepth 100000 in
theorem w_134 : nth lw_tbl 896 = some (.methodLink RX4 88 yX4_knightIdea) := rfl
set_option maxRecDepth 100000 in
theorem w_135 : nth lw_tbl 897 = some (.static yX4_knightIdea) := rfl
set_option maxRecDepth 100000 in
theorem w_136 : nth lw_tbl 902 = some (.methodLink RX4 91 yX4_slideIdea) := rfl
set_option maxRecDepth 100000 in
theorem w_137 : nth lw_tbl 903 = some (.static yX4_slideIdea) := rfl
set_option maxRecDepth 100000 in
theorem w_138 : nth lw_tbl 908 = some (.methodLink RX4 95 yX4_bishopIdea) := rfl
set_option maxRecDepth 100000 in
theorem w_139 : nth lw_tbl 909 = some (.static yX4_bishopIdea) := rfl
set_option maxRecDepth 100000 in
theorem w_140 : nth lw_tbl 911 = some (.methodLink RX4 99 yX4_kingIdea) := rfl
set_option maxRecDepth 100000 in
theorem w_141 : nth lw_tbl 912 = some (.static yX4_kingIdea) := rfl
set_option maxRecDepth 100000 in
theorem w_142 : nth lw_tbl 920 = some (.methodLink RX4 102 yX4_pawnIdea) := rfl
set_option maxRecDepth 100000 in
theorem w_143 : nth lw_tbl 921 = some (.static yX4_pawnIdea) := rfl
set_option maxRecDepth 100000 in
theorem w_144 : nth lw_tbl 929 = some (.methodLink RX4 105 yX4_earsBy) := rfl
set_option maxRecDepth 100000 in
theorem w_145 : nth lw_tbl 930 = some (.static yX4_earsBy) := rfl
set_option maxRecDepth 100000 in
theorem w_146 : nth lw_tbl 926 = some (.methodLink RX4 108 yX4_doesHear) := rfl
set_option maxRecDepth 100000 in
theorem w_147 : nth lw_tbl 927 = some (.static yX4_doesHear) := rfl
set_option maxRecDepth 100000 in
theorem w_148 : nth lw_tbl 942 = some (.methodLink RX4 111 yX4_worthBy) := rfl
set_option maxRecDepth 100000 in
theorem w_149 : nth lw_tbl 943 = some (.static yX4_worthBy) := rfl
set_option maxRecDepth 100000 in
theorem w_150 : nth lw_tbl 881 = some (.methodLink RX4 114 yX4_ofSide) := rfl
set_option maxRecDepth 100000 in
theorem w_151 : nth lw_tbl 882 = some (.static yX4_ofSide) := rfl
set_option maxRecDepth 100000 in
theorem w_152 : nth lw_tbl 887 = some (.methodLink RX4 117 yX4_idea) := rfl
set_option maxRecDepth 100000 in
theorem w_153 : nth lw_tbl 888 = some (.static yX4_idea) := rfl
set_option maxRecDepth 100000 in
theorem w_154 : nth lw_tbl 923 = some (.methodLink RX4 120 yX4_heardBy) := rfl
set_option maxRecDepth 100000 in
theorem w_155 : nth lw_tbl 924 = some (.static yX4_heardBy) := rfl
set_option maxRecDepth 100000 in
theorem w_156 : nth lw_tbl 932 = some (.methodLink RX4 123 yX4_bits) := rfl
set_option maxRecDepth 100000 in
theorem w_157 : nth lw_tbl 933 = some (.static yX4_bits) := rfl
set_option maxRecDepth 100000 in
theorem w_158 : nth lw_tbl 878 = some (.methodLink RX4 126 yX4_goesOn) := rfl
set_option maxRecDepth 100000 in
theorem w_159 : nth lw_tbl 879 = some (.static yX4_goesOn) := rfl
set_option maxRecDepth 100000 in
theorem w_160 : nth lw_tbl 935 = some (.methodLink RX4 129 yX4_least) := rfl
set_option maxRecDepth 100000 in
theorem w_161 : nth lw_tbl 936 = some (.static yX4_least) := rfl
set_option maxRecDepth 100000 in
theorem w_162 : nth lw_tbl 875 = some (.methodLink RX4 132 yX4_day) := rfl
set_option maxRecDepth 100000 in
theorem w_163 : nth lw_tbl 876 = some (.static yX4_day) := rfl
set_option maxRecDepth 100000 in
theorem w_164 : nth lw_tbl 845 = some (.methodLink RX4 153 yX4_isSide) := rfl
set_option maxRecDepth 100000 in
theorem w_165 : nth lw_tbl 846 = some (.static yX4_isSide) := rfl
set_option maxRecDepth 100000 in
theorem w_166 : nth lw_tbl 848 = some (.methodLink RX4 156 yX4_isSquare) := rfl
set_option maxRecDepth 100000 in
theorem w_167 : nth lw_tbl 849 = some (.static yX4_isSquare) := rfl
set_option maxRecDepth 100000 in
theorem w_168 : nth lw_tbl 872 = some (.methodLink RX4 166 yX4_daysOn) := rfl
set_option maxRecDepth 100000 in
theorem w_169 : nth lw_tbl 873 = some (.static yX4_daysOn) := rfl
set_option maxRecDepth 100000 in
theorem w_170 : nth lw_tbl 838 = some (.methodLink RX4 177 yX4_copies) := rfl
set_option maxRecDepth 100000 in
theorem w_171 : nth lw_tbl 839 = some (.static yX4_copies) := rfl
set_option maxRecDepth 100000 in
theorem w_172 : nth lw_tbl 981 = some (.methodLink RX4 193 yX4_hereIn) := rfl
set_option maxRecDepth 100000 in
theorem w_173 : nth lw_tbl 982 = some (.static yX4_hereIn) := rfl
set_option maxRecDepth 100000 in
theorem w_174 : nth lw_tbl 988 = some (.methodLink RX4 197 yX4_isLate) := rfl
set_option maxRecDepth 100000 in
theorem w_175 : nth lw_tbl 989 = some (.static yX4_isLate) := rfl
set_option maxRecDepth 100000 in
theorem w_176 : nth lw_tbl 999 = some (.methodLink RX4 204 yX4_worthOf) := rfl
set_option maxRecDepth 100000 in
theorem w_177 : nth lw_tbl 1000 = some (.static yX4_worthOf) := rfl
set_option maxRecDepth 100000 in
theorem w_178 : nth lw_tbl 1091 = some (.methodLink RX4 234 yX4_leastOf) := rfl
set_option maxRecDepth 100000 in
theorem w_179 : nth lw_tbl 1092 = some (.static yX4_leastOf) := rfl
set_option maxRecDepth 100000 in
theorem w_180 : nth lw_tbl 1084 = some (.methodLink RX4 237 yX4_toldSquare) := rfl
set_option maxRecDepth 100000 in
theorem w_181 : nth lw_tbl 1085 = some (.static yX4_toldSquare) := rfl
set_option maxRecDepth 100000 in
theorem w_182 : nth lw_tbl 820 = some (.methodLink RX4 246 yX4_isShelf) := rfl
set_option maxRecDepth 100000 in
theorem w_183 : nth lw_tbl 821 = some (.static yX4_isShelf) := rfl
set_option maxRecDepth 100000 in
theorem w_184 : nth lw_tbl 1115 = some (.methodLink RX4 253 yX4_gcd) := rfl
set_option maxRecDepth 100000 in
theorem w_185 : nth lw_tbl 1116 = some (.static yX4_gcd) := rfl
set_option maxRecDepth 100000 in
theorem w_186 : nth lw_tbl 1112 = some (.methodLink RX4 259 yX4_partOf) := rfl
set_option maxRecDepth 100000 in
theorem w_187 : nth lw_tbl 1113 = some (.static yX4_partOf) := rfl
set_option maxRecDepth 100000 in
theorem w_188 : nth lw_tbl 1185 = some (.methodLink RX4 282 yX4_costBy) := rfl
set_option maxRecDepth 100000 in
theorem w_189 : nth lw_tbl 1186 = some (.static yX4_costBy) := rfl
set_option maxRecDepth 100000 in
theorem cs_0 : csP (0, 100, 28, 1) := ⟨iJ6_bitCount_0f7a4, rfl, ⟨nth_mem w_78, rfl⟩, ⟨nth_mem w_80, rfl⟩, ⟨nth_mem w_79, rfl⟩, by decide +kernel⟩
set_option maxRecDepth 100000 in
theorem cs_1 : csP (0, 109, 26, 2) := ⟨iX1_earsWith, rfl, ⟨nth_mem w_81, rfl⟩, ⟨nth_mem w_83, rfl⟩, ⟨nth_mem w_82, rfl⟩, by decide +kernel⟩
set_option maxRecDepth 100000 in
theorem cs_2 : csP (0, 139, 36, 2) := ⟨iX1_worthWith, rfl, ⟨nth_mem w_84, rfl⟩, ⟨nth_mem w_85, rfl⟩, ⟨nth_mem w_82, rfl⟩, by decide +kernel⟩
set_option maxRecDepth 100000 in
theorem cs_3 : csP (1, 31, 46, 2) := ⟨iJ7_fill_53178, rfl, ⟨nth_mem w_86, rfl⟩, ⟨nth_mem w_88, rfl⟩, ⟨nth_mem w_87, rfl⟩, by decide +kernel⟩
set_option maxRecDepth 100000 in
theorem cs_4 : csP (2, 55, 58, 2) := ⟨iX3_refusalUnless, rfl, ⟨nth_mem w_89, rfl⟩, ⟨nth_mem w_91, rfl⟩, ⟨nth_mem w_90, rfl⟩, by decide +kernel⟩
set_option maxRecDepth 100000 in
theorem cs_5 : csP (2, 103, 26, 2) := ⟨iX1_earsWith, rfl, ⟨nth_mem w_92, rfl⟩, ⟨nth_mem w_83, rfl⟩, ⟨nth_mem w_82, rfl⟩, by decide +kernel⟩
set_option maxRecDepth 100000 in
theorem cs_6 : csP (2, 108, 36, 2) := ⟨iX1_worthWith, rfl, ⟨nth_mem w_93, rfl⟩, ⟨nth_mem w_85, rfl⟩, ⟨nth_mem w_82, rfl⟩, by decide +kernel⟩
set_option maxRecDepth 100000 in
theorem cs_7 : csP (2, 117, 12, 1) := ⟨iX3_isSquare, rfl, ⟨nth_mem w_94, rfl⟩, ⟨nth_mem w_95, rfl⟩, ⟨nth_mem w_90, rfl⟩, by decide +kernel⟩
set_option maxRecDepth 100000 in
theorem cs_8 : csP (2, 123, 10, 1) := ⟨iX3_isSide, rfl, ⟨nth_mem w_96, rfl⟩, ⟨nth_mem w_97, rfl⟩, ⟨nth_mem w_90, rfl⟩, by decide +kernel⟩
set_option maxRecDepth 100000 in
theorem cs_9 : csP (2, 187, 28, 1) := ⟨iJ6_bitCount_0f7a4, rfl, ⟨nth_mem w_98, rfl⟩, ⟨nth_mem w_80, rfl⟩, ⟨nth_mem w_79, rfl⟩, by decide +kernel⟩
set_option maxRecDepth 100000 in
theorem cs_10 : csP (2, 210, 22, 2) := ⟨iX3_far, rfl, ⟨nth_mem w_99, rfl⟩, ⟨nth_mem w_100, rfl⟩, ⟨nth_mem w_90, rfl⟩, by decide +kernel⟩
set_option maxRecDepth 100000 in
theorem cs_11 : csP (2, 244, 88, 5) := ⟨iX3_waysToBeThere, rfl, ⟨nth_mem w_101, rfl⟩, ⟨nth_mem w_102, rfl⟩, ⟨nth_mem w_90, rfl⟩, by decide +kernel⟩
set_option maxRecDepth 100000 in
theorem cs_12 : csP (2, 248, 89, 3) := ⟨iX3_partInLeastTerms, rfl, ⟨nth_mem w_103, rfl⟩, ⟨nth_mem w_104, rfl⟩, ⟨nth_mem w_90, rfl⟩, by decide +kernel⟩
set_option maxRecDepth 100000 in
theorem cs_13 : csP (2, 264, 8, 1) := ⟨iX3_isKind, rfl, ⟨nth_mem w_105, rfl⟩, ⟨nth_mem w_106, rfl⟩, ⟨nth_mem w_90, rfl⟩, by decide +kernel⟩
set_option maxRecDepth 100000 in
theorem cs_14 : csP (2, 267, 9, 1) := ⟨iX3_isFigure, rfl, ⟨nth_mem w_107, rfl⟩, ⟨nth_mem w_108, rfl⟩, ⟨nth_mem w_90, rfl⟩, by decide +kernel⟩
set_option maxRecDepth 100000 in
theorem cs_15 : csP (2, 306, 45, 2) := ⟨iX1_costWith, rfl, ⟨nth_mem w_109, rfl⟩, ⟨nth_mem w_110, rfl⟩, ⟨nth_mem w_82, rfl⟩, by decide +kernel⟩
set_option maxRecDepth 100000 in
theorem cs_16 : csP (3, 43, 105, 3) := ⟨iX4_isIn, rfl, ⟨nth_mem w_111, rfl⟩, ⟨nth_mem w_113, rfl⟩, ⟨nth_mem w_112, rfl⟩, by decide +kernel⟩
set_option maxRecDepth 100000 in
theorem cs_17 : csP (3, 51, 109, 2) := ⟨iX4_of, rfl, ⟨nth_mem w_114, rfl⟩, ⟨nth_mem w_115, rfl⟩, ⟨nth_mem w_112, rfl⟩, by decide +kernel⟩
set_option maxRecDepth 100000 in
theorem cs_18 : csP (3, 55, 117, 2) := ⟨iX4_onSquare, rfl, ⟨nth_mem w_116, rfl⟩, ⟨nth_mem w_117, rfl⟩, ⟨nth_mem w_112, rfl⟩, by decide +kernel⟩
set_option maxRecDepth 100000 in
theorem cs_19 : csP (3, 59, 106, 1) := ⟨iX4_sized, rfl, ⟨nth_mem w_118, rfl⟩, ⟨nth_mem w_119, rfl⟩, ⟨nth_mem w_112, rfl⟩, by decide +kernel⟩
set_option maxRecDepth 100000 in
theorem cs_20 : csP (3, 63, 122, 2) := ⟨iX4_forward, rfl, ⟨nth_mem w_120, rfl⟩, ⟨nth_mem w_121, rfl⟩, ⟨nth_mem w_112, rfl⟩, by decide +kernel⟩
set_option maxRecDepth 100000 in
theorem cs_21 : csP (3, 66, 118, 3) := ⟨iX4_squareOn, rfl, ⟨nth_mem w_122, rfl⟩, ⟨nth_mem w_123, rfl⟩, ⟨nth_mem w_112, rfl⟩, by decide +kernel⟩
set_option maxRecDepth 100000 in
theorem cs_22 : csP (3, 70, 119, 2) := ⟨iX4_isFree, rfl, ⟨nth_mem w_124, rfl⟩, ⟨nth_mem w_125, rfl⟩, ⟨nth_mem w_112, rfl⟩, by decide +kernel⟩
set_option maxRecDepth 100000 in
theorem cs_23 : csP (3, 74, 120, 3) := ⟨iX4_isOfSide, rfl, ⟨nth_mem w_126, rfl⟩, ⟨nth_mem w_127, rfl⟩, ⟨nth_mem w_112, rfl⟩, by decide +kernel⟩
set_option maxRecDepth 100000 in
theorem cs_24 : csP (3, 78, 114, 2) := ⟨iX4_isHere, rfl, ⟨nth_mem w_128, rfl⟩, ⟨nth_mem w_129, rfl⟩, ⟨nth_mem w_112, rfl⟩, by decide +kernel⟩
set_option maxRecDepth 100000 in
theorem cs_25 : csP (3, 81, 121, 2) := ⟨iX4_farOf, rfl, ⟨nth_mem w_130, rfl⟩, ⟨nth_mem w_131, rfl⟩, ⟨nth_mem w_112, rfl⟩, by decide +kernel⟩
set_option maxRecDepth 100000 in
theorem cs_26 : csP (3, 84, 115, 2) := ⟨iX4_has, rfl, ⟨nth_mem w_132, rfl⟩, ⟨nth_mem w_133, rfl⟩, ⟨nth_mem w_112, rfl⟩, by decide +kernel⟩
set_option maxRecDepth 100000 in
theorem cs_27 : csP (3, 88, 124, 2) := ⟨iX4_knightIdea, rfl, ⟨nth_mem w_134, rfl⟩, ⟨nth_mem w_135, rfl⟩, ⟨nth_mem w_112, rfl⟩, by decide +kernel⟩
set_option maxRecDepth 100000 in
theorem cs_28 : csP (3, 91, 125, 4) := ⟨iX4_slideIdea, rfl, ⟨nth_mem w_136, rfl⟩, ⟨nth_mem w_137, rfl⟩, ⟨nth_mem w_112, rfl⟩, by decide +kernel⟩
set_option maxRecDepth 100000 in
theorem cs_29 : csP (3, 95, 126, 3) := ⟨iX4_bishopIdea, rfl, ⟨nth_mem w_138, rfl⟩, ⟨nth_mem w_139, rfl⟩, ⟨nth_mem w_112, rfl⟩, by decide +kernel⟩
set_option maxRecDepth 100000 in
theorem cs_30 : csP (3, 99, 127, 2) := ⟨iX4_kingIdea, rfl, ⟨nth_mem w_140, rfl⟩, ⟨nth_mem w_141, rfl⟩, ⟨nth_mem w_112, rfl⟩, by decide +kernel⟩
set_option maxRecDepth 100000 in
theorem cs_31 : csP (3, 102, 123, 2) := ⟨iX4_pawnIdea, rfl, ⟨nth_mem w_142, rfl⟩, ⟨nth_mem w_143, rfl⟩, ⟨nth_mem w_112, rfl⟩, by decide +kernel⟩
set_option maxRecDepth 100000 in
theorem cs_32 : csP (3, 105, 129, 2) := ⟨iX4_earsBy, rfl, ⟨nth_mem w_144, rfl⟩, ⟨nth_mem w_145, rfl⟩, ⟨nth_mem w_112, rfl⟩, by decide +kernel⟩
set_option maxRecDepth 100000 in
theorem cs_33 : csP (3, 108, 131, 3) := ⟨iX4_doesHear, rfl, ⟨nth_mem w_146, rfl⟩, ⟨nth_mem w_147, rfl⟩, ⟨nth_mem w_112, rfl⟩, by decide +kernel⟩
set_option maxRecDepth 100000 in
theorem cs_34 : csP (3, 111, 130, 2) := ⟨iX4_worthBy, rfl, ⟨nth_mem w_148, rfl⟩, ⟨nth_mem w_149, rfl⟩, ⟨nth_mem w_112, rfl⟩, by decide +kernel⟩
set_option maxRecDepth 100000 in
theorem cs_35 : csP (3, 114, 134, 2) := ⟨iX4_ofSide, rfl, ⟨nth_mem w_150, rfl⟩, ⟨nth_mem w_151, rfl⟩, ⟨nth_mem w_112, rfl⟩, by decide +kernel⟩
set_option maxRecDepth 100000 in
theorem cs_36 : csP (3, 117, 128, 3) := ⟨iX4_idea, rfl, ⟨nth_mem w_152, rfl⟩, ⟨nth_mem w_153, rfl⟩, ⟨nth_mem w_112, rfl⟩, by decide +kernel⟩
set_option maxRecDepth 100000 in
theorem cs_37 : csP (3, 120, 132, 2) := ⟨iX4_heardBy, rfl, ⟨nth_mem w_154, rfl⟩, ⟨nth_mem w_155, rfl⟩, ⟨nth_mem w_112, rfl⟩, by decide +kernel⟩
set_option maxRecDepth 100000 in
theorem cs_38 : csP (3, 123, 116, 1) := ⟨iX4_bits, rfl, ⟨nth_mem w_156, rfl⟩, ⟨nth_mem w_157, rfl⟩, ⟨nth_mem w_112, rfl⟩, by decide +kernel⟩
set_option maxRecDepth 100000 in
theorem cs_39 : csP (3, 126, 136, 2) := ⟨iX4_goesOn, rfl, ⟨nth_mem w_158, rfl⟩, ⟨nth_mem w_159, rfl⟩, ⟨nth_mem w_112, rfl⟩, by decide +kernel⟩
set_option maxRecDepth 100000 in
theorem cs_40 : csP (3, 129, 107, 2) := ⟨iX4_least, rfl, ⟨nth_mem w_160, rfl⟩, ⟨nth_mem w_161, rfl⟩, ⟨nth_mem w_112, rfl⟩, by decide +kernel⟩
set_option maxRecDepth 100000 in
theorem cs_41 : csP (3, 132, 137, 1) := ⟨iX4_day, rfl, ⟨nth_mem w_162, rfl⟩, ⟨nth_mem w_163, rfl⟩, ⟨nth_mem w_112, rfl⟩, by decide +kernel⟩
set_option maxRecDepth 100000 in
theorem cs_42 : csP (3, 153, 113, 1) := ⟨iX4_isSide, rfl, ⟨nth_mem w_164, rfl⟩, ⟨nth_mem w_165, rfl⟩, ⟨nth_mem w_112, rfl⟩, by decide +kernel⟩
set_option maxRecDepth 100000 in
theorem cs_43 : csP (3, 156, 112, 1) := ⟨iX4_isSquare, rfl, ⟨nth_mem w_166, rfl⟩, ⟨nth_mem w_167, rfl⟩, ⟨nth_mem w_112, rfl⟩, by decide +kernel⟩
set_option maxRecDepth 100000 in
theorem cs_44 : csP (3, 166, 138, 2) := ⟨iX4_daysOn, rfl, ⟨nth_mem w_168, rfl⟩, ⟨nth_mem w_169, rfl⟩, ⟨nth_mem w_112, rfl⟩, by decide +kernel⟩
set_option maxRecDepth 100000 in
theorem cs_45 : csP (3, 177, 108, 2) := ⟨iX4_copies, rfl, ⟨nth_mem w_170, rfl⟩, ⟨nth_mem w_171, rfl⟩, ⟨nth_mem w_112, rfl⟩, by decide +kernel⟩
set_option maxRecDepth 100000 in
theorem cs_46 : csP (3, 193, 133, 1) := ⟨iX4_hereIn, rfl, ⟨nth_mem w_172, rfl⟩, ⟨nth_mem w_173, rfl⟩, ⟨nth_mem w_112, rfl⟩, by decide +kernel⟩
set_option maxRecDepth 100000 in
theorem cs_47 : csP (3, 197, 158, 1) := ⟨iX4_isLate, rfl, ⟨nth_mem w_174, rfl⟩, ⟨nth_mem w_175, rfl⟩, ⟨nth_mem w_112, rfl⟩, by decide +kernel⟩
set_option maxRecDepth 100000 in
theorem cs_48 : csP (3, 204, 135, 2) := ⟨iX4_worthOf, rfl, ⟨nth_mem w_176, rfl⟩, ⟨nth_mem w_177, rfl⟩, ⟨nth_mem w_112, rfl⟩, by decide +kernel⟩
set_option maxRecDepth 100000 in
theorem cs_49 : csP (3, 234, 179, 1) := ⟨iX4_leastOf, rfl, ⟨nth_mem w_178, rfl⟩, ⟨nth_mem w_179, rfl⟩, ⟨nth_mem w_112, rfl⟩, by decide +kernel⟩
set_option maxRecDepth 100000 in
theorem cs_50 : csP (3, 237, 181, 2) := ⟨iX4_toldSquare, rfl, ⟨nth_mem w_180, rfl⟩, ⟨nth_mem w_181, rfl⟩, ⟨nth_mem w_112, rfl⟩, by decide +kernel⟩
set_option maxRecDepth 100000 in
theorem cs_51 : csP (3, 246, 145, 1) := ⟨iX4_isShelf, rfl, ⟨nth_mem w_182, rfl⟩, ⟨nth_mem w_183, rfl⟩, ⟨nth_mem w_112, rfl⟩, by decide +kernel⟩
set_option maxRecDepth 100000 in
theorem cs_52 : csP (3, 253, 187, 2) := ⟨iX4_gcd, rfl, ⟨nth_mem w_184, rfl⟩, ⟨nth_mem w_185, rfl⟩, ⟨nth_mem w_112, rfl⟩, by decide +kernel⟩
set_option maxRecDepth 100000 in
theorem cs_53 : csP (3, 259, 188, 3) := ⟨iX4_partOf, rfl, ⟨nth_mem w_186, rfl⟩, ⟨nth_mem w_187, rfl⟩, ⟨nth_mem w_112, rfl⟩, by decide +kernel⟩
set_option maxRecDepth 100000 in
theorem cs_54 : csP (3, 282, 205, 2) := ⟨iX4_costBy, rfl, ⟨nth_mem w_188, rfl⟩, ⟨nth_mem w_189, rfl⟩, ⟨nth_mem w_112, rfl⟩, by decide +kernel⟩
set_option maxRecDepth 100000 in
theorem cs_ok : ∀ e ∈ csT, csP e := List.forall_mem_cons.mpr ⟨cs_0, List.forall_mem_cons.mpr ⟨cs_1, List.forall_mem_cons.mpr ⟨cs_2, List.forall_mem_cons.mpr ⟨cs_3, List.forall_mem_cons.mpr ⟨cs_4, List.forall_mem_cons.mpr ⟨cs_5, List.forall_mem_cons.mpr ⟨cs_6, List.forall_mem_cons.mpr ⟨cs_7, List.forall_mem_cons.mpr ⟨cs_8, List.forall_mem_cons.mpr ⟨cs_9, List.forall_mem_cons.mpr ⟨cs_10, List.forall_mem_cons.mpr ⟨cs_11, List.forall_mem_cons.mpr ⟨cs_12, List.forall_mem_cons.mpr ⟨cs_13, List.forall_mem_cons.mpr ⟨cs_14, List.forall_mem_cons.mpr ⟨cs_15, List.forall_mem_cons.mpr ⟨cs_16, List.forall_mem_cons.mpr ⟨cs_17, List.forall_mem_cons.mpr ⟨cs_18, List.forall_mem_cons.mpr ⟨cs_19, List.forall_mem_cons.mpr ⟨cs_20, List.forall_mem_cons.mpr ⟨cs_21, List.forall_mem_cons.mpr ⟨cs_22, List.forall_mem_cons.mpr ⟨cs_23, List.forall_mem_cons.mpr ⟨cs_24, List.forall_mem_cons.mpr ⟨cs_25, List.forall_mem_cons.mpr ⟨cs_26, List.forall_mem_cons.mpr ⟨cs_27, List.forall_mem_cons.mpr ⟨cs_28, List.forall_mem_cons.mpr ⟨cs_29, List.forall_mem_cons.mpr ⟨cs_30, List.forall_mem_cons.mpr ⟨cs_31, List.forall_mem_cons.mpr ⟨cs_32, List.forall_mem_cons.mpr ⟨cs_33, List.forall_mem_cons.mpr ⟨cs_34, List.forall_mem_cons.mpr ⟨cs_35, List.forall_mem_cons.mpr ⟨cs_36, List.forall_mem_cons.mpr ⟨cs_37, List.forall_mem_cons.mpr ⟨cs_38, List.forall_mem_cons.mpr ⟨cs_39, List.forall_mem_cons.mpr ⟨cs_40, List.forall_mem_cons.mpr ⟨cs_41, List.forall_mem_cons.mpr ⟨cs_42, List.forall_mem_cons.mpr ⟨cs_43, List.forall_mem_cons.mpr ⟨cs_44, List.forall_mem_cons.mpr ⟨cs_45, List.forall_mem_cons.mpr ⟨cs_46, List.forall_mem_cons.mpr ⟨cs_47, List.forall_mem_cons.mpr ⟨cs_48, List.forall_mem_cons.mpr ⟨cs_49, List.forall_mem_cons.mpr ⟨cs_50, List.forall_mem_cons.mpr ⟨cs_51, List.forall_mem_cons.mpr ⟨cs_52, List.forall_mem_cons.mpr ⟨cs_53, List.forall_mem_cons.mpr ⟨cs_54, fun _ h => absurd h List.not_mem_nil⟩⟩⟩⟩⟩⟩⟩⟩⟩⟩⟩⟩⟩⟩⟩⟩⟩⟩⟩⟩⟩⟩⟩⟩⟩⟩⟩⟩⟩⟩⟩⟩⟩⟩⟩⟩⟩⟩⟩⟩⟩⟩⟩⟩⟩⟩⟩⟩⟩⟩⟩⟩⟩⟩⟩
set_option maxRecDepth 100000 in
theorem cn_0 : cnP (0, 59, 8, 1) := ⟨iX3_isKind, rfl, nth_mem (k := 223) rfl, ⟨nth_mem w_106, rfl⟩, ⟨nth_mem w_90, rfl⟩, by decide +kernel⟩
set_option maxRecDepth 100000 in
theorem cn_1 : cnP (0, 62, 9, 1) := ⟨iX3_isFigure, rfl, nth_mem (k := 226) rfl, ⟨nth_mem w_108, rfl⟩, ⟨nth_mem w_90, rfl⟩, by decide +kernel⟩
set_option maxRecDepth 100000 in
theorem cn_2 : cnP (0, 65, 10, 1) := ⟨iX3_isSide, rfl, nth_mem (k := 229) rfl, ⟨nth_mem w_97, rfl⟩, ⟨nth_mem w_90, rfl⟩, by decide +kernel⟩
set_option maxRecDepth 100000 in
theorem cn_3 : cnP (0, 71, 12, 1) := ⟨iX3_isSquare, rfl, nth_mem (k := 244) rfl, ⟨nth_mem w_95, rfl⟩, ⟨nth_mem w_90, rfl⟩, by decide +kernel⟩
set_option maxRecDepth 100000 in
theorem cn_4 : cnP (0, 114, 22, 2) := ⟨iX3_far, rfl, nth_mem (k := 308) rfl, ⟨nth_mem w_100, rfl⟩, ⟨nth_mem w_90, rfl⟩, by decide +kernel⟩
set_option maxRecDepth 100000 in
theorem cn_ok : ∀ e ∈ cnT, cnP e := List.forall_mem_cons.mpr ⟨cn_0, List.forall_mem_cons.mpr ⟨cn_1, List.forall_mem_cons.mpr ⟨cn_2, List.forall_mem_cons.mpr ⟨cn_3, List.forall_mem_cons.mpr ⟨cn_4, fun _ h => absurd h List.not_mem_nil⟩⟩⟩⟩⟩
set_option maxRecDepth 100000 in
theorem w_190 : nth lw_tbl 240 = some (.methodLink RX0 52 yX0_has) := rfl
set_option maxRecDepth 100000 in
theorem w_191 : nth lw_tbl 37 = some (.initialized RX0) := rfl
set_option maxRecDepth 100000 in
theorem w_192 : nth lw_tbl 241 = some (.instanceMethod yX0_has) := rfl
set_option maxRecDepth 100000 in
theorem w_193 : nth lw_tbl 242 = some (.selects RX0 yX0_has yX0_has) := rfl
set_option maxRecDepth 100000 in
theorem w_194 : nth lw_tbl 280 = some (.methodLink RX0 56 yX0_isThere) := rfl
set_option maxRecDepth 100000 in
theorem w_195 : nth lw_tbl 281 = some (.instanceMethod yX0_isThere) := rfl
set_option maxRecDepth 100000 in
theorem w_196 : nth lw_tbl 282 = some (.selects RX0 yX0_isThere yX0_isThere) := rfl
set_option maxRecDepth 100000 in
theorem w_197 : nth lw_tbl 232 = some (.methodLink RX0 68 yX0_isFree) := rfl
set_option maxRecDepth 100000 in
theorem w_198 : nth lw_tbl 233 = some (.instanceMethod yX0_isFree) := rfl
set_option maxRecDepth 100000 in
theorem w_199 : nth lw_tbl 234 = some (.selects RX0 yX0_isFree yX0_isFree) := rfl
set_option maxRecDepth 100000 in
theorem w_200 : nth lw_tbl 247 = some (.methodLink RX0 74 yX0_takeOff) := rfl
set_option maxRecDepth 100000 in
theorem w_201 : nth lw_tbl 248 = some (.instanceMethod yX0_takeOff) := rfl
set_option maxRecDepth 100000 in
theorem w_202 : nth lw_tbl 249 = some (.selects RX0 yX0_takeOff yX0_takeOff) := rfl
set_option maxRecDepth 100000 in
theorem w_203 : nth lw_tbl 264 = some (.methodLink RX0 77 yX0_passDay) := rfl
set_option maxRecDepth 100000 in
theorem w_204 : nth lw_tbl 265 = some (.instanceMethod yX0_passDay) := rfl
set_option maxRecDepth 100000 in
theorem w_205 : nth lw_tbl 266 = some (.selects RX0 yX0_passDay yX0_passDay) := rfl
set_option maxRecDepth 100000 in
theorem w_206 : nth lw_tbl 268 = some (.methodLink RX0 81 yX0_goerOn) := rfl
set_option maxRecDepth 100000 in
theorem w_207 : nth lw_tbl 269 = some (.instanceMethod yX0_goerOn) := rfl
set_option maxRecDepth 100000 in
theorem w_208 : nth lw_tbl 270 = some (.selects RX0 yX0_goerOn yX0_goerOn) := rfl
set_option maxRecDepth 100000 in
theorem w_209 : nth lw_tbl 276 = some (.methodLink RX0 85 yX0_ideaOf) := rfl
set_option maxRecDepth 100000 in
theorem w_210 : nth lw_tbl 277 = some (.instanceMethod yX0_ideaOf) := rfl
set_option maxRecDepth 100000 in
theorem w_211 : nth lw_tbl 278 = some (.selects RX0 yX0_ideaOf yX0_ideaOf) := rfl
set_option maxRecDepth 100000 in
theorem w_212 : nth lw_tbl 332 = some (.methodLink RX0 89 yX0_movePiece) := rfl
set_option maxRecDepth 100000 in
theorem w_213 : nth lw_tbl 237 = some (.instanceMethod yX0_movePiece) := rfl
set_option maxRecDepth 100000 in
theorem w_214 : nth lw_tbl 238 = some (.selects RX0 yX0_movePiece yX0_movePiece) := rfl
set_option maxRecDepth 100000 in
theorem w_215 : nth lw_tbl 272 = some (.methodLink RX0 93 yX0_isThereOf) := rfl
set_option maxRecDepth 100000 in
theorem w_216 : nth lw_tbl 273 = some (.instanceMethod yX0_isThereOf) := rfl
set_option maxRecDepth 100000 in
theorem w_217 : nth lw_tbl 274 = some (.selects RX0 yX0_isThereOf yX0_isThereOf) := rfl
set_option maxRecDepth 100000 in
theorem w_218 : nth lw_tbl 315 = some (.methodLink RX0 96 yX0_hearersOf) := rfl
set_option maxRecDepth 100000 in
theorem w_219 : nth lw_tbl 316 = some (.instanceMethod yX0_hearersOf) := rfl
set_option maxRecDepth 100000 in
theorem w_220 : nth lw_tbl 317 = some (.selects RX0 yX0_hearersOf yX0_hearersOf) := rfl
set_option maxRecDepth 100000 in
theorem w_221 : nth lw_tbl 328 = some (.methodLink RX0 106 yX0_howManyOf) := rfl
set_option maxRecDepth 100000 in
theorem w_222 : nth lw_tbl 329 = some (.instanceMethod yX0_howManyOf) := rfl
set_option maxRecDepth 100000 in
theorem w_223 : nth lw_tbl 330 = some (.selects RX0 yX0_howManyOf yX0_howManyOf) := rfl
set_option maxRecDepth 100000 in
theorem w_224 : nth lw_tbl 284 = some (.methodLink RX0 117 yX0_knightIdea) := rfl
set_option maxRecDepth 100000 in
theorem w_225 : nth lw_tbl 285 = some (.instanceMethod yX0_knightIdea) := rfl
set_option maxRecDepth 100000 in
theorem w_226 : nth lw_tbl 286 = some (.selects RX0 yX0_knightIdea yX0_knightIdea) := rfl
set_option maxRecDepth 100000 in
theorem w_227 : nth lw_tbl 296 = some (.methodLink RX0 120 yX0_slideIdea) := rfl
set_option maxRecDepth 100000 in
theorem w_228 : nth lw_tbl 297 = some (.instanceMethod yX0_slideIdea) := rfl
set_option maxRecDepth 100000 in
theorem w_229 : nth lw_tbl 298 = some (.selects RX0 yX0_slideIdea yX0_slideIdea) := rfl
set_option maxRecDepth 100000 in
theorem w_230 : nth lw_tbl 300 = some (.methodLink RX0 124 yX0_bishopIdea) := rfl
set_option maxRecDepth 100000 in
theorem w_231 : nth lw_tbl 301 = some (.instanceMethod yX0_bishopIdea) := rfl
set_option maxRecDepth 100000 in
theorem w_232 : nth lw_tbl 302 = some (.selects RX0 yX0_bishopIdea yX0_bishopIdea) := rfl
set_option maxRecDepth 100000 in
theorem w_233 : nth lw_tbl 304 = some (.methodLink RX0 127 yX0_kingIdea) := rfl
set_option maxRecDepth 100000 in
theorem w_234 : nth lw_tbl 305 = some (.instanceMethod yX0_kingIdea) := rfl
set_option maxRecDepth 100000 in
theorem w_235 : nth lw_tbl 306 = some (.selects RX0 yX0_kingIdea yX0_kingIdea) := rfl
set_option maxRecDepth 100000 in
theorem w_236 : nth lw_tbl 288 = some (.methodLink RX0 130 yX0_squareFrom) := rfl
set_option maxRecDepth 100000 in
theorem w_237 : nth lw_tbl 289 = some (.instanceMethod yX0_squareFrom) := rfl
set_option maxRecDepth 100000 in
theorem w_238 : nth lw_tbl 290 = some (.selects RX0 yX0_squareFrom yX0_squareFrom) := rfl
set_option maxRecDepth 100000 in
theorem w_239 : nth lw_tbl 311 = some (.methodLink RX0 133 yX0_pawnIdea) := rfl
set_option maxRecDepth 100000 in
theorem w_240 : nth lw_tbl 312 = some (.instanceMethod yX0_pawnIdea) := rfl
set_option maxRecDepth 100000 in
theorem w_241 : nth lw_tbl 313 = some (.selects RX0 yX0_pawnIdea yX0_pawnIdea) := rfl
set_option maxRecDepth 100000 in
theorem w_242 : nth lw_tbl 292 = some (.methodLink RX0 136 yX0_isHeldBy) := rfl
set_option maxRecDepth 100000 in
theorem w_243 : nth lw_tbl 293 = some (.instanceMethod yX0_isHeldBy) := rfl
set_option maxRecDepth 100000 in
theorem w_244 : nth lw_tbl 294 = some (.selects RX0 yX0_isHeldBy yX0_isHeldBy) := rfl
set_option maxRecDepth 100000 in
theorem w_245 : nth lw_tbl 453 = some (.methodLink RX0 142 yX0_worthOf) := rfl
set_option maxRecDepth 100000 in
theorem w_246 : nth lw_tbl 402 = some (.instanceMethod yX0_worthOf) := rfl
set_option maxRecDepth 100000 in
theorem w_247 : nth lw_tbl 403 = some (.selects RX0 yX0_worthOf yX0_worthOf) := rfl
set_option maxRecDepth 100000 in
theorem w_248 : nth lw_tbl 467 = some (.methodLink RX0 145 yX0_groupAround) := rfl
set_option maxRecDepth 100000 in
theorem w_249 : nth lw_tbl 468 = some (.instanceMethod yX0_groupAround) := rfl
set_option maxRecDepth 100000 in
theorem w_250 : nth lw_tbl 469 = some (.selects RX0 yX0_groupAround yX0_groupAround) := rfl
set_option maxRecDepth 100000 in
theorem w_251 : nth lw_tbl 190 = some (.methodLink RX2 37 yX2_hasPlace) := rfl
set_option maxRecDepth 100000 in
theorem w_252 : nth lw_tbl 39 = some (.initialized RX2) := rfl
set_option maxRecDepth 100000 in
theorem w_253 : nth lw_tbl 191 = some (.instanceMethod yX2_hasPlace) := rfl
set_option maxRecDepth 100000 in
theorem w_254 : nth lw_tbl 192 = some (.selects RX2 yX2_hasPlace yX2_hasPlace) := rfl
set_option maxRecDepth 100000 in
theorem w_255 : nth lw_tbl 186 = some (.methodLink RX2 42 yX2_elementAt) := rfl
set_option maxRecDepth 100000 in
theorem w_256 : nth lw_tbl 187 = some (.instanceMethod yX2_elementAt) := rfl
set_option maxRecDepth 100000 in
theorem w_257 : nth lw_tbl 188 = some (.selects RX2 yX2_elementAt yX2_elementAt) := rfl
set_option maxRecDepth 100000 in
theorem w_258 : nth lw_tbl 194 = some (.methodLink RX2 46 yX2_digitsBehind) := rfl
set_option maxRecDepth 100000 in
theorem w_259 : nth lw_tbl 195 = some (.instanceMethod yX2_digitsBehind) := rfl
set_option maxRecDepth 100000 in
theorem w_260 : nth lw_tbl 196 = some (.selects RX2 yX2_digitsBehind yX2_digitsBehind) := rfl
set_option maxRecDepth 100000 in
theorem w_261 : nth lw_tbl 218 = some (.methodLink RX2 49 yX2_digitAt) := rfl
set_option maxRecDepth 100000 in
theorem w_262 : nth lw_tbl 210 = some (.instanceMethod yX2_digitAt) := rfl
set_option maxRecDepth 100000 in
theorem w_263 : nth lw_tbl 211 = some (.selects RX2 yX2_digitAt yX2_digitAt) := rfl
set_option maxRecDepth 100000 in
theorem w_264 : nth lw_tbl 175 = some (.methodLink RX3 51 yX3_shelfAt) := rfl
set_option maxRecDepth 100000 in
theorem w_265 : nth lw_tbl 177 = some (.instanceMethod yX3_shelfAt) := rfl
set_option maxRecDepth 100000 in
theorem w_266 : nth lw_tbl 0 = some (.selects RX3 yX3_shelfAt yX3_shelfAt) := rfl
set_option maxRecDepth 100000 in
theorem w_267 : nth lw_tbl 182 = some (.methodLink RX3 62 yX2_wrongByte) := rfl
set_option maxRecDepth 100000 in
theorem w_268 : nth lw_tbl 183 = some (.instanceMethod yX2_wrongByte) := rfl
set_option maxRecDepth 100000 in
theorem w_269 : nth lw_tbl 184 = some (.selects RX2 yX2_wrongByte yX2_wrongByte) := rfl
set_option maxRecDepth 100000 in
theorem w_270 : nth lw_tbl 198 = some (.methodLink RX3 66 yX0_becomes) := rfl
set_option maxRecDepth 100000 in
theorem w_271 : nth lw_tbl 199 = some (.instanceMethod yX0_becomes) := rfl
set_option maxRecDepth 100000 in
theorem w_272 : nth lw_tbl 200 = some (.selects RX0 yX0_becomes yX0_becomes) := rfl
set_option maxRecDepth 100000 in
theorem w_273 : nth lw_tbl 205 = some (.methodLink RX3 73 yX3_isDone) := rfl
set_option maxRecDepth 100000 in
theorem w_274 : nth lw_tbl 207 = some (.instanceMethod yX3_isDone) := rfl
set_option maxRecDepth 100000 in
theorem w_275 : nth lw_tbl 1 = some (.selects RX3 yX3_isDone yX3_isDone) := rfl
set_option maxRecDepth 100000 in
theorem w_276 : nth lw_tbl 333 = some (.methodLink RX3 77 yX2_digitsBehind) := rfl
set_option maxRecDepth 100000 in
theorem w_277 : nth lw_tbl 341 = some (.methodLink RX3 87 yX0_has) := rfl
set_option maxRecDepth 100000 in
theorem w_278 : nth lw_tbl 342 = some (.methodLink RX3 100 yX0_squareOrNone) := rfl
set_option maxRecDepth 100000 in
theorem w_279 : nth lw_tbl 343 = some (.instanceMethod yX0_squareOrNone) := rfl
set_option maxRecDepth 100000 in
theorem w_280 : nth lw_tbl 344 = some (.selects RX0 yX0_squareOrNone yX0_squareOrNone) := rfl
set_option maxRecDepth 100000 in
theorem w_281 : nth lw_tbl 350 = some (.methodLink RX3 114 yX0_ideaOf) := rfl
set_option maxRecDepth 100000 in
theorem w_282 : nth lw_tbl 219 = some (.methodLink RX3 133 yX0_addPiece) := rfl
set_option maxRecDepth 100000 in
theorem w_283 : nth lw_tbl 220 = some (.instanceMethod yX0_addPiece) := rfl
set_option maxRecDepth 100000 in
theorem w_284 : nth lw_tbl 221 = some (.selects RX0 yX0_addPiece yX0_addPiece) := rfl
set_option maxRecDepth 100000 in
theorem w_285 : nth lw_tbl 236 = some (.methodLink RX3 137 yX0_movePiece) := rfl
set_option maxRecDepth 100000 in
theorem w_286 : nth lw_tbl 251 = some (.methodLink RX3 141 yX0_takeOff) := rfl
set_option maxRecDepth 100000 in
theorem w_287 : nth lw_tbl 252 = some (.methodLink RX3 147 yX0_giveTurn) := rfl
set_option maxRecDepth 100000 in
theorem w_288 : nth lw_tbl 253 = some (.instanceMethod yX0_giveTurn) := rfl
set_option maxRecDepth 100000 in
theorem w_289 : nth lw_tbl 254 = some (.selects RX0 yX0_giveTurn yX0_giveTurn) := rfl
set_option maxRecDepth 100000 in
theorem w_290 : nth lw_tbl 260 = some (.methodLink RX3 150 yX0_passWithinLast) := rfl
set_option maxRecDepth 100000 in
theorem w_291 : nth lw_tbl 261 = some (.instanceMethod yX0_passWithinLast) := rfl
set_option maxRecDepth 100000 in
theorem w_292 : nth lw_tbl 262 = some (.selects RX0 yX0_passWithinLast yX0_passWithinLast) := rfl
set_option maxRecDepth 100000 in
theorem w_293 : nth lw_tbl 377 = some (.methodLink RX3 153 yX0_howManyThere) := rfl
set_option maxRecDepth 100000 in
theorem w_294 : nth lw_tbl 378 = some (.instanceMethod yX0_howManyThere) := rfl
set_option maxRecDepth 100000 in
theorem w_295 : nth lw_tbl 379 = some (.selects RX0 yX0_howManyThere yX0_howManyThere) := rfl
set_option maxRecDepth 100000 in
theorem w_296 : nth lw_tbl 385 = some (.methodLink RX3 156 yX3_lookAhead) := rfl
set_option maxRecDepth 100000 in
theorem w_297 : nth lw_tbl 387 = some (.instanceMethod yX3_lookAhead) := rfl
set_option maxRecDepth 100000 in
theorem w_298 : nth lw_tbl 2 = some (.selects RX3 yX3_lookAhead yX3_lookAhead) := rfl
set_option maxRecDepth 100000 in
theorem w_299 : nth lw_tbl 397 = some (.methodLink RX3 160 yX0_bitsThere) := rfl
set_option maxRecDepth 100000 in
theorem w_300 : nth lw_tbl 398 = some (.instanceMethod yX0_bitsThere) := rfl
set_option maxRecDepth 100000 in
theorem w_301 : nth lw_tbl 399 = some (.selects RX0 yX0_bitsThere yX0_bitsThere) := rfl
set_option maxRecDepth 100000 in
theorem w_302 : nth lw_tbl 401 = some (.methodLink RX3 166 yX0_worthOf) := rfl
set_option maxRecDepth 100000 in
theorem w_303 : nth lw_tbl 410 = some (.methodLink RX3 169 yX3_firstToFall) := rfl
set_option maxRecDepth 100000 in
theorem w_304 : nth lw_tbl 412 = some (.instanceMethod yX3_firstToFall) := rfl
set_option maxRecDepth 100000 in
theorem w_305 : nth lw_tbl 3 = some (.selects RX3 yX3_firstToFall yX3_firstToFall) := rfl
set_option maxRecDepth 100000 in
theorem w_306 : nth lw_tbl 415 = some (.methodLink RX3 172 yX0_isThere) := rfl
set_option maxRecDepth 100000 in
theorem w_307 : nth lw_tbl 414 = some (.methodLink RX3 175 yX0_passDay) := rfl
set_option maxRecDepth 100000 in
theorem w_308 : nth lw_tbl 424 = some (.methodLink RX3 179 yX0_goerOn) := rfl
set_option maxRecDepth 100000 in
theorem w_309 : nth lw_tbl 425 = some (.methodLink RX3 183 yX0_hearersOf) := rfl
set_option maxRecDepth 100000 in
theorem w_310 : nth lw_tbl 435 = some (.methodLink RX3 192 yX0_isThereOf) := rfl
set_option maxRecDepth 100000 in
theorem w_311 : nth lw_tbl 436 = some (.methodLink RX3 195 yX0_isHeldBy) := rfl
set_option maxRecDepth 100000 in
theorem w_312 : nth lw_tbl 441 = some (.methodLink RX3 198 yX3_placeInMind) := rfl
set_option maxRecDepth 100000 in
theorem w_313 : nth lw_tbl 443 = some (.instanceMethod yX3_placeInMind) := rfl
set_option maxRecDepth 100000 in
theorem w_314 : nth lw_tbl 4 = some (.selects RX3 yX3_placeInMind yX3_placeInMind) := rfl
set_option maxRecDepth 100000 in
theorem w_315 : nth lw_tbl 389 = some (.methodLink RX3 201 yX0_passDays) := rfl
set_option maxRecDepth 100000 in
theorem w_316 : nth lw_tbl 390 = some (.instanceMethod yX0_passDays) := rfl
set_option maxRecDepth 100000 in
theorem w_317 : nth lw_tbl 391 = some (.selects RX0 yX0_passDays yX0_passDays) := rfl
set_option maxRecDepth 100000 in
theorem w_318 : nth lw_tbl 449 = some (.methodLink RX3 204 yX0_worthWithout) := rfl
set_option maxRecDepth 100000 in
theorem w_319 : nth lw_tbl 450 = some (.instanceMethod yX0_worthWithout) := rfl
set_option maxRecDepth 100000 in
theorem w_320 : nth lw_tbl 451 = some (.selects RX0 yX0_worthWithout yX0_worthWithout) := rfl
set_option maxRecDepth 100000 in
theorem w_321 : nth lw_tbl 463 = some (.methodLink RX3 213 yX0_groupsOf) := rfl
set_option maxRecDepth 100000 in
theorem w_322 : nth lw_tbl 464 = some (.instanceMethod yX0_groupsOf) := rfl
set_option maxRecDepth 100000 in
theorem w_323 : nth lw_tbl 465 = some (.selects RX0 yX0_groupsOf yX0_groupsOf) := rfl
set_option maxRecDepth 100000 in
theorem w_324 : nth lw_tbl 471 = some (.methodLink RX3 216 yX0_farthestOf) := rfl
set_option maxRecDepth 100000 in
theorem w_325 : nth lw_tbl 472 = some (.instanceMethod yX0_farthestOf) := rfl
set_option maxRecDepth 100000 in
theorem w_326 : nth lw_tbl 473 = some (.selects RX0 yX0_farthestOf yX0_farthestOf) := rfl
set_option maxRecDepth 100000 in
theorem w_327 : nth lw_tbl 475 = some (.methodLink RX3 219 yX0_howManyOf) := rfl
set_option maxRecDepth 100000 in
theorem w_328 : nth lw_tbl 480 = some (.methodLink RX3 222 yX0_pairsSideBySide) := rfl
set_option maxRecDepth 100000 in
theorem w_329 : nth lw_tbl 481 = some (.instanceMethod yX0_pairsSideBySide) := rfl
set_option maxRecDepth 100000 in
theorem w_330 : nth lw_tbl 482 = some (.selects RX0 yX0_pairsSideBySide yX0_pairsSideBySide) := rfl
set_option maxRecDepth 100000 in
theorem w_331 : nth lw_tbl 484 = some (.methodLink RX3 225 yX0_quietOn) := rfl
set_option maxRecDepth 100000 in
theorem w_332 : nth lw_tbl 485 = some (.instanceMethod yX0_quietOn) := rfl
set_option maxRecDepth 100000 in
theorem w_333 : nth lw_tbl 486 = some (.selects RX0 yX0_quietOn yX0_quietOn) := rfl
set_option maxRecDepth 100000 in
theorem w_334 : nth lw_tbl 256 = some (.methodLink RX3 228 yX0_turnInto) := rfl
set_option maxRecDepth 100000 in
theorem w_335 : nth lw_tbl 257 = some (.instanceMethod yX0_turnInto) := rfl
set_option maxRecDepth 100000 in
theorem w_336 : nth lw_tbl 258 = some (.selects RX0 yX0_turnInto yX0_turnInto) := rfl
set_option maxRecDepth 100000 in
theorem w_337 : nth lw_tbl 492 = some (.methodLink RX3 232 yX3_wentAsTold) := rfl
set_option maxRecDepth 100000 in
theorem w_338 : nth lw_tbl 494 = some (.instanceMethod yX3_wentAsTold) := rfl
set_option maxRecDepth 100000 in
theorem w_339 : nth lw_tbl 5 = some (.selects RX3 yX3_wentAsTold yX3_wentAsTold) := rfl
set_option maxRecDepth 100000 in
theorem w_340 : nth lw_tbl 513 = some (.methodLink RX3 236 yX0_gainOf) := rfl
set_option maxRecDepth 100000 in
theorem w_341 : nth lw_tbl 514 = some (.instanceMethod yX0_gainOf) := rfl
set_option maxRecDepth 100000 in
theorem w_342 : nth lw_tbl 515 = some (.selects RX0 yX0_gainOf yX0_gainOf) := rfl
set_option maxRecDepth 100000 in
theorem w_343 : nth lw_tbl 517 = some (.methodLink RX3 239 yX3_firstPairAtRest) := rfl
set_option maxRecDepth 100000 in
theorem w_344 : nth lw_tbl 519 = some (.instanceMethod yX3_firstPairAtRest) := rfl
set_option maxRecDepth 100000 in
theorem w_345 : nth lw_tbl 6 = some (.selects RX3 yX3_firstPairAtRest yX3_firstPairAtRest) := rfl
set_option maxRecDepth 100000 in
theorem w_346 : nth lw_tbl 213 = some (.methodLink RX3 252 yX2_elementAt) := rfl
set_option maxRecDepth 100000 in
theorem w_347 : nth lw_tbl 496 = some (.methodLink RX3 255 yX2_isSkipped) := rfl
set_option maxRecDepth 100000 in
theorem w_348 : nth lw_tbl 497 = some (.instanceMethod yX2_isSkipped) := rfl
set_option maxRecDepth 100000 in
theorem w_349 : nth lw_tbl 498 = some (.selects RX2 yX2_isSkipped yX2_isSkipped) := rfl
set_option maxRecDepth 100000 in
theorem w_350 : nth lw_tbl 548 = some (.methodLink RX3 258 yX3_setUpByDraws) := rfl
set_option maxRecDepth 100000 in
theorem w_351 : nth lw_tbl 550 = some (.instanceMethod yX3_setUpByDraws) := rfl
set_option maxRecDepth 100000 in
theorem w_352 : nth lw_tbl 7 = some (.selects RX3 yX3_setUpByDraws yX3_setUpByDraws) := rfl
set_option maxRecDepth 100000 in
theorem w_353 : nth lw_tbl 585 = some (.methodLink RX3 270 yX2_becomesRow) := rfl
set_option maxRecDepth 100000 in
theorem w_354 : nth lw_tbl 586 = some (.instanceMethod yX2_becomesRow) := rfl
set_option maxRecDepth 100000 in
theorem w_355 : nth lw_tbl 587 = some (.selects RX2 yX2_becomesRow yX2_becomesRow) := rfl
set_option maxRecDepth 100000 in
theorem w_356 : nth lw_tbl 594 = some (.methodLink RX3 274 yX2_putIn) := rfl
set_option maxRecDepth 100000 in
theorem w_357 : nth lw_tbl 595 = some (.instanceMethod yX2_putIn) := rfl
set_option maxRecDepth 100000 in
theorem w_358 : nth lw_tbl 596 = some (.selects RX2 yX2_putIn yX2_putIn) := rfl
set_option maxRecDepth 100000 in
theorem w_359 : nth lw_tbl 602 = some (.methodLink RX3 294 yX2_hasPlaces) := rfl
set_option maxRecDepth 100000 in
theorem w_360 : nth lw_tbl 603 = some (.instanceMethod yX2_hasPlaces) := rfl
set_option maxRecDepth 100000 in
theorem w_361 : nth lw_tbl 604 = some (.selects RX2 yX2_hasPlaces yX2_hasPlaces) := rfl
set_option maxRecDepth 100000 in
theorem w_362 : nth lw_tbl 209 = some (.methodLink RX3 316 yX2_digitAt) := rfl
set_option maxRecDepth 100000 in
theorem w_363 : nth lw_tbl 214 = some (.methodLink RX3 319 yX2_twoDigitsAt) := rfl
set_option maxRecDepth 100000 in
theorem w_364 : nth lw_tbl 215 = some (.instanceMethod yX2_twoDigitsAt) := rfl
set_option maxRecDepth 100000 in
theorem w_365 : nth lw_tbl 216 = some (.selects RX2 yX2_twoDigitsAt yX2_twoDigitsAt) := rfl
set_option maxRecDepth 100000 in
theorem w_366 : nth lw_tbl 501 = some (.methodLink RX3 322 yX0_squareOf) := rfl
set_option maxRecDepth 100000 in
theorem w_367 : nth lw_tbl 502 = some (.instanceMethod yX0_squareOf) := rfl
set_option maxRecDepth 100000 in
theorem w_368 : nth lw_tbl 503 = some (.selects RX0 yX0_squareOf yX0_squareOf) := rfl
set_option maxRecDepth 100000 in
theorem w_369 : nth lw_tbl 552 = some (.methodLink RX3 328 yX0_takeAllOff) := rfl
set_option maxRecDepth 100000 in
theorem w_370 : nth lw_tbl 553 = some (.instanceMethod yX0_takeAllOff) := rfl
set_option maxRecDepth 100000 in
theorem w_371 : nth lw_tbl 554 = some (.selects RX0 yX0_takeAllOff yX0_takeAllOff) := rfl
set_option maxRecDepth 100000 in
theorem w_372 : nth lw_tbl 556 = some (.methodLink RX3 331 yX3_draw) := rfl
set_option maxRecDepth 100000 in
theorem w_373 : nth lw_tbl 558 = some (.instanceMethod yX3_draw) := rfl
set_option maxRecDepth 100000 in
theorem w_374 : nth lw_tbl 8 = some (.selects RX3 yX3_draw yX3_draw) := rfl
set_option maxRecDepth 100000 in
theorem w_375 : nth lw_tbl 861 = some (.methodLink RX4 47 yX4_isPiece) := rfl
set_option maxRecDepth 100000 in
theorem w_376 : nth lw_tbl 863 = some (.instanceMethod yX4_isPiece) := rfl
set_option maxRecDepth 100000 in
theorem w_377 : nth lw_tbl 16 = some (.selects RX4 yX4_isPiece yX4_isPiece) := rfl
set_option maxRecDepth 100000 in
theorem w_378 : nth lw_tbl 830 = some (.methodLink RX4 146 yX4_here) := rfl
set_option maxRecDepth 100000 in
theorem w_379 : nth lw_tbl 832 = some (.instanceMethod yX4_here) := rfl
set_option maxRecDepth 100000 in
theorem w_380 : nth lw_tbl 12 = some (.selects RX4 yX4_here yX4_here) := rfl
set_option maxRecDepth 100000 in
theorem w_381 : nth lw_tbl 834 = some (.methodLink RX4 150 yX4_readsNumber) := rfl
set_option maxRecDepth 100000 in
theorem w_382 : nth lw_tbl 836 = some (.instanceMethod yX4_readsNumber) := rfl
set_option maxRecDepth 100000 in
theorem w_383 : nth lw_tbl 13 = some (.selects RX4 yX4_readsNumber yX4_readsNumber) := rfl
set_option maxRecDepth 100000 in
theorem w_384 : nth lw_tbl 857 = some (.methodLink RX4 159 yX4_adds) := rfl
set_option maxRecDepth 100000 in
theorem w_385 : nth lw_tbl 859 = some (.instanceMethod yX4_adds) := rfl
set_option maxRecDepth 100000 in
theorem w_386 : nth lw_tbl 15 = some (.selects RX4 yX4_adds yX4_adds) := rfl
set_option maxRecDepth 100000 in
theorem w_387 : nth lw_tbl 865 = some (.methodLink RX4 163 yX4_mayStand) := rfl
set_option maxRecDepth 100000 in
theorem w_388 : nth lw_tbl 867 = some (.instanceMethod yX4_mayStand) := rfl
set_option maxRecDepth 100000 in
theorem w_389 : nth lw_tbl 17 = some (.selects RX4 yX4_mayStand yX4_mayStand) := rfl
set_option maxRecDepth 100000 in
theorem w_390 : nth lw_tbl 816 = some (.methodLink RX4 170 yX4_wrongRow) := rfl
set_option maxRecDepth 100000 in
theorem w_391 : nth lw_tbl 818 = some (.instanceMethod yX4_wrongRow) := rfl
set_option maxRecDepth 100000 in
theorem w_392 : nth lw_tbl 10 = some (.selects RX4 yX4_wrongRow yX4_wrongRow) := rfl
set_option maxRecDepth 100000 in
theorem w_393 : nth lw_tbl 826 = some (.methodLink RX4 173 yX4_readsStatement) := rfl
set_option maxRecDepth 100000 in
theorem w_394 : nth lw_tbl 828 = some (.instanceMethod yX4_readsStatement) := rfl
set_option maxRecDepth 100000 in
theorem w_395 : nth lw_tbl 11 = some (.selects RX4 yX4_readsStatement yX4_readsStatement) := rfl
set_option maxRecDepth 100000 in
theorem w_396 : nth lw_tbl 841 = some (.methodLink RX4 181 yX4_isDone) := rfl
set_option maxRecDepth 100000 in
theorem w_397 : nth lw_tbl 843 = some (.instanceMethod yX4_isDone) := rfl
set_option maxRecDepth 100000 in
theorem w_398 : nth lw_tbl 14 = some (.selects RX4 yX4_isDone yX4_isDone) := rfl
set_option maxRecDepth 100000 in
theorem w_399 : nth lw_tbl 945 = some (.methodLink RX4 184 yX4_nextIdea) := rfl
set_option maxRecDepth 100000 in
theorem w_400 : nth lw_tbl 947 = some (.instanceMethod yX4_nextIdea) := rfl
set_option maxRecDepth 100000 in
theorem w_401 : nth lw_tbl 18 = some (.selects RX4 yX4_nextIdea yX4_nextIdea) := rfl
set_option maxRecDepth 100000 in
theorem w_402 : nth lw_tbl 957 = some (.methodLink RX4 187 yX4_wrongKept) := rfl
set_option maxRecDepth 100000 in
theorem w_403 : nth lw_tbl 959 = some (.instanceMethod yX4_wrongKept) := rfl
set_option maxRecDepth 100000 in
theorem w_404 : nth lw_tbl 19 = some (.selects RX4 yX4_wrongKept yX4_wrongKept) := rfl
set_option maxRecDepth 100000 in
theorem w_405 : nth lw_tbl 965 = some (.methodLink RX4 190 yX4_sets) := rfl
set_option maxRecDepth 100000 in
theorem w_406 : nth lw_tbl 967 = some (.instanceMethod yX4_sets) := rfl
set_option maxRecDepth 100000 in
theorem w_407 : nth lw_tbl 20 = some (.selects RX4 yX4_sets yX4_sets) := rfl
set_option maxRecDepth 100000 in
theorem w_408 : nth lw_tbl 991 = some (.methodLink RX4 200 yX4_inMind) := rfl
set_option maxRecDepth 100000 in
theorem w_409 : nth lw_tbl 993 = some (.instanceMethod yX4_inMind) := rfl
set_option maxRecDepth 100000 in
theorem w_410 : nth lw_tbl 21 = some (.selects RX4 yX4_inMind yX4_inMind) := rfl
set_option maxRecDepth 100000 in
theorem w_411 : nth lw_tbl 1011 = some (.methodLink RX4 208 yX4_fallsOf) := rfl
set_option maxRecDepth 100000 in
theorem w_412 : nth lw_tbl 1013 = some (.instanceMethod yX4_fallsOf) := rfl
set_option maxRecDepth 100000 in
theorem w_413 : nth lw_tbl 23 = some (.selects RX4 yX4_fallsOf yX4_fallsOf) := rfl
set_option maxRecDepth 100000 in
theorem w_414 : nth lw_tbl 1006 = some (.methodLink RX4 211 yX4_firstFalls) := rfl
set_option maxRecDepth 100000 in
theorem w_415 : nth lw_tbl 1008 = some (.instanceMethod yX4_firstFalls) := rfl
set_option maxRecDepth 100000 in
theorem w_416 : nth lw_tbl 22 = some (.selects RX4 yX4_firstFalls yX4_firstFalls) := rfl
set_option maxRecDepth 100000 in
theorem w_417 : nth lw_tbl 1019 = some (.methodLink RX4 214 yX4_isMoved) := rfl
set_option maxRecDepth 100000 in
theorem w_418 : nth lw_tbl 1021 = some (.instanceMethod yX4_isMoved) := rfl
set_option maxRecDepth 100000 in
theorem w_419 : nth lw_tbl 24 = some (.selects RX4 yX4_isMoved yX4_isMoved) := rfl
set_option maxRecDepth 100000 in
theorem w_420 : nth lw_tbl 1048 = some (.methodLink RX4 218 yX4_areTwo) := rfl
set_option maxRecDepth 100000 in
theorem w_421 : nth lw_tbl 1050 = some (.instanceMethod yX4_areTwo) := rfl
set_option maxRecDepth 100000 in
theorem w_422 : nth lw_tbl 25 = some (.selects RX4 yX4_areTwo yX4_areTwo) := rfl
set_option maxRecDepth 100000 in
theorem w_423 : nth lw_tbl 1056 = some (.methodLink RX4 221 yX4_groupsOf) := rfl
set_option maxRecDepth 100000 in
theorem w_424 : nth lw_tbl 1058 = some (.instanceMethod yX4_groupsOf) := rfl
set_option maxRecDepth 100000 in
theorem w_425 : nth lw_tbl 26 = some (.selects RX4 yX4_groupsOf yX4_groupsOf) := rfl
set_option maxRecDepth 100000 in
theorem w_426 : nth lw_tbl 1060 = some (.methodLink RX4 224 yX4_farthestOf) := rfl
set_option maxRecDepth 100000 in
theorem w_427 : nth lw_tbl 1062 = some (.instanceMethod yX4_farthestOf) := rfl
set_option maxRecDepth 100000 in
theorem w_428 : nth lw_tbl 27 = some (.selects RX4 yX4_farthestOf yX4_farthestOf) := rfl
set_option maxRecDepth 100000 in
theorem w_429 : nth lw_tbl 1068 = some (.methodLink RX4 227 yX4_pairs) := rfl
set_option maxRecDepth 100000 in
theorem w_430 : nth lw_tbl 1070 = some (.instanceMethod yX4_pairs) := rfl
set_option maxRecDepth 100000 in
theorem w_431 : nth lw_tbl 28 = some (.selects RX4 yX4_pairs yX4_pairs) := rfl
set_option maxRecDepth 100000 in
theorem w_432 : nth lw_tbl 1072 = some (.methodLink RX4 230 yX4_quietOnes) := rfl
set_option maxRecDepth 100000 in
theorem w_433 : nth lw_tbl 1074 = some (.instanceMethod yX4_quietOnes) := rfl
set_option maxRecDepth 100000 in
theorem w_434 : nth lw_tbl 29 = some (.selects RX4 yX4_quietOnes yX4_quietOnes) := rfl
set_option maxRecDepth 100000 in
theorem w_435 : nth lw_tbl 1087 = some (.methodLink RX4 240 yX4_isTold) := rfl
set_option maxRecDepth 100000 in
theorem w_436 : nth lw_tbl 1089 = some (.instanceMethod yX4_isTold) := rfl
set_option maxRecDepth 100000 in
theorem w_437 : nth lw_tbl 31 = some (.selects RX4 yX4_isTold yX4_isTold) := rfl
set_option maxRecDepth 100000 in
theorem w_438 : nth lw_tbl 1080 = some (.methodLink RX4 243 yX4_isWhereSo) := rfl
set_option maxRecDepth 100000 in
theorem w_439 : nth lw_tbl 1082 = some (.instanceMethod yX4_isWhereSo) := rfl
set_option maxRecDepth 100000 in
theorem w_440 : nth lw_tbl 30 = some (.selects RX4 yX4_isWhereSo yX4_isWhereSo) := rfl
set_option maxRecDepth 100000 in
theorem w_441 : nth lw_tbl 1103 = some (.methodLink RX4 249 yX4_hasBy) := rfl
set_option maxRecDepth 100000 in
theorem w_442 : nth lw_tbl 1105 = some (.instanceMethod yX4_hasBy) := rfl
set_option maxRecDepth 100000 in
theorem w_443 : nth lw_tbl 32 = some (.selects RX4 yX4_hasBy yX4_hasBy) := rfl
set_option maxRecDepth 100000 in
theorem w_444 : nth lw_tbl 1138 = some (.methodLink RX4 269 yX4_drawn) := rfl
set_option maxRecDepth 100000 in
theorem w_445 : nth lw_tbl 1140 = some (.instanceMethod yX4_drawn) := rfl
set_option maxRecDepth 100000 in
theorem w_446 : nth lw_tbl 34 = some (.selects RX4 yX4_drawn yX4_drawn) := rfl
set_option maxRecDepth 100000 in
theorem w_447 : nth lw_tbl 1134 = some (.methodLink RX4 272 yX4_setsUp) := rfl
set_option maxRecDepth 100000 in
theorem w_448 : nth lw_tbl 1136 = some (.instanceMethod yX4_setsUp) := rfl
set_option maxRecDepth 100000 in
theorem w_449 : nth lw_tbl 33 = some (.selects RX4 yX4_setsUp yX4_setsUp) := rfl
set_option maxRecDepth 100000 in
theorem w_450 : nth lw_tbl 171 = some (.methodLink RL 21 yX3_game) := rfl
set_option maxRecDepth 100000 in
theorem w_451 : nth lw_tbl 172 = some (.instanceMethod yX3_game) := rfl
set_option maxRecDepth 100000 in
theorem w_452 : nth lw_tbl 173 = some (.selects RX3 yX3_game yX3_game) := rfl
set_option maxRecDepth 100000 in
theorem w_453 : nth lw_tbl 812 = some (.methodLink RL 25 yX4_game) := rfl
set_option maxRecDepth 100000 in
theorem w_454 : nth lw_tbl 813 = some (.instanceMethod yX4_game) := rfl
set_option maxRecDepth 100000 in
theorem w_455 : nth lw_tbl 814 = some (.selects RX4 yX4_game yX4_game) := rfl
set_option maxRecDepth 100000 in
theorem w_456 : nth lw_tbl 337 = some (.methodLink RL 26 yX3_piece) := rfl
set_option maxRecDepth 100000 in
theorem w_457 : nth lw_tbl 338 = some (.instanceMethod yX3_piece) := rfl
set_option maxRecDepth 100000 in
theorem w_458 : nth lw_tbl 339 = some (.selects RX3 yX3_piece yX3_piece) := rfl
set_option maxRecDepth 100000 in
theorem w_459 : nth lw_tbl 938 = some (.methodLink RL 30 yX4_piece) := rfl
set_option maxRecDepth 100000 in
theorem w_460 : nth lw_tbl 939 = some (.instanceMethod yX4_piece) := rfl
set_option maxRecDepth 100000 in
theorem w_461 : nth lw_tbl 940 = some (.selects RX4 yX4_piece yX4_piece) := rfl
set_option maxRecDepth 100000 in
theorem w_462 : nth lw_tbl 351 = some (.methodLink RL 31 yX3_on) := rfl
set_option maxRecDepth 100000 in
theorem w_463 : nth lw_tbl 352 = some (.instanceMethod yX3_on) := rfl
set_option maxRecDepth 100000 in
theorem w_464 : nth lw_tbl 353 = some (.selects RX3 yX3_on yX3_on) := rfl
set_option maxRecDepth 100000 in
theorem w_465 : nth lw_tbl 949 = some (.methodLink RL 34 yX4_on) := rfl
set_option maxRecDepth 100000 in
theorem w_466 : nth lw_tbl 950 = some (.instanceMethod yX4_on) := rfl
set_option maxRecDepth 100000 in
theorem w_467 : nth lw_tbl 951 = some (.selects RX4 yX4_on yX4_on) := rfl
set_option maxRecDepth 100000 in
theorem w_468 : nth lw_tbl 356 = some (.methodLink RL 35 yX3_comes) := rfl
set_option maxRecDepth 100000 in
theorem w_469 : nth lw_tbl 357 = some (.instanceMethod yX3_comes) := rfl
set_option maxRecDepth 100000 in
theorem w_470 : nth lw_tbl 358 = some (.selects RX3 yX3_comes yX3_comes) := rfl
set_option maxRecDepth 100000 in
theorem w_471 : nth lw_tbl 953 = some (.methodLink RL 39 yX4_comes) := rfl
set_option maxRecDepth 100000 in
theorem w_472 : nth lw_tbl 954 = some (.instanceMethod yX4_comes) := rfl
set_option maxRecDepth 100000 in
theorem w_473 : nth lw_tbl 955 = some (.selects RX4 yX4_comes yX4_comes) := rfl
set_option maxRecDepth 100000 in
theorem w_474 : nth lw_tbl 361 = some (.methodLink RL 40 yX3_stands) := rfl
set_option maxRecDepth 100000 in
theorem w_475 : nth lw_tbl 362 = some (.instanceMethod yX3_stands) := rfl
set_option maxRecDepth 100000 in
theorem w_476 : nth lw_tbl 363 = some (.selects RX3 yX3_stands yX3_stands) := rfl
set_option maxRecDepth 100000 in
theorem w_477 : nth lw_tbl 961 = some (.methodLink RL 43 yX4_stands) := rfl
set_option maxRecDepth 100000 in
theorem w_478 : nth lw_tbl 962 = some (.instanceMethod yX4_stands) := rfl
set_option maxRecDepth 100000 in
theorem w_479 : nth lw_tbl 963 = some (.selects RX4 yX4_stands yX4_stands) := rfl
set_option maxRecDepth 100000 in
theorem w_480 : nth lw_tbl 365 = some (.methodLink RL 44 yX3_takes) := rfl
set_option maxRecDepth 100000 in
theorem w_481 : nth lw_tbl 366 = some (.instanceMethod yX3_takes) := rfl
set_option maxRecDepth 100000 in
theorem w_482 : nth lw_tbl 367 = some (.selects RX3 yX3_takes yX3_takes) := rfl
set_option maxRecDepth 100000 in
theorem w_483 : nth lw_tbl 969 = some (.methodLink RL 47 yX4_takes) := rfl
set_option maxRecDepth 100000 in
theorem w_484 : nth lw_tbl 970 = some (.instanceMethod yX4_takes) := rfl
set_option maxRecDepth 100000 in
theorem w_485 : nth lw_tbl 971 = some (.selects RX4 yX4_takes yX4_takes) := rfl
set_option maxRecDepth 100000 in
theorem w_486 : nth lw_tbl 369 = some (.methodLink RL 48 yX3_turn) := rfl
set_option maxRecDepth 100000 in
theorem w_487 : nth lw_tbl 370 = some (.instanceMethod yX3_turn) := rfl
set_option maxRecDepth 100000 in
theorem w_488 : nth lw_tbl 371 = some (.selects RX3 yX3_turn yX3_turn) := rfl
set_option maxRecDepth 100000 in
theorem w_489 : nth lw_tbl 973 = some (.methodLink RL 51 yX4_turn) := rfl
set_option maxRecDepth 100000 in
theorem w_490 : nth lw_tbl 974 = some (.instanceMethod yX4_turn) := rfl
set_option maxRecDepth 100000 in
theorem w_491 : nth lw_tbl 975 = some (.selects RX4 yX4_turn yX4_turn) := rfl
set_option maxRecDepth 100000 in
theorem w_492 : nth lw_tbl 373 = some (.methodLink RL 52 yX3_days) := rfl
set_option maxRecDepth 100000 in
theorem w_493 : nth lw_tbl 374 = some (.instanceMethod yX3_days) := rfl
set_option maxRecDepth 100000 in
theorem w_494 : nth lw_tbl 375 = some (.selects RX3 yX3_days yX3_days) := rfl
set_option maxRecDepth 100000 in
theorem w_495 : nth lw_tbl 977 = some (.methodLink RL 55 yX4_days) := rfl
set_option maxRecDepth 100000 in
theorem w_496 : nth lw_tbl 978 = some (.instanceMethod yX4_days) := rfl
set_option maxRecDepth 100000 in
theorem w_497 : nth lw_tbl 979 = some (.selects RX4 yX4_days yX4_days) := rfl
set_option maxRecDepth 100000 in
theorem w_498 : nth lw_tbl 381 = some (.methodLink RL 56 yX3_squareThen) := rfl
set_option maxRecDepth 100000 in
theorem w_499 : nth lw_tbl 382 = some (.instanceMethod yX3_squareThen) := rfl
set_option maxRecDepth 100000 in
theorem w_500 : nth lw_tbl 383 = some (.selects RX3 yX3_squareThen yX3_squareThen) := rfl
set_option maxRecDepth 100000 in
theorem w_501 : nth lw_tbl 984 = some (.methodLink RL 59 yX4_squareThen) := rfl
set_option maxRecDepth 100000 in
theorem w_502 : nth lw_tbl 985 = some (.instanceMethod yX4_squareThen) := rfl
set_option maxRecDepth 100000 in
theorem w_503 : nth lw_tbl 986 = some (.selects RX4 yX4_squareThen yX4_squareThen) := rfl
set_option maxRecDepth 100000 in
theorem w_504 : nth lw_tbl 393 = some (.methodLink RL 60 yX3_then) := rfl
set_option maxRecDepth 100000 in
theorem w_505 : nth lw_tbl 394 = some (.instanceMethod yX3_then) := rfl
set_option maxRecDepth 100000 in
theorem w_506 : nth lw_tbl 395 = some (.selects RX3 yX3_then yX3_then) := rfl
set_option maxRecDepth 100000 in
theorem w_507 : nth lw_tbl 995 = some (.methodLink RL 63 yX4_then) := rfl
set_option maxRecDepth 100000 in
theorem w_508 : nth lw_tbl 996 = some (.instanceMethod yX4_then) := rfl
set_option maxRecDepth 100000 in
theorem w_509 : nth lw_tbl 997 = some (.selects RX4 yX4_then yX4_then) := rfl
set_option maxRecDepth 100000 in
theorem w_510 : nth lw_tbl 406 = some (.methodLink RL 64 yX3_falls) := rfl
set_option maxRecDepth 100000 in
theorem w_511 : nth lw_tbl 407 = some (.instanceMethod yX3_falls) := rfl
set_option maxRecDepth 100000 in
theorem w_512 : nth lw_tbl 408 = some (.selects RX3 yX3_falls yX3_falls) := rfl
set_option maxRecDepth 100000 in
theorem w_513 : nth lw_tbl 1002 = some (.methodLink RL 67 yX4_falls) := rfl
set_option maxRecDepth 100000 in
theorem w_514 : nth lw_tbl 1003 = some (.instanceMethod yX4_falls) := rfl
set_option maxRecDepth 100000 in
theorem w_515 : nth lw_tbl 1004 = some (.selects RX4 yX4_falls yX4_falls) := rfl
set_option maxRecDepth 100000 in
theorem w_516 : nth lw_tbl 416 = some (.methodLink RL 68 yX3_still) := rfl
set_option maxRecDepth 100000 in
theorem w_517 : nth lw_tbl 417 = some (.instanceMethod yX3_still) := rfl
set_option maxRecDepth 100000 in
theorem w_518 : nth lw_tbl 418 = some (.selects RX3 yX3_still yX3_still) := rfl
set_option maxRecDepth 100000 in
theorem w_519 : nth lw_tbl 1015 = some (.methodLink RL 72 yX4_still) := rfl
set_option maxRecDepth 100000 in
theorem w_520 : nth lw_tbl 1016 = some (.instanceMethod yX4_still) := rfl
set_option maxRecDepth 100000 in
theorem w_521 : nth lw_tbl 1017 = some (.selects RX4 yX4_still yX4_still) := rfl
set_option maxRecDepth 100000 in
theorem w_522 : nth lw_tbl 420 = some (.methodLink RL 73 yX3_next) := rfl
set_option maxRecDepth 100000 in
theorem w_523 : nth lw_tbl 421 = some (.instanceMethod yX3_next) := rfl
set_option maxRecDepth 100000 in
theorem w_524 : nth lw_tbl 422 = some (.selects RX3 yX3_next yX3_next) := rfl
set_option maxRecDepth 100000 in
theorem w_525 : nth lw_tbl 1023 = some (.methodLink RL 76 yX4_next) := rfl
set_option maxRecDepth 100000 in
theorem w_526 : nth lw_tbl 1024 = some (.instanceMethod yX4_next) := rfl
set_option maxRecDepth 100000 in
theorem w_527 : nth lw_tbl 1025 = some (.selects RX4 yX4_next yX4_next) := rfl
set_option maxRecDepth 100000 in
theorem w_528 : nth lw_tbl 427 = some (.methodLink RL 77 yX3_heard) := rfl
set_option maxRecDepth 100000 in
theorem w_529 : nth lw_tbl 428 = some (.instanceMethod yX3_heard) := rfl
set_option maxRecDepth 100000 in
theorem w_530 : nth lw_tbl 429 = some (.selects RX3 yX3_heard yX3_heard) := rfl
set_option maxRecDepth 100000 in
theorem w_531 : nth lw_tbl 1027 = some (.methodLink RL 80 yX4_heard) := rfl
set_option maxRecDepth 100000 in
theorem w_532 : nth lw_tbl 1028 = some (.instanceMethod yX4_heard) := rfl
set_option maxRecDepth 100000 in
theorem w_533 : nth lw_tbl 1029 = some (.selects RX4 yX4_heard yX4_heard) := rfl
set_option maxRecDepth 100000 in
theorem w_534 : nth lw_tbl 431 = some (.methodLink RL 81 yX3_danger) := rfl
set_option maxRecDepth 100000 in
theorem w_535 : nth lw_tbl 432 = some (.instanceMethod yX3_danger) := rfl
set_option maxRecDepth 100000 in
theorem w_536 : nth lw_tbl 433 = some (.selects RX3 yX3_danger yX3_danger) := rfl
set_option maxRecDepth 100000 in
theorem w_537 : nth lw_tbl 1031 = some (.methodLink RL 84 yX4_danger) := rfl
set_option maxRecDepth 100000 in
theorem w_538 : nth lw_tbl 1032 = some (.instanceMethod yX4_danger) := rfl
set_option maxRecDepth 100000 in
theorem w_539 : nth lw_tbl 1033 = some (.selects RX4 yX4_danger yX4_danger) := rfl
set_option maxRecDepth 100000 in
theorem w_540 : nth lw_tbl 437 = some (.methodLink RL 85 yX3_stand) := rfl
set_option maxRecDepth 100000 in
theorem w_541 : nth lw_tbl 438 = some (.instanceMethod yX3_stand) := rfl
set_option maxRecDepth 100000 in
theorem w_542 : nth lw_tbl 439 = some (.selects RX3 yX3_stand yX3_stand) := rfl
set_option maxRecDepth 100000 in
theorem w_543 : nth lw_tbl 1035 = some (.methodLink RL 88 yX4_stand) := rfl
set_option maxRecDepth 100000 in
theorem w_544 : nth lw_tbl 1036 = some (.instanceMethod yX4_stand) := rfl
set_option maxRecDepth 100000 in
theorem w_545 : nth lw_tbl 1037 = some (.selects RX4 yX4_stand yX4_stand) := rfl
set_option maxRecDepth 100000 in
theorem w_546 : nth lw_tbl 445 = some (.methodLink RL 89 yX3_off) := rfl
set_option maxRecDepth 100000 in
theorem w_547 : nth lw_tbl 446 = some (.instanceMethod yX3_off) := rfl
set_option maxRecDepth 100000 in
theorem w_548 : nth lw_tbl 447 = some (.selects RX3 yX3_off yX3_off) := rfl
set_option maxRecDepth 100000 in
theorem w_549 : nth lw_tbl 1040 = some (.methodLink RL 92 yX4_off) := rfl
set_option maxRecDepth 100000 in
theorem w_550 : nth lw_tbl 1041 = some (.instanceMethod yX4_off) := rfl
set_option maxRecDepth 100000 in
theorem w_551 : nth lw_tbl 1042 = some (.selects RX4 yX4_off yX4_off) := rfl
set_option maxRecDepth 100000 in
theorem w_552 : nth lw_tbl 454 = some (.methodLink RL 93 yX3_ears) := rfl
set_option maxRecDepth 100000 in
theorem w_553 : nth lw_tbl 455 = some (.instanceMethod yX3_ears) := rfl
set_option maxRecDepth 100000 in
theorem w_554 : nth lw_tbl 456 = some (.selects RX3 yX3_ears yX3_ears) := rfl
set_option maxRecDepth 100000 in
theorem w_555 : nth lw_tbl 1044 = some (.methodLink RL 96 yX4_ears) := rfl
set_option maxRecDepth 100000 in
theorem w_556 : nth lw_tbl 1045 = some (.instanceMethod yX4_ears) := rfl
set_option maxRecDepth 100000 in
theorem w_557 : nth lw_tbl 1046 = some (.selects RX4 yX4_ears yX4_ears) := rfl
set_option maxRecDepth 100000 in
theorem w_558 : nth lw_tbl 459 = some (.methodLink RL 97 yX3_side) := rfl
set_option maxRecDepth 100000 in
theorem w_559 : nth lw_tbl 460 = some (.instanceMethod yX3_side) := rfl
set_option maxRecDepth 100000 in
theorem w_560 : nth lw_tbl 461 = some (.selects RX3 yX3_side yX3_side) := rfl
set_option maxRecDepth 100000 in
theorem w_561 : nth lw_tbl 1052 = some (.methodLink RL 100 yX4_side) := rfl
set_option maxRecDepth 100000 in
theorem w_562 : nth lw_tbl 1053 = some (.instanceMethod yX4_side) := rfl
set_option maxRecDepth 100000 in
theorem w_563 : nth lw_tbl 1054 = some (.selects RX4 yX4_side yX4_side) := rfl
set_option maxRecDepth 100000 in
theorem w_564 : nth lw_tbl 476 = some (.methodLink RL 101 yX3_free) := rfl
set_option maxRecDepth 100000 in
theorem w_565 : nth lw_tbl 477 = some (.instanceMethod yX3_free) := rfl
set_option maxRecDepth 100000 in
theorem w_566 : nth lw_tbl 478 = some (.selects RX3 yX3_free yX3_free) := rfl
set_option maxRecDepth 100000 in
theorem w_567 : nth lw_tbl 1064 = some (.methodLink RL 104 yX4_free) := rfl
set_option maxRecDepth 100000 in
theorem w_568 : nth lw_tbl 1065 = some (.instanceMethod yX4_free) := rfl
set_option maxRecDepth 100000 in
theorem w_569 : nth lw_tbl 1066 = some (.selects RX4 yX4_free yX4_free) := rfl
set_option maxRecDepth 100000 in
theorem w_570 : nth lw_tbl 488 = some (.methodLink RL 105 yX3_whatIs) := rfl
set_option maxRecDepth 100000 in
theorem w_571 : nth lw_tbl 489 = some (.instanceMethod yX3_whatIs) := rfl
set_option maxRecDepth 100000 in
theorem w_572 : nth lw_tbl 490 = some (.selects RX3 yX3_whatIs yX3_whatIs) := rfl
set_option maxRecDepth 100000 in
theorem w_573 : nth lw_tbl 1076 = some (.methodLink RL 108 yX4_whatIs) := rfl
set_option maxRecDepth 100000 in
theorem w_574 : nth lw_tbl 1077 = some (.instanceMethod yX4_whatIs) := rfl
set_option maxRecDepth 100000 in
theorem w_575 : nth lw_tbl 1078 = some (.selects RX4 yX4_whatIs yX4_whatIs) := rfl
set_option maxRecDepth 100000 in
theorem w_576 : nth lw_tbl 505 = some (.methodLink RL 109 yX3_whereFrom) := rfl
set_option maxRecDepth 100000 in
theorem w_577 : nth lw_tbl 506 = some (.instanceMethod yX3_whereFrom) := rfl
set_option maxRecDepth 100000 in
theorem w_578 : nth lw_tbl 507 = some (.selects RX3 yX3_whereFrom yX3_whereFrom) := rfl
set_option maxRecDepth 100000 in
theorem w_579 : nth lw_tbl 1095 = some (.methodLink RL 112 yX4_whereFrom) := rfl
set_option maxRecDepth 100000 in
theorem w_580 : nth lw_tbl 1096 = some (.instanceMethod yX4_whereFrom) := rfl
set_option maxRecDepth 100000 in
theorem w_581 : nth lw_tbl 1097 = some (.selects RX4 yX4_whereFrom yX4_whereFrom) := rfl
set_option maxRecDepth 100000 in
theorem w_582 : nth lw_tbl 509 = some (.methodLink RL 113 yX3_two) := rfl
set_option maxRecDepth 100000 in
theorem w_583 : nth lw_tbl 510 = some (.instanceMethod yX3_two) := rfl
set_option maxRecDepth 100000 in
theorem w_584 : nth lw_tbl 511 = some (.selects RX3 yX3_two yX3_two) := rfl
set_option maxRecDepth 100000 in
theorem w_585 : nth lw_tbl 1099 = some (.methodLink RL 116 yX4_two) := rfl
set_option maxRecDepth 100000 in
theorem w_586 : nth lw_tbl 1100 = some (.instanceMethod yX4_two) := rfl
set_option maxRecDepth 100000 in
theorem w_587 : nth lw_tbl 1101 = some (.selects RX4 yX4_two yX4_two) := rfl
set_option maxRecDepth 100000 in
theorem w_588 : nth lw_tbl 521 = some (.methodLink RL 117 yX3_rain) := rfl
set_option maxRecDepth 100000 in
theorem w_589 : nth lw_tbl 522 = some (.instanceMethod yX3_rain) := rfl
set_option maxRecDepth 100000 in
theorem w_590 : nth lw_tbl 523 = some (.selects RX3 yX3_rain yX3_rain) := rfl
set_option maxRecDepth 100000 in
theorem w_591 : nth lw_tbl 1107 = some (.methodLink RL 121 yX4_rain) := rfl
set_option maxRecDepth 100000 in
theorem w_592 : nth lw_tbl 1108 = some (.instanceMethod yX4_rain) := rfl
set_option maxRecDepth 100000 in
theorem w_593 : nth lw_tbl 1109 = some (.selects RX4 yX4_rain yX4_rain) := rfl
set_option maxRecDepth 100000 in
theorem w_594 : nth lw_tbl 532 = some (.methodLink RL 122 yX3_share) := rfl
set_option maxRecDepth 100000 in
theorem w_595 : nth lw_tbl 533 = some (.instanceMethod yX3_share) := rfl
set_option maxRecDepth 100000 in
theorem w_596 : nth lw_tbl 534 = some (.selects RX3 yX3_share yX3_share) := rfl
set_option maxRecDepth 100000 in
theorem w_597 : nth lw_tbl 1118 = some (.methodLink RL 125 yX4_share) := rfl
set_option maxRecDepth 100000 in
theorem w_598 : nth lw_tbl 1119 = some (.instanceMethod yX4_share) := rfl
set_option maxRecDepth 100000 in
theorem w_599 : nth lw_tbl 1120 = some (.selects RX4 yX4_share yX4_share) := rfl
set_option maxRecDepth 100000 in
theorem w_600 : nth lw_tbl 536 = some (.methodLink RL 126 yX3_forged) := rfl
set_option maxRecDepth 100000 in
theorem w_601 : nth lw_tbl 537 = some (.instanceMethod yX3_forged) := rfl
set_option maxRecDepth 100000 in
theorem w_602 : nth lw_tbl 538 = some (.selects RX3 yX3_forged yX3_forged) := rfl
set_option maxRecDepth 100000 in
theorem w_603 : nth lw_tbl 1122 = some (.methodLink RL 129 yX4_forged) := rfl
set_option maxRecDepth 100000 in
theorem w_604 : nth lw_tbl 1123 = some (.instanceMethod yX4_forged) := rfl
set_option maxRecDepth 100000 in
theorem w_605 : nth lw_tbl 1124 = some (.selects RX4 yX4_forged yX4_forged) := rfl
set_option maxRecDepth 100000 in
theorem w_606 : nth lw_tbl 540 = some (.methodLink RL 130 yX3_judge) := rfl
set_option maxRecDepth 100000 in
theorem w_607 : nth lw_tbl 541 = some (.instanceMethod yX3_judge) := rfl
set_option maxRecDepth 100000 in
theorem w_608 : nth lw_tbl 542 = some (.selects RX3 yX3_judge yX3_judge) := rfl
set_option maxRecDepth 100000 in
theorem w_609 : nth lw_tbl 1126 = some (.methodLink RL 133 yX4_judge) := rfl
set_option maxRecDepth 100000 in
theorem w_610 : nth lw_tbl 1127 = some (.instanceMethod yX4_judge) := rfl
set_option maxRecDepth 100000 in
theorem w_611 : nth lw_tbl 1128 = some (.selects RX4 yX4_judge yX4_judge) := rfl
set_option maxRecDepth 100000 in
theorem w_612 : nth lw_tbl 544 = some (.methodLink RL 134 yX3_games) := rfl
set_option maxRecDepth 100000 in
theorem w_613 : nth lw_tbl 545 = some (.instanceMethod yX3_games) := rfl
set_option maxRecDepth 100000 in
theorem w_614 : nth lw_tbl 546 = some (.selects RX3 yX3_games yX3_games) := rfl
set_option maxRecDepth 100000 in
theorem w_615 : nth lw_tbl 1130 = some (.methodLink RL 137 yX4_games) := rfl
set_option maxRecDepth 100000 in
theorem w_616 : nth lw_tbl 1131 = some (.instanceMethod yX4_games) := rfl
set_option maxRecDepth 100000 in
theorem w_617 : nth lw_tbl 1132 = some (.selects RX4 yX4_games yX4_games) := rfl
set_option maxRecDepth 100000 in
theorem w_618 : nth lw_tbl 563 = some (.methodLink RL 138 yX3_image) := rfl
set_option maxRecDepth 100000 in
theorem w_619 : nth lw_tbl 564 = some (.instanceMethod yX3_image) := rfl
set_option maxRecDepth 100000 in
theorem w_620 : nth lw_tbl 565 = some (.selects RX3 yX3_image yX3_image) := rfl
set_option maxRecDepth 100000 in
theorem w_621 : nth lw_tbl 1145 = some (.methodLink RL 141 yX4_image) := rfl
set_option maxRecDepth 100000 in
theorem w_622 : nth lw_tbl 1146 = some (.instanceMethod yX4_image) := rfl
set_option maxRecDepth 100000 in
theorem w_623 : nth lw_tbl 1147 = some (.selects RX4 yX4_image yX4_image) := rfl
set_option maxRecDepth 100000 in
theorem w_624 : nth lw_tbl 567 = some (.methodLink RL 142 yX3_restore) := rfl
set_option maxRecDepth 100000 in
theorem w_625 : nth lw_tbl 568 = some (.instanceMethod yX3_restore) := rfl
set_option maxRecDepth 100000 in
theorem w_626 : nth lw_tbl 569 = some (.selects RX3 yX3_restore yX3_restore) := rfl
set_option maxRecDepth 100000 in
theorem w_627 : nth lw_tbl 1149 = some (.methodLink RL 145 yX4_restore) := rfl
set_option maxRecDepth 100000 in
theorem w_628 : nth lw_tbl 1150 = some (.instanceMethod yX4_restore) := rfl
set_option maxRecDepth 100000 in
theorem w_629 : nth lw_tbl 1151 = some (.selects RX4 yX4_restore yX4_restore) := rfl
set_option maxRecDepth 100000 in
theorem w_630 : nth lw_tbl 571 = some (.methodLink RL 146 yX3_count) := rfl
set_option maxRecDepth 100000 in
theorem w_631 : nth lw_tbl 572 = some (.instanceMethod yX3_count) := rfl
set_option maxRecDepth 100000 in
theorem w_632 : nth lw_tbl 573 = some (.selects RX3 yX3_count yX3_count) := rfl
set_option maxRecDepth 100000 in
theorem w_633 : nth lw_tbl 1153 = some (.methodLink RL 149 yX4_count) := rfl
set_option maxRecDepth 100000 in
theorem w_634 : nth lw_tbl 1154 = some (.instanceMethod yX4_count) := rfl
set_option maxRecDepth 100000 in
theorem w_635 : nth lw_tbl 1155 = some (.selects RX4 yX4_count yX4_count) := rfl
set_option maxRecDepth 100000 in
theorem w_636 : nth lw_tbl 575 = some (.methodLink RL 150 yX3_keep) := rfl
set_option maxRecDepth 100000 in
theorem w_637 : nth lw_tbl 576 = some (.instanceMethod yX3_keep) := rfl
set_option maxRecDepth 100000 in
theorem w_638 : nth lw_tbl 577 = some (.selects RX3 yX3_keep yX3_keep) := rfl
set_option maxRecDepth 100000 in
theorem w_639 : nth lw_tbl 1161 = some (.methodLink RL 154 yX4_keep) := rfl
set_option maxRecDepth 100000 in
theorem w_640 : nth lw_tbl 1162 = some (.instanceMethod yX4_keep) := rfl
set_option maxRecDepth 100000 in
theorem w_641 : nth lw_tbl 1163 = some (.selects RX4 yX4_keep yX4_keep) := rfl
set_option maxRecDepth 100000 in
theorem w_642 : nth lw_tbl 581 = some (.methodLink RL 155 yX3_row) := rfl
set_option maxRecDepth 100000 in
theorem w_643 : nth lw_tbl 582 = some (.instanceMethod yX3_row) := rfl
set_option maxRecDepth 100000 in
theorem w_644 : nth lw_tbl 583 = some (.selects RX3 yX3_row yX3_row) := rfl
set_option maxRecDepth 100000 in
theorem w_645 : nth lw_tbl 1165 = some (.methodLink RL 158 yX4_row) := rfl
set_option maxRecDepth 100000 in
theorem w_646 : nth lw_tbl 1166 = some (.instanceMethod yX4_row) := rfl
set_option maxRecDepth 100000 in
theorem w_647 : nth lw_tbl 1167 = some (.selects RX4 yX4_row yX4_row) := rfl
set_option maxRecDepth 100000 in
theorem w_648 : nth lw_tbl 590 = some (.methodLink RL 159 yX3_put) := rfl
set_option maxRecDepth 100000 in
theorem w_649 : nth lw_tbl 591 = some (.instanceMethod yX3_put) := rfl
set_option maxRecDepth 100000 in
theorem w_650 : nth lw_tbl 592 = some (.selects RX3 yX3_put yX3_put) := rfl
set_option maxRecDepth 100000 in
theorem w_651 : nth lw_tbl 1169 = some (.methodLink RL 162 yX4_put) := rfl
set_option maxRecDepth 100000 in
theorem w_652 : nth lw_tbl 1170 = some (.instanceMethod yX4_put) := rfl
set_option maxRecDepth 100000 in
theorem w_653 : nth lw_tbl 1171 = some (.selects RX4 yX4_put yX4_put) := rfl
set_option maxRecDepth 100000 in
theorem w_654 : nth lw_tbl 1173 = some (.methodLink RL 168 yX4_element) := rfl
set_option maxRecDepth 100000 in
theorem w_655 : nth lw_tbl 1174 = some (.instanceMethod yX4_element) := rfl
set_option maxRecDepth 100000 in
theorem w_656 : nth lw_tbl 1175 = some (.selects RX4 yX4_element yX4_element) := rfl
set_option maxRecDepth 100000 in
theorem w_657 : nth lw_tbl 1157 = some (.methodLink RL 169 yX4_thrown) := rfl
set_option maxRecDepth 100000 in
theorem w_658 : nth lw_tbl 1158 = some (.instanceMethod yX4_thrown) := rfl
set_option maxRecDepth 100000 in
theorem w_659 : nth lw_tbl 1159 = some (.selects RX4 yX4_thrown yX4_thrown) := rfl
set_option maxRecDepth 100000 in
theorem w_660 : nth lw_tbl 598 = some (.methodLink RL 172 yX3_copy) := rfl
set_option maxRecDepth 100000 in
theorem w_661 : nth lw_tbl 599 = some (.instanceMethod yX3_copy) := rfl
set_option maxRecDepth 100000 in
theorem w_662 : nth lw_tbl 600 = some (.selects RX3 yX3_copy yX3_copy) := rfl
set_option maxRecDepth 100000 in
theorem w_663 : nth lw_tbl 1177 = some (.methodLink RL 176 yX4_copy) := rfl
set_option maxRecDepth 100000 in
theorem w_664 : nth lw_tbl 1178 = some (.instanceMethod yX4_copy) := rfl
set_option maxRecDepth 100000 in
theorem w_665 : nth lw_tbl 1179 = some (.selects RX4 yX4_copy yX4_copy) := rfl
set_option maxRecDepth 100000 in
theorem w_666 : nth lw_tbl 607 = some (.methodLink RL 177 yX3_cost) := rfl
set_option maxRecDepth 100000 in
theorem w_667 : nth lw_tbl 608 = some (.instanceMethod yX3_cost) := rfl
set_option maxRecDepth 100000 in
theorem w_668 : nth lw_tbl 609 = some (.selects RX3 yX3_cost yX3_cost) := rfl
set_option maxRecDepth 100000 in
theorem w_669 : nth lw_tbl 1181 = some (.methodLink RL 180 yX4_cost) := rfl
set_option maxRecDepth 100000 in
theorem w_670 : nth lw_tbl 1182 = some (.instanceMethod yX4_cost) := rfl
set_option maxRecDepth 100000 in
theorem w_671 : nth lw_tbl 1183 = some (.selects RX4 yX4_cost yX4_cost) := rfl
set_option maxRecDepth 100000 in
theorem w_672 : nth lw_tbl 1188 = some (.methodLink RL 184 yX4_toss) := rfl
set_option maxRecDepth 100000 in
theorem w_673 : nth lw_tbl 1189 = some (.instanceMethod yX4_toss) := rfl
set_option maxRecDepth 100000 in
theorem w_674 : nth lw_tbl 1190 = some (.selects RX4 yX4_toss yX4_toss) := rfl
set_option maxRecDepth 100000 in
theorem cv_0 : cvP (0, 52, 1, 2) := ⟨iX0_has, rfl, ⟨nth_mem w_190, rfl⟩, ⟨nth_mem w_192, rfl⟩, ⟨nth_mem w_191, rfl⟩, ⟨nth_mem w_193, rfl⟩, by decide, by decide +kernel⟩
set_option maxRecDepth 100000 in
theorem cv_1 : cvP (0, 56, 2, 2) := ⟨iX0_isThere, rfl, ⟨nth_mem w_194, rfl⟩, ⟨nth_mem w_195, rfl⟩, ⟨nth_mem w_191, rfl⟩, ⟨nth_mem w_196, rfl⟩, by decide, by decide +kernel⟩
set_option maxRecDepth 100000 in
theorem cv_2 : cvP (0, 68, 6, 2) := ⟨iX0_isFree, rfl, ⟨nth_mem w_197, rfl⟩, ⟨nth_mem w_198, rfl⟩, ⟨nth_mem w_191, rfl⟩, ⟨nth_mem w_199, rfl⟩, by decide, by decide +kernel⟩
set_option maxRecDepth 100000 in
theorem cv_3 : cvP (0, 74, 13, 2) := ⟨iX0_takeOff, rfl, ⟨nth_mem w_200, rfl⟩, ⟨nth_mem w_201, rfl⟩, ⟨nth_mem w_191, rfl⟩, ⟨nth_mem w_202, rfl⟩, by decide, by decide +kernel⟩
set_option maxRecDepth 100000 in
theorem cv_4 : cvP (0, 77, 31, 3) := ⟨iX0_passDay, rfl, ⟨nth_mem w_203, rfl⟩, ⟨nth_mem w_204, rfl⟩, ⟨nth_mem w_191, rfl⟩, ⟨nth_mem w_205, rfl⟩, by decide, by decide +kernel⟩
set_option maxRecDepth 100000 in
theorem cv_5 : cvP (0, 81, 30, 4) := ⟨iX0_goerOn, rfl, ⟨nth_mem w_206, rfl⟩, ⟨nth_mem w_207, rfl⟩, ⟨nth_mem w_191, rfl⟩, ⟨nth_mem w_208, rfl⟩, by decide, by decide +kernel⟩
set_option maxRecDepth 100000 in
theorem cv_6 : cvP (0, 85, 25, 3) := ⟨iX0_ideaOf, rfl, ⟨nth_mem w_209, rfl⟩, ⟨nth_mem w_210, rfl⟩, ⟨nth_mem w_191, rfl⟩, ⟨nth_mem w_211, rfl⟩, by decide, by decide +kernel⟩
set_option maxRecDepth 100000 in
theorem cv_7 : cvP (0, 89, 14, 3) := ⟨iX0_movePiece, rfl, ⟨nth_mem w_212, rfl⟩, ⟨nth_mem w_213, rfl⟩, ⟨nth_mem w_191, rfl⟩, ⟨nth_mem w_214, rfl⟩, by decide, by decide +kernel⟩
set_option maxRecDepth 100000 in
theorem cv_8 : cvP (0, 93, 3, 3) := ⟨iX0_isThereOf, rfl, ⟨nth_mem w_215, rfl⟩, ⟨nth_mem w_216, rfl⟩, ⟨nth_mem w_191, rfl⟩, ⟨nth_mem w_217, rfl⟩, by decide, by decide +kernel⟩
set_option maxRecDepth 100000 in
theorem cv_9 : cvP (0, 96, 27, 3) := ⟨iX0_hearersOf, rfl, ⟨nth_mem w_218, rfl⟩, ⟨nth_mem w_219, rfl⟩, ⟨nth_mem w_191, rfl⟩, ⟨nth_mem w_220, rfl⟩, by decide, by decide +kernel⟩
set_option maxRecDepth 100000 in
theorem cv_10 : cvP (0, 106, 29, 2) := ⟨iX0_howManyOf, rfl, ⟨nth_mem w_221, rfl⟩, ⟨nth_mem w_222, rfl⟩, ⟨nth_mem w_191, rfl⟩, ⟨nth_mem w_223, rfl⟩, by decide, by decide +kernel⟩
set_option maxRecDepth 100000 in
theorem cv_11 : cvP (0, 117, 19, 2) := ⟨iX0_knightIdea, rfl, ⟨nth_mem w_224, rfl⟩, ⟨nth_mem w_225, rfl⟩, ⟨nth_mem w_191, rfl⟩, ⟨nth_mem w_226, rfl⟩, by decide, by decide +kernel⟩
set_option maxRecDepth 100000 in
theorem cv_12 : cvP (0, 120, 20, 4) := ⟨iX0_slideIdea, rfl, ⟨nth_mem w_227, rfl⟩, ⟨nth_mem w_228, rfl⟩, ⟨nth_mem w_191, rfl⟩, ⟨nth_mem w_229, rfl⟩, by decide, by decide +kernel⟩
set_option maxRecDepth 100000 in
theorem cv_13 : cvP (0, 124, 21, 3) := ⟨iX0_bishopIdea, rfl, ⟨nth_mem w_230, rfl⟩, ⟨nth_mem w_231, rfl⟩, ⟨nth_mem w_191, rfl⟩, ⟨nth_mem w_232, rfl⟩, by decide, by decide +kernel⟩
set_option maxRecDepth 100000 in
theorem cv_14 : cvP (0, 127, 23, 2) := ⟨iX0_kingIdea, rfl, ⟨nth_mem w_233, rfl⟩, ⟨nth_mem w_234, rfl⟩, ⟨nth_mem w_191, rfl⟩, ⟨nth_mem w_235, rfl⟩, by decide, by decide +kernel⟩
set_option maxRecDepth 100000 in
theorem cv_15 : cvP (0, 130, 18, 4) := ⟨iX0_squareFrom, rfl, ⟨nth_mem w_236, rfl⟩, ⟨nth_mem w_237, rfl⟩, ⟨nth_mem w_191, rfl⟩, ⟨nth_mem w_238, rfl⟩, by decide, by decide +kernel⟩
set_option maxRecDepth 100000 in
theorem cv_16 : cvP (0, 133, 24, 2) := ⟨iX0_pawnIdea, rfl, ⟨nth_mem w_239, rfl⟩, ⟨nth_mem w_240, rfl⟩, ⟨nth_mem w_191, rfl⟩, ⟨nth_mem w_241, rfl⟩, by decide, by decide +kernel⟩
set_option maxRecDepth 100000 in
theorem cv_17 : cvP (0, 136, 7, 3) := ⟨iX0_isHeldBy, rfl, ⟨nth_mem w_242, rfl⟩, ⟨nth_mem w_243, rfl⟩, ⟨nth_mem w_191, rfl⟩, ⟨nth_mem w_244, rfl⟩, by decide, by decide +kernel⟩
set_option maxRecDepth 100000 in
theorem cv_18 : cvP (0, 142, 37, 2) := ⟨iX0_worthOf, rfl, ⟨nth_mem w_245, rfl⟩, ⟨nth_mem w_246, rfl⟩, ⟨nth_mem w_191, rfl⟩, ⟨nth_mem w_247, rfl⟩, by decide, by decide +kernel⟩
set_option maxRecDepth 100000 in
theorem cv_19 : cvP (0, 145, 40, 2) := ⟨iX0_groupAround, rfl, ⟨nth_mem w_248, rfl⟩, ⟨nth_mem w_249, rfl⟩, ⟨nth_mem w_191, rfl⟩, ⟨nth_mem w_250, rfl⟩, by decide, by decide +kernel⟩
set_option maxRecDepth 100000 in
theorem cv_20 : cvP (1, 37, 48, 2) := ⟨iX2_hasPlace, rfl, ⟨nth_mem w_251, rfl⟩, ⟨nth_mem w_253, rfl⟩, ⟨nth_mem w_252, rfl⟩, ⟨nth_mem w_254, rfl⟩, by decide, by decide +kernel⟩
set_option maxRecDepth 100000 in
theorem cv_21 : cvP (1, 42, 50, 2) := ⟨iX2_elementAt, rfl, ⟨nth_mem w_255, rfl⟩, ⟨nth_mem w_256, rfl⟩, ⟨nth_mem w_252, rfl⟩, ⟨nth_mem w_257, rfl⟩, by decide, by decide +kernel⟩
set_option maxRecDepth 100000 in
theorem cv_22 : cvP (1, 46, 53, 2) := ⟨iX2_digitsBehind, rfl, ⟨nth_mem w_258, rfl⟩, ⟨nth_mem w_259, rfl⟩, ⟨nth_mem w_252, rfl⟩, ⟨nth_mem w_260, rfl⟩, by decide, by decide +kernel⟩
set_option maxRecDepth 100000 in
theorem cv_23 : cvP (1, 49, 55, 2) := ⟨iX2_digitAt, rfl, ⟨nth_mem w_261, rfl⟩, ⟨nth_mem w_262, rfl⟩, ⟨nth_mem w_252, rfl⟩, ⟨nth_mem w_263, rfl⟩, by decide, by decide +kernel⟩
set_option maxRecDepth 100000 in
theorem cv_24 : cvP (2, 51, 57, 2) := ⟨iX3_shelfAt, rfl, ⟨nth_mem w_264, rfl⟩, ⟨nth_mem w_265, rfl⟩, ⟨nth_mem w_90, rfl⟩, ⟨nth_mem w_266, rfl⟩, by decide, by decide +kernel⟩
set_option maxRecDepth 100000 in
theorem cv_25 : cvP (2, 62, 54, 1) := ⟨iX2_wrongByte, rfl, ⟨nth_mem w_267, rfl⟩, ⟨nth_mem w_268, rfl⟩, ⟨nth_mem w_252, rfl⟩, ⟨nth_mem w_269, rfl⟩, by decide, by decide +kernel⟩
set_option maxRecDepth 100000 in
theorem cv_26 : cvP (2, 66, 0, 2) := ⟨iX0_becomes, rfl, ⟨nth_mem w_270, rfl⟩, ⟨nth_mem w_271, rfl⟩, ⟨nth_mem w_191, rfl⟩, ⟨nth_mem w_272, rfl⟩, by decide, by decide +kernel⟩
set_option maxRecDepth 100000 in
theorem cv_27 : cvP (2, 73, 59, 3) := ⟨iX3_isDone, rfl, ⟨nth_mem w_273, rfl⟩, ⟨nth_mem w_274, rfl⟩, ⟨nth_mem w_90, rfl⟩, ⟨nth_mem w_275, rfl⟩, by decide, by decide +kernel⟩
set_option maxRecDepth 100000 in
theorem cv_28 : cvP (2, 77, 53, 2) := ⟨iX2_digitsBehind, rfl, ⟨nth_mem w_276, rfl⟩, ⟨nth_mem w_259, rfl⟩, ⟨nth_mem w_252, rfl⟩, ⟨nth_mem w_260, rfl⟩, by decide, by decide +kernel⟩
set_option maxRecDepth 100000 in
theorem cv_29 : cvP (2, 87, 1, 2) := ⟨iX0_has, rfl, ⟨nth_mem w_277, rfl⟩, ⟨nth_mem w_192, rfl⟩, ⟨nth_mem w_191, rfl⟩, ⟨nth_mem w_193, rfl⟩, by decide, by decide +kernel⟩
set_option maxRecDepth 100000 in
theorem cv_30 : cvP (2, 100, 5, 2) := ⟨iX0_squareOrNone, rfl, ⟨nth_mem w_278, rfl⟩, ⟨nth_mem w_279, rfl⟩, ⟨nth_mem w_191, rfl⟩, ⟨nth_mem w_280, rfl⟩, by decide, by decide +kernel⟩
set_option maxRecDepth 100000 in
theorem cv_31 : cvP (2, 114, 25, 3) := ⟨iX0_ideaOf, rfl, ⟨nth_mem w_281, rfl⟩, ⟨nth_mem w_210, rfl⟩, ⟨nth_mem w_191, rfl⟩, ⟨nth_mem w_211, rfl⟩, by decide, by decide +kernel⟩
set_option maxRecDepth 100000 in
theorem cv_32 : cvP (2, 133, 11, 5) := ⟨iX0_addPiece, rfl, ⟨nth_mem w_282, rfl⟩, ⟨nth_mem w_283, rfl⟩, ⟨nth_mem w_191, rfl⟩, ⟨nth_mem w_284, rfl⟩, by decide, by decide +kernel⟩
set_option maxRecDepth 100000 in
theorem cv_33 : cvP (2, 137, 14, 3) := ⟨iX0_movePiece, rfl, ⟨nth_mem w_285, rfl⟩, ⟨nth_mem w_213, rfl⟩, ⟨nth_mem w_191, rfl⟩, ⟨nth_mem w_214, rfl⟩, by decide, by decide +kernel⟩
set_option maxRecDepth 100000 in
theorem cv_34 : cvP (2, 141, 13, 2) := ⟨iX0_takeOff, rfl, ⟨nth_mem w_286, rfl⟩, ⟨nth_mem w_201, rfl⟩, ⟨nth_mem w_191, rfl⟩, ⟨nth_mem w_202, rfl⟩, by decide, by decide +kernel⟩
set_option maxRecDepth 100000 in
theorem cv_35 : cvP (2, 147, 17, 2) := ⟨iX0_giveTurn, rfl, ⟨nth_mem w_287, rfl⟩, ⟨nth_mem w_288, rfl⟩, ⟨nth_mem w_191, rfl⟩, ⟨nth_mem w_289, rfl⟩, by decide, by decide +kernel⟩
set_option maxRecDepth 100000 in
theorem cv_36 : cvP (2, 150, 32, 2) := ⟨iX0_passWithinLast, rfl, ⟨nth_mem w_290, rfl⟩, ⟨nth_mem w_291, rfl⟩, ⟨nth_mem w_191, rfl⟩, ⟨nth_mem w_292, rfl⟩, by decide, by decide +kernel⟩
set_option maxRecDepth 100000 in
theorem cv_37 : cvP (2, 153, 34, 1) := ⟨iX0_howManyThere, rfl, ⟨nth_mem w_293, rfl⟩, ⟨nth_mem w_294, rfl⟩, ⟨nth_mem w_191, rfl⟩, ⟨nth_mem w_295, rfl⟩, by decide, by decide +kernel⟩
set_option maxRecDepth 100000 in
theorem cv_38 : cvP (2, 156, 68, 2) := ⟨iX3_lookAhead, rfl, ⟨nth_mem w_296, rfl⟩, ⟨nth_mem w_297, rfl⟩, ⟨nth_mem w_90, rfl⟩, ⟨nth_mem w_298, rfl⟩, by decide, by decide +kernel⟩
set_option maxRecDepth 100000 in
theorem cv_39 : cvP (2, 160, 35, 1) := ⟨iX0_bitsThere, rfl, ⟨nth_mem w_299, rfl⟩, ⟨nth_mem w_300, rfl⟩, ⟨nth_mem w_191, rfl⟩, ⟨nth_mem w_301, rfl⟩, by decide, by decide +kernel⟩
set_option maxRecDepth 100000 in
theorem cv_40 : cvP (2, 166, 37, 2) := ⟨iX0_worthOf, rfl, ⟨nth_mem w_302, rfl⟩, ⟨nth_mem w_246, rfl⟩, ⟨nth_mem w_191, rfl⟩, ⟨nth_mem w_247, rfl⟩, by decide, by decide +kernel⟩
set_option maxRecDepth 100000 in
theorem cv_41 : cvP (2, 169, 71, 1) := ⟨iX3_firstToFall, rfl, ⟨nth_mem w_303, rfl⟩, ⟨nth_mem w_304, rfl⟩, ⟨nth_mem w_90, rfl⟩, ⟨nth_mem w_305, rfl⟩, by decide, by decide +kernel⟩
set_option maxRecDepth 100000 in
theorem cv_42 : cvP (2, 172, 2, 2) := ⟨iX0_isThere, rfl, ⟨nth_mem w_306, rfl⟩, ⟨nth_mem w_195, rfl⟩, ⟨nth_mem w_191, rfl⟩, ⟨nth_mem w_196, rfl⟩, by decide, by decide +kernel⟩
set_option maxRecDepth 100000 in
theorem cv_43 : cvP (2, 175, 31, 3) := ⟨iX0_passDay, rfl, ⟨nth_mem w_307, rfl⟩, ⟨nth_mem w_204, rfl⟩, ⟨nth_mem w_191, rfl⟩, ⟨nth_mem w_205, rfl⟩, by decide, by decide +kernel⟩
set_option maxRecDepth 100000 in
theorem cv_44 : cvP (2, 179, 30, 4) := ⟨iX0_goerOn, rfl, ⟨nth_mem w_308, rfl⟩, ⟨nth_mem w_207, rfl⟩, ⟨nth_mem w_191, rfl⟩, ⟨nth_mem w_208, rfl⟩, by decide, by decide +kernel⟩
set_option maxRecDepth 100000 in
theorem cv_45 : cvP (2, 183, 27, 3) := ⟨iX0_hearersOf, rfl, ⟨nth_mem w_309, rfl⟩, ⟨nth_mem w_219, rfl⟩, ⟨nth_mem w_191, rfl⟩, ⟨nth_mem w_220, rfl⟩, by decide, by decide +kernel⟩
set_option maxRecDepth 100000 in
theorem cv_46 : cvP (2, 192, 3, 3) := ⟨iX0_isThereOf, rfl, ⟨nth_mem w_310, rfl⟩, ⟨nth_mem w_216, rfl⟩, ⟨nth_mem w_191, rfl⟩, ⟨nth_mem w_217, rfl⟩, by decide, by decide +kernel⟩
set_option maxRecDepth 100000 in
theorem cv_47 : cvP (2, 195, 7, 3) := ⟨iX0_isHeldBy, rfl, ⟨nth_mem w_311, rfl⟩, ⟨nth_mem w_243, rfl⟩, ⟨nth_mem w_191, rfl⟩, ⟨nth_mem w_244, rfl⟩, by decide, by decide +kernel⟩
set_option maxRecDepth 100000 in
theorem cv_48 : cvP (2, 198, 77, 3) := ⟨iX3_placeInMind, rfl, ⟨nth_mem w_312, rfl⟩, ⟨nth_mem w_313, rfl⟩, ⟨nth_mem w_90, rfl⟩, ⟨nth_mem w_314, rfl⟩, by decide, by decide +kernel⟩
set_option maxRecDepth 100000 in
theorem cv_49 : cvP (2, 201, 33, 2) := ⟨iX0_passDays, rfl, ⟨nth_mem w_315, rfl⟩, ⟨nth_mem w_316, rfl⟩, ⟨nth_mem w_191, rfl⟩, ⟨nth_mem w_317, rfl⟩, by decide, by decide +kernel⟩
set_option maxRecDepth 100000 in
theorem cv_50 : cvP (2, 204, 38, 2) := ⟨iX0_worthWithout, rfl, ⟨nth_mem w_318, rfl⟩, ⟨nth_mem w_319, rfl⟩, ⟨nth_mem w_191, rfl⟩, ⟨nth_mem w_320, rfl⟩, by decide, by decide +kernel⟩
set_option maxRecDepth 100000 in
theorem cv_51 : cvP (2, 213, 41, 2) := ⟨iX0_groupsOf, rfl, ⟨nth_mem w_321, rfl⟩, ⟨nth_mem w_322, rfl⟩, ⟨nth_mem w_191, rfl⟩, ⟨nth_mem w_323, rfl⟩, by decide, by decide +kernel⟩
set_option maxRecDepth 100000 in
theorem cv_52 : cvP (2, 216, 42, 2) := ⟨iX0_farthestOf, rfl, ⟨nth_mem w_324, rfl⟩, ⟨nth_mem w_325, rfl⟩, ⟨nth_mem w_191, rfl⟩, ⟨nth_mem w_326, rfl⟩, by decide, by decide +kernel⟩
set_option maxRecDepth 100000 in
theorem cv_53 : cvP (2, 219, 29, 2) := ⟨iX0_howManyOf, rfl, ⟨nth_mem w_327, rfl⟩, ⟨nth_mem w_222, rfl⟩, ⟨nth_mem w_191, rfl⟩, ⟨nth_mem w_223, rfl⟩, by decide, by decide +kernel⟩
set_option maxRecDepth 100000 in
theorem cv_54 : cvP (2, 222, 43, 1) := ⟨iX0_pairsSideBySide, rfl, ⟨nth_mem w_328, rfl⟩, ⟨nth_mem w_329, rfl⟩, ⟨nth_mem w_191, rfl⟩, ⟨nth_mem w_330, rfl⟩, by decide, by decide +kernel⟩
set_option maxRecDepth 100000 in
theorem cv_55 : cvP (2, 225, 44, 2) := ⟨iX0_quietOn, rfl, ⟨nth_mem w_331, rfl⟩, ⟨nth_mem w_332, rfl⟩, ⟨nth_mem w_191, rfl⟩, ⟨nth_mem w_333, rfl⟩, by decide, by decide +kernel⟩
set_option maxRecDepth 100000 in
theorem cv_56 : cvP (2, 228, 16, 4) := ⟨iX0_turnInto, rfl, ⟨nth_mem w_334, rfl⟩, ⟨nth_mem w_335, rfl⟩, ⟨nth_mem w_191, rfl⟩, ⟨nth_mem w_336, rfl⟩, by decide, by decide +kernel⟩
set_option maxRecDepth 100000 in
theorem cv_57 : cvP (2, 232, 83, 4) := ⟨iX3_wentAsTold, rfl, ⟨nth_mem w_337, rfl⟩, ⟨nth_mem w_338, rfl⟩, ⟨nth_mem w_90, rfl⟩, ⟨nth_mem w_339, rfl⟩, by decide, by decide +kernel⟩
set_option maxRecDepth 100000 in
theorem cv_58 : cvP (2, 236, 39, 2) := ⟨iX0_gainOf, rfl, ⟨nth_mem w_340, rfl⟩, ⟨nth_mem w_341, rfl⟩, ⟨nth_mem w_191, rfl⟩, ⟨nth_mem w_342, rfl⟩, by decide, by decide +kernel⟩
set_option maxRecDepth 100000 in
theorem cv_59 : cvP (2, 239, 86, 1) := ⟨iX3_firstPairAtRest, rfl, ⟨nth_mem w_343, rfl⟩, ⟨nth_mem w_344, rfl⟩, ⟨nth_mem w_90, rfl⟩, ⟨nth_mem w_345, rfl⟩, by decide, by decide +kernel⟩
set_option maxRecDepth 100000 in
theorem cv_60 : cvP (2, 252, 50, 2) := ⟨iX2_elementAt, rfl, ⟨nth_mem w_346, rfl⟩, ⟨nth_mem w_256, rfl⟩, ⟨nth_mem w_252, rfl⟩, ⟨nth_mem w_257, rfl⟩, by decide, by decide +kernel⟩
set_option maxRecDepth 100000 in
theorem cv_61 : cvP (2, 255, 52, 2) := ⟨iX2_isSkipped, rfl, ⟨nth_mem w_347, rfl⟩, ⟨nth_mem w_348, rfl⟩, ⟨nth_mem w_252, rfl⟩, ⟨nth_mem w_349, rfl⟩, by decide, by decide +kernel⟩
set_option maxRecDepth 100000 in
theorem cv_62 : cvP (2, 258, 95, 1) := ⟨iX3_setUpByDraws, rfl, ⟨nth_mem w_350, rfl⟩, ⟨nth_mem w_351, rfl⟩, ⟨nth_mem w_90, rfl⟩, ⟨nth_mem w_352, rfl⟩, by decide, by decide +kernel⟩
set_option maxRecDepth 100000 in
theorem cv_63 : cvP (2, 270, 47, 3) := ⟨iX2_becomesRow, rfl, ⟨nth_mem w_353, rfl⟩, ⟨nth_mem w_354, rfl⟩, ⟨nth_mem w_252, rfl⟩, ⟨nth_mem w_355, rfl⟩, by decide, by decide +kernel⟩
set_option maxRecDepth 100000 in
theorem cv_64 : cvP (2, 274, 51, 3) := ⟨iX2_putIn, rfl, ⟨nth_mem w_356, rfl⟩, ⟨nth_mem w_357, rfl⟩, ⟨nth_mem w_252, rfl⟩, ⟨nth_mem w_358, rfl⟩, by decide, by decide +kernel⟩
set_option maxRecDepth 100000 in
theorem cv_65 : cvP (2, 294, 49, 3) := ⟨iX2_hasPlaces, rfl, ⟨nth_mem w_359, rfl⟩, ⟨nth_mem w_360, rfl⟩, ⟨nth_mem w_252, rfl⟩, ⟨nth_mem w_361, rfl⟩, by decide, by decide +kernel⟩
set_option maxRecDepth 100000 in
theorem cv_66 : cvP (2, 316, 55, 2) := ⟨iX2_digitAt, rfl, ⟨nth_mem w_362, rfl⟩, ⟨nth_mem w_262, rfl⟩, ⟨nth_mem w_252, rfl⟩, ⟨nth_mem w_263, rfl⟩, by decide, by decide +kernel⟩
set_option maxRecDepth 100000 in
theorem cv_67 : cvP (2, 319, 56, 2) := ⟨iX2_twoDigitsAt, rfl, ⟨nth_mem w_363, rfl⟩, ⟨nth_mem w_364, rfl⟩, ⟨nth_mem w_252, rfl⟩, ⟨nth_mem w_365, rfl⟩, by decide, by decide +kernel⟩
set_option maxRecDepth 100000 in
theorem cv_68 : cvP (2, 322, 4, 2) := ⟨iX0_squareOf, rfl, ⟨nth_mem w_366, rfl⟩, ⟨nth_mem w_367, rfl⟩, ⟨nth_mem w_191, rfl⟩, ⟨nth_mem w_368, rfl⟩, by decide, by decide +kernel⟩
set_option maxRecDepth 100000 in
theorem cv_69 : cvP (2, 328, 15, 1) := ⟨iX0_takeAllOff, rfl, ⟨nth_mem w_369, rfl⟩, ⟨nth_mem w_370, rfl⟩, ⟨nth_mem w_191, rfl⟩, ⟨nth_mem w_371, rfl⟩, by decide, by decide +kernel⟩
set_option maxRecDepth 100000 in
theorem cv_70 : cvP (2, 331, 94, 2) := ⟨iX3_draw, rfl, ⟨nth_mem w_372, rfl⟩, ⟨nth_mem w_373, rfl⟩, ⟨nth_mem w_90, rfl⟩, ⟨nth_mem w_374, rfl⟩, by decide, by decide +kernel⟩
set_option maxRecDepth 100000 in
theorem cv_71 : cvP (3, 47, 110, 2) := ⟨iX4_isPiece, rfl, ⟨nth_mem w_375, rfl⟩, ⟨nth_mem w_376, rfl⟩, ⟨nth_mem w_112, rfl⟩, ⟨nth_mem w_377, rfl⟩, by decide, by decide +kernel⟩
set_option maxRecDepth 100000 in
theorem cv_72 : cvP (3, 146, 139, 1) := ⟨iX4_here, rfl, ⟨nth_mem w_378, rfl⟩, ⟨nth_mem w_379, rfl⟩, ⟨nth_mem w_112, rfl⟩, ⟨nth_mem w_380, rfl⟩, by decide, by decide +kernel⟩
set_option maxRecDepth 100000 in
theorem cv_73 : cvP (3, 150, 140, 3) := ⟨iX4_readsNumber, rfl, ⟨nth_mem w_381, rfl⟩, ⟨nth_mem w_382, rfl⟩, ⟨nth_mem w_112, rfl⟩, ⟨nth_mem w_383, rfl⟩, by decide, by decide +kernel⟩
set_option maxRecDepth 100000 in
theorem cv_74 : cvP (3, 159, 142, 5) := ⟨iX4_adds, rfl, ⟨nth_mem w_384, rfl⟩, ⟨nth_mem w_385, rfl⟩, ⟨nth_mem w_112, rfl⟩, ⟨nth_mem w_386, rfl⟩, by decide, by decide +kernel⟩
set_option maxRecDepth 100000 in
theorem cv_75 : cvP (3, 163, 143, 3) := ⟨iX4_mayStand, rfl, ⟨nth_mem w_387, rfl⟩, ⟨nth_mem w_388, rfl⟩, ⟨nth_mem w_112, rfl⟩, ⟨nth_mem w_389, rfl⟩, by decide, by decide +kernel⟩
set_option maxRecDepth 100000 in
theorem cv_76 : cvP (3, 170, 146, 3) := ⟨iX4_wrongRow, rfl, ⟨nth_mem w_390, rfl⟩, ⟨nth_mem w_391, rfl⟩, ⟨nth_mem w_112, rfl⟩, ⟨nth_mem w_392, rfl⟩, by decide, by decide +kernel⟩
set_option maxRecDepth 100000 in
theorem cv_77 : cvP (3, 173, 141, 1) := ⟨iX4_readsStatement, rfl, ⟨nth_mem w_393, rfl⟩, ⟨nth_mem w_394, rfl⟩, ⟨nth_mem w_112, rfl⟩, ⟨nth_mem w_395, rfl⟩, by decide, by decide +kernel⟩
set_option maxRecDepth 100000 in
theorem cv_78 : cvP (3, 181, 144, 2) := ⟨iX4_isDone, rfl, ⟨nth_mem w_396, rfl⟩, ⟨nth_mem w_397, rfl⟩, ⟨nth_mem w_112, rfl⟩, ⟨nth_mem w_398, rfl⟩, by decide, by decide +kernel⟩
set_option maxRecDepth 100000 in
theorem cv_79 : cvP (3, 184, 148, 2) := ⟨iX4_nextIdea, rfl, ⟨nth_mem w_399, rfl⟩, ⟨nth_mem w_400, rfl⟩, ⟨nth_mem w_112, rfl⟩, ⟨nth_mem w_401, rfl⟩, by decide, by decide +kernel⟩
set_option maxRecDepth 100000 in
theorem cv_80 : cvP (3, 187, 151, 2) := ⟨iX4_wrongKept, rfl, ⟨nth_mem w_402, rfl⟩, ⟨nth_mem w_403, rfl⟩, ⟨nth_mem w_112, rfl⟩, ⟨nth_mem w_404, rfl⟩, by decide, by decide +kernel⟩
set_option maxRecDepth 100000 in
theorem cv_81 : cvP (3, 190, 153, 3) := ⟨iX4_sets, rfl, ⟨nth_mem w_405, rfl⟩, ⟨nth_mem w_406, rfl⟩, ⟨nth_mem w_112, rfl⟩, ⟨nth_mem w_407, rfl⟩, by decide, by decide +kernel⟩
set_option maxRecDepth 100000 in
theorem cv_82 : cvP (3, 200, 159, 2) := ⟨iX4_inMind, rfl, ⟨nth_mem w_408, rfl⟩, ⟨nth_mem w_409, rfl⟩, ⟨nth_mem w_112, rfl⟩, ⟨nth_mem w_410, rfl⟩, by decide, by decide +kernel⟩
set_option maxRecDepth 100000 in
theorem cv_83 : cvP (3, 208, 162, 2) := ⟨iX4_fallsOf, rfl, ⟨nth_mem w_411, rfl⟩, ⟨nth_mem w_412, rfl⟩, ⟨nth_mem w_112, rfl⟩, ⟨nth_mem w_413, rfl⟩, by decide, by decide +kernel⟩
set_option maxRecDepth 100000 in
theorem cv_84 : cvP (3, 211, 163, 1) := ⟨iX4_firstFalls, rfl, ⟨nth_mem w_414, rfl⟩, ⟨nth_mem w_415, rfl⟩, ⟨nth_mem w_112, rfl⟩, ⟨nth_mem w_416, rfl⟩, by decide, by decide +kernel⟩
set_option maxRecDepth 100000 in
theorem cv_85 : cvP (3, 214, 165, 1) := ⟨iX4_isMoved, rfl, ⟨nth_mem w_417, rfl⟩, ⟨nth_mem w_418, rfl⟩, ⟨nth_mem w_112, rfl⟩, ⟨nth_mem w_419, rfl⟩, by decide, by decide +kernel⟩
set_option maxRecDepth 100000 in
theorem cv_86 : cvP (3, 218, 111, 3) := ⟨iX4_areTwo, rfl, ⟨nth_mem w_420, rfl⟩, ⟨nth_mem w_421, rfl⟩, ⟨nth_mem w_112, rfl⟩, ⟨nth_mem w_422, rfl⟩, by decide, by decide +kernel⟩
set_option maxRecDepth 100000 in
theorem cv_87 : cvP (3, 221, 173, 2) := ⟨iX4_groupsOf, rfl, ⟨nth_mem w_423, rfl⟩, ⟨nth_mem w_424, rfl⟩, ⟨nth_mem w_112, rfl⟩, ⟨nth_mem w_425, rfl⟩, by decide, by decide +kernel⟩
set_option maxRecDepth 100000 in
theorem cv_88 : cvP (3, 224, 174, 2) := ⟨iX4_farthestOf, rfl, ⟨nth_mem w_426, rfl⟩, ⟨nth_mem w_427, rfl⟩, ⟨nth_mem w_112, rfl⟩, ⟨nth_mem w_428, rfl⟩, by decide, by decide +kernel⟩
set_option maxRecDepth 100000 in
theorem cv_89 : cvP (3, 227, 176, 1) := ⟨iX4_pairs, rfl, ⟨nth_mem w_429, rfl⟩, ⟨nth_mem w_430, rfl⟩, ⟨nth_mem w_112, rfl⟩, ⟨nth_mem w_431, rfl⟩, by decide, by decide +kernel⟩
set_option maxRecDepth 100000 in
theorem cv_90 : cvP (3, 230, 177, 1) := ⟨iX4_quietOnes, rfl, ⟨nth_mem w_432, rfl⟩, ⟨nth_mem w_433, rfl⟩, ⟨nth_mem w_112, rfl⟩, ⟨nth_mem w_434, rfl⟩, by decide, by decide +kernel⟩
set_option maxRecDepth 100000 in
theorem cv_91 : cvP (3, 240, 180, 4) := ⟨iX4_isTold, rfl, ⟨nth_mem w_435, rfl⟩, ⟨nth_mem w_436, rfl⟩, ⟨nth_mem w_112, rfl⟩, ⟨nth_mem w_437, rfl⟩, by decide, by decide +kernel⟩
set_option maxRecDepth 100000 in
theorem cv_92 : cvP (3, 243, 182, 3) := ⟨iX4_isWhereSo, rfl, ⟨nth_mem w_438, rfl⟩, ⟨nth_mem w_439, rfl⟩, ⟨nth_mem w_112, rfl⟩, ⟨nth_mem w_440, rfl⟩, by decide, by decide +kernel⟩
set_option maxRecDepth 100000 in
theorem cv_93 : cvP (3, 249, 185, 7) := ⟨iX4_hasBy, rfl, ⟨nth_mem w_441, rfl⟩, ⟨nth_mem w_442, rfl⟩, ⟨nth_mem w_112, rfl⟩, ⟨nth_mem w_443, rfl⟩, by decide, by decide +kernel⟩
set_option maxRecDepth 100000 in
theorem cv_94 : cvP (3, 269, 193, 2) := ⟨iX4_drawn, rfl, ⟨nth_mem w_444, rfl⟩, ⟨nth_mem w_445, rfl⟩, ⟨nth_mem w_112, rfl⟩, ⟨nth_mem w_446, rfl⟩, by decide, by decide +kernel⟩
set_option maxRecDepth 100000 in
theorem cv_95 : cvP (3, 272, 194, 1) := ⟨iX4_setsUp, rfl, ⟨nth_mem w_447, rfl⟩, ⟨nth_mem w_448, rfl⟩, ⟨nth_mem w_112, rfl⟩, ⟨nth_mem w_449, rfl⟩, by decide, by decide +kernel⟩
set_option maxRecDepth 100000 in
theorem cv_96 : cvP (8, 21, 60, 2) := ⟨iX3_game, rfl, ⟨nth_mem w_450, rfl⟩, ⟨nth_mem w_451, rfl⟩, ⟨nth_mem w_90, rfl⟩, ⟨nth_mem w_452, rfl⟩, by decide, by decide +kernel⟩
set_option maxRecDepth 100000 in
theorem cv_97 : cvP (8, 25, 147, 2) := ⟨iX4_game, rfl, ⟨nth_mem w_453, rfl⟩, ⟨nth_mem w_454, rfl⟩, ⟨nth_mem w_112, rfl⟩, ⟨nth_mem w_455, rfl⟩, by decide, by decide +kernel⟩
set_option maxRecDepth 100000 in
theorem cv_98 : cvP (8, 26, 61, 3) := ⟨iX3_piece, rfl, ⟨nth_mem w_456, rfl⟩, ⟨nth_mem w_457, rfl⟩, ⟨nth_mem w_90, rfl⟩, ⟨nth_mem w_458, rfl⟩, by decide, by decide +kernel⟩
set_option maxRecDepth 100000 in
theorem cv_99 : cvP (8, 30, 149, 3) := ⟨iX4_piece, rfl, ⟨nth_mem w_459, rfl⟩, ⟨nth_mem w_460, rfl⟩, ⟨nth_mem w_112, rfl⟩, ⟨nth_mem w_461, rfl⟩, by decide, by decide +kernel⟩
set_option maxRecDepth 100000 in
theorem cv_100 : cvP (8, 31, 62, 2) := ⟨iX3_on, rfl, ⟨nth_mem w_462, rfl⟩, ⟨nth_mem w_463, rfl⟩, ⟨nth_mem w_90, rfl⟩, ⟨nth_mem w_464, rfl⟩, by decide, by decide +kernel⟩
set_option maxRecDepth 100000 in
theorem cv_101 : cvP (8, 34, 150, 2) := ⟨iX4_on, rfl, ⟨nth_mem w_465, rfl⟩, ⟨nth_mem w_466, rfl⟩, ⟨nth_mem w_112, rfl⟩, ⟨nth_mem w_467, rfl⟩, by decide, by decide +kernel⟩
set_option maxRecDepth 100000 in
theorem cv_102 : cvP (8, 35, 63, 4) := ⟨iX3_comes, rfl, ⟨nth_mem w_468, rfl⟩, ⟨nth_mem w_469, rfl⟩, ⟨nth_mem w_90, rfl⟩, ⟨nth_mem w_470, rfl⟩, by decide, by decide +kernel⟩
set_option maxRecDepth 100000 in
theorem cv_103 : cvP (8, 39, 152, 4) := ⟨iX4_comes, rfl, ⟨nth_mem w_471, rfl⟩, ⟨nth_mem w_472, rfl⟩, ⟨nth_mem w_112, rfl⟩, ⟨nth_mem w_473, rfl⟩, by decide, by decide +kernel⟩
set_option maxRecDepth 100000 in
theorem cv_104 : cvP (8, 40, 64, 3) := ⟨iX3_stands, rfl, ⟨nth_mem w_474, rfl⟩, ⟨nth_mem w_475, rfl⟩, ⟨nth_mem w_90, rfl⟩, ⟨nth_mem w_476, rfl⟩, by decide, by decide +kernel⟩
set_option maxRecDepth 100000 in
theorem cv_105 : cvP (8, 43, 154, 3) := ⟨iX4_stands, rfl, ⟨nth_mem w_477, rfl⟩, ⟨nth_mem w_478, rfl⟩, ⟨nth_mem w_112, rfl⟩, ⟨nth_mem w_479, rfl⟩, by decide, by decide +kernel⟩
set_option maxRecDepth 100000 in
theorem cv_106 : cvP (8, 44, 65, 2) := ⟨iX3_takes, rfl, ⟨nth_mem w_480, rfl⟩, ⟨nth_mem w_481, rfl⟩, ⟨nth_mem w_90, rfl⟩, ⟨nth_mem w_482, rfl⟩, by decide, by decide +kernel⟩
set_option maxRecDepth 100000 in
theorem cv_107 : cvP (8, 47, 155, 2) := ⟨iX4_takes, rfl, ⟨nth_mem w_483, rfl⟩, ⟨nth_mem w_484, rfl⟩, ⟨nth_mem w_112, rfl⟩, ⟨nth_mem w_485, rfl⟩, by decide, by decide +kernel⟩
set_option maxRecDepth 100000 in
theorem cv_108 : cvP (8, 48, 66, 2) := ⟨iX3_turn, rfl, ⟨nth_mem w_486, rfl⟩, ⟨nth_mem w_487, rfl⟩, ⟨nth_mem w_90, rfl⟩, ⟨nth_mem w_488, rfl⟩, by decide, by decide +kernel⟩
set_option maxRecDepth 100000 in
theorem cv_109 : cvP (8, 51, 156, 2) := ⟨iX4_turn, rfl, ⟨nth_mem w_489, rfl⟩, ⟨nth_mem w_490, rfl⟩, ⟨nth_mem w_112, rfl⟩, ⟨nth_mem w_491, rfl⟩, by decide, by decide +kernel⟩
set_option maxRecDepth 100000 in
theorem cv_110 : cvP (8, 52, 67, 2) := ⟨iX3_days, rfl, ⟨nth_mem w_492, rfl⟩, ⟨nth_mem w_493, rfl⟩, ⟨nth_mem w_90, rfl⟩, ⟨nth_mem w_494, rfl⟩, by decide, by decide +kernel⟩
set_option maxRecDepth 100000 in
theorem cv_111 : cvP (8, 55, 157, 2) := ⟨iX4_days, rfl, ⟨nth_mem w_495, rfl⟩, ⟨nth_mem w_496, rfl⟩, ⟨nth_mem w_112, rfl⟩, ⟨nth_mem w_497, rfl⟩, by decide, by decide +kernel⟩
set_option maxRecDepth 100000 in
theorem cv_112 : cvP (8, 56, 69, 3) := ⟨iX3_squareThen, rfl, ⟨nth_mem w_498, rfl⟩, ⟨nth_mem w_499, rfl⟩, ⟨nth_mem w_90, rfl⟩, ⟨nth_mem w_500, rfl⟩, by decide, by decide +kernel⟩
set_option maxRecDepth 100000 in
theorem cv_113 : cvP (8, 59, 160, 3) := ⟨iX4_squareThen, rfl, ⟨nth_mem w_501, rfl⟩, ⟨nth_mem w_502, rfl⟩, ⟨nth_mem w_112, rfl⟩, ⟨nth_mem w_503, rfl⟩, by decide, by decide +kernel⟩
set_option maxRecDepth 100000 in
theorem cv_114 : cvP (8, 60, 70, 3) := ⟨iX3_then, rfl, ⟨nth_mem w_504, rfl⟩, ⟨nth_mem w_505, rfl⟩, ⟨nth_mem w_90, rfl⟩, ⟨nth_mem w_506, rfl⟩, by decide, by decide +kernel⟩
set_option maxRecDepth 100000 in
theorem cv_115 : cvP (8, 63, 161, 3) := ⟨iX4_then, rfl, ⟨nth_mem w_507, rfl⟩, ⟨nth_mem w_508, rfl⟩, ⟨nth_mem w_112, rfl⟩, ⟨nth_mem w_509, rfl⟩, by decide, by decide +kernel⟩
set_option maxRecDepth 100000 in
theorem cv_116 : cvP (8, 64, 72, 2) := ⟨iX3_falls, rfl, ⟨nth_mem w_510, rfl⟩, ⟨nth_mem w_511, rfl⟩, ⟨nth_mem w_90, rfl⟩, ⟨nth_mem w_512, rfl⟩, by decide, by decide +kernel⟩
set_option maxRecDepth 100000 in
theorem cv_117 : cvP (8, 67, 164, 2) := ⟨iX4_falls, rfl, ⟨nth_mem w_513, rfl⟩, ⟨nth_mem w_514, rfl⟩, ⟨nth_mem w_112, rfl⟩, ⟨nth_mem w_515, rfl⟩, by decide, by decide +kernel⟩
set_option maxRecDepth 100000 in
theorem cv_118 : cvP (8, 68, 73, 1) := ⟨iX3_still, rfl, ⟨nth_mem w_516, rfl⟩, ⟨nth_mem w_517, rfl⟩, ⟨nth_mem w_90, rfl⟩, ⟨nth_mem w_518, rfl⟩, by decide, by decide +kernel⟩
set_option maxRecDepth 100000 in
theorem cv_119 : cvP (8, 72, 166, 1) := ⟨iX4_still, rfl, ⟨nth_mem w_519, rfl⟩, ⟨nth_mem w_520, rfl⟩, ⟨nth_mem w_112, rfl⟩, ⟨nth_mem w_521, rfl⟩, by decide, by decide +kernel⟩
set_option maxRecDepth 100000 in
theorem cv_120 : cvP (8, 73, 74, 2) := ⟨iX3_next, rfl, ⟨nth_mem w_522, rfl⟩, ⟨nth_mem w_523, rfl⟩, ⟨nth_mem w_90, rfl⟩, ⟨nth_mem w_524, rfl⟩, by decide, by decide +kernel⟩
set_option maxRecDepth 100000 in
theorem cv_121 : cvP (8, 76, 167, 2) := ⟨iX4_next, rfl, ⟨nth_mem w_525, rfl⟩, ⟨nth_mem w_526, rfl⟩, ⟨nth_mem w_112, rfl⟩, ⟨nth_mem w_527, rfl⟩, by decide, by decide +kernel⟩
set_option maxRecDepth 100000 in
theorem cv_122 : cvP (8, 77, 75, 2) := ⟨iX3_heard, rfl, ⟨nth_mem w_528, rfl⟩, ⟨nth_mem w_529, rfl⟩, ⟨nth_mem w_90, rfl⟩, ⟨nth_mem w_530, rfl⟩, by decide, by decide +kernel⟩
set_option maxRecDepth 100000 in
theorem cv_123 : cvP (8, 80, 168, 2) := ⟨iX4_heard, rfl, ⟨nth_mem w_531, rfl⟩, ⟨nth_mem w_532, rfl⟩, ⟨nth_mem w_112, rfl⟩, ⟨nth_mem w_533, rfl⟩, by decide, by decide +kernel⟩
set_option maxRecDepth 100000 in
theorem cv_124 : cvP (8, 81, 76, 2) := ⟨iX3_danger, rfl, ⟨nth_mem w_534, rfl⟩, ⟨nth_mem w_535, rfl⟩, ⟨nth_mem w_90, rfl⟩, ⟨nth_mem w_536, rfl⟩, by decide, by decide +kernel⟩
set_option maxRecDepth 100000 in
theorem cv_125 : cvP (8, 84, 169, 2) := ⟨iX4_danger, rfl, ⟨nth_mem w_537, rfl⟩, ⟨nth_mem w_538, rfl⟩, ⟨nth_mem w_112, rfl⟩, ⟨nth_mem w_539, rfl⟩, by decide, by decide +kernel⟩
set_option maxRecDepth 100000 in
theorem cv_126 : cvP (8, 85, 78, 4) := ⟨iX3_stand, rfl, ⟨nth_mem w_540, rfl⟩, ⟨nth_mem w_541, rfl⟩, ⟨nth_mem w_90, rfl⟩, ⟨nth_mem w_542, rfl⟩, by decide, by decide +kernel⟩
set_option maxRecDepth 100000 in
theorem cv_127 : cvP (8, 88, 170, 4) := ⟨iX4_stand, rfl, ⟨nth_mem w_543, rfl⟩, ⟨nth_mem w_544, rfl⟩, ⟨nth_mem w_112, rfl⟩, ⟨nth_mem w_545, rfl⟩, by decide, by decide +kernel⟩
set_option maxRecDepth 100000 in
theorem cv_128 : cvP (8, 89, 79, 2) := ⟨iX3_off, rfl, ⟨nth_mem w_546, rfl⟩, ⟨nth_mem w_547, rfl⟩, ⟨nth_mem w_90, rfl⟩, ⟨nth_mem w_548, rfl⟩, by decide, by decide +kernel⟩
set_option maxRecDepth 100000 in
theorem cv_129 : cvP (8, 92, 171, 2) := ⟨iX4_off, rfl, ⟨nth_mem w_549, rfl⟩, ⟨nth_mem w_550, rfl⟩, ⟨nth_mem w_112, rfl⟩, ⟨nth_mem w_551, rfl⟩, by decide, by decide +kernel⟩
set_option maxRecDepth 100000 in
theorem cv_130 : cvP (8, 93, 80, 3) := ⟨iX3_ears, rfl, ⟨nth_mem w_552, rfl⟩, ⟨nth_mem w_553, rfl⟩, ⟨nth_mem w_90, rfl⟩, ⟨nth_mem w_554, rfl⟩, by decide, by decide +kernel⟩
set_option maxRecDepth 100000 in
theorem cv_131 : cvP (8, 96, 172, 3) := ⟨iX4_ears, rfl, ⟨nth_mem w_555, rfl⟩, ⟨nth_mem w_556, rfl⟩, ⟨nth_mem w_112, rfl⟩, ⟨nth_mem w_557, rfl⟩, by decide, by decide +kernel⟩
set_option maxRecDepth 100000 in
theorem cv_132 : cvP (8, 97, 81, 3) := ⟨iX3_side, rfl, ⟨nth_mem w_558, rfl⟩, ⟨nth_mem w_559, rfl⟩, ⟨nth_mem w_90, rfl⟩, ⟨nth_mem w_560, rfl⟩, by decide, by decide +kernel⟩
set_option maxRecDepth 100000 in
theorem cv_133 : cvP (8, 100, 175, 3) := ⟨iX4_side, rfl, ⟨nth_mem w_561, rfl⟩, ⟨nth_mem w_562, rfl⟩, ⟨nth_mem w_112, rfl⟩, ⟨nth_mem w_563, rfl⟩, by decide, by decide +kernel⟩
set_option maxRecDepth 100000 in
theorem cv_134 : cvP (8, 101, 82, 2) := ⟨iX3_free, rfl, ⟨nth_mem w_564, rfl⟩, ⟨nth_mem w_565, rfl⟩, ⟨nth_mem w_90, rfl⟩, ⟨nth_mem w_566, rfl⟩, by decide, by decide +kernel⟩
set_option maxRecDepth 100000 in
theorem cv_135 : cvP (8, 104, 178, 2) := ⟨iX4_free, rfl, ⟨nth_mem w_567, rfl⟩, ⟨nth_mem w_568, rfl⟩, ⟨nth_mem w_112, rfl⟩, ⟨nth_mem w_569, rfl⟩, by decide, by decide +kernel⟩
set_option maxRecDepth 100000 in
theorem cv_136 : cvP (8, 105, 84, 4) := ⟨iX3_whatIs, rfl, ⟨nth_mem w_570, rfl⟩, ⟨nth_mem w_571, rfl⟩, ⟨nth_mem w_90, rfl⟩, ⟨nth_mem w_572, rfl⟩, by decide, by decide +kernel⟩
set_option maxRecDepth 100000 in
theorem cv_137 : cvP (8, 108, 183, 4) := ⟨iX4_whatIs, rfl, ⟨nth_mem w_573, rfl⟩, ⟨nth_mem w_574, rfl⟩, ⟨nth_mem w_112, rfl⟩, ⟨nth_mem w_575, rfl⟩, by decide, by decide +kernel⟩
set_option maxRecDepth 100000 in
theorem cv_138 : cvP (8, 109, 85, 4) := ⟨iX3_whereFrom, rfl, ⟨nth_mem w_576, rfl⟩, ⟨nth_mem w_577, rfl⟩, ⟨nth_mem w_90, rfl⟩, ⟨nth_mem w_578, rfl⟩, by decide, by decide +kernel⟩
set_option maxRecDepth 100000 in
theorem cv_139 : cvP (8, 112, 184, 4) := ⟨iX4_whereFrom, rfl, ⟨nth_mem w_579, rfl⟩, ⟨nth_mem w_580, rfl⟩, ⟨nth_mem w_112, rfl⟩, ⟨nth_mem w_581, rfl⟩, by decide, by decide +kernel⟩
set_option maxRecDepth 100000 in
theorem cv_140 : cvP (8, 113, 87, 4) := ⟨iX3_two, rfl, ⟨nth_mem w_582, rfl⟩, ⟨nth_mem w_583, rfl⟩, ⟨nth_mem w_90, rfl⟩, ⟨nth_mem w_584, rfl⟩, by decide, by decide +kernel⟩
set_option maxRecDepth 100000 in
theorem cv_141 : cvP (8, 116, 186, 4) := ⟨iX4_two, rfl, ⟨nth_mem w_585, rfl⟩, ⟨nth_mem w_586, rfl⟩, ⟨nth_mem w_112, rfl⟩, ⟨nth_mem w_587, rfl⟩, by decide, by decide +kernel⟩
set_option maxRecDepth 100000 in
theorem cv_142 : cvP (8, 117, 90, 5) := ⟨iX3_rain, rfl, ⟨nth_mem w_588, rfl⟩, ⟨nth_mem w_589, rfl⟩, ⟨nth_mem w_90, rfl⟩, ⟨nth_mem w_590, rfl⟩, by decide, by decide +kernel⟩
set_option maxRecDepth 100000 in
theorem cv_143 : cvP (8, 121, 189, 5) := ⟨iX4_rain, rfl, ⟨nth_mem w_591, rfl⟩, ⟨nth_mem w_592, rfl⟩, ⟨nth_mem w_112, rfl⟩, ⟨nth_mem w_593, rfl⟩, by decide, by decide +kernel⟩
set_option maxRecDepth 100000 in
theorem cv_144 : cvP (8, 122, 91, 3) := ⟨iX3_share, rfl, ⟨nth_mem w_594, rfl⟩, ⟨nth_mem w_595, rfl⟩, ⟨nth_mem w_90, rfl⟩, ⟨nth_mem w_596, rfl⟩, by decide, by decide +kernel⟩
set_option maxRecDepth 100000 in
theorem cv_145 : cvP (8, 125, 190, 3) := ⟨iX4_share, rfl, ⟨nth_mem w_597, rfl⟩, ⟨nth_mem w_598, rfl⟩, ⟨nth_mem w_112, rfl⟩, ⟨nth_mem w_599, rfl⟩, by decide, by decide +kernel⟩
set_option maxRecDepth 100000 in
theorem cv_146 : cvP (8, 126, 92, 2) := ⟨iX3_forged, rfl, ⟨nth_mem w_600, rfl⟩, ⟨nth_mem w_601, rfl⟩, ⟨nth_mem w_90, rfl⟩, ⟨nth_mem w_602, rfl⟩, by decide, by decide +kernel⟩
set_option maxRecDepth 100000 in
theorem cv_147 : cvP (8, 129, 191, 2) := ⟨iX4_forged, rfl, ⟨nth_mem w_603, rfl⟩, ⟨nth_mem w_604, rfl⟩, ⟨nth_mem w_112, rfl⟩, ⟨nth_mem w_605, rfl⟩, by decide, by decide +kernel⟩
set_option maxRecDepth 100000 in
theorem cv_148 : cvP (8, 130, 93, 2) := ⟨iX3_judge, rfl, ⟨nth_mem w_606, rfl⟩, ⟨nth_mem w_607, rfl⟩, ⟨nth_mem w_90, rfl⟩, ⟨nth_mem w_608, rfl⟩, by decide, by decide +kernel⟩
set_option maxRecDepth 100000 in
theorem cv_149 : cvP (8, 133, 192, 2) := ⟨iX4_judge, rfl, ⟨nth_mem w_609, rfl⟩, ⟨nth_mem w_610, rfl⟩, ⟨nth_mem w_112, rfl⟩, ⟨nth_mem w_611, rfl⟩, by decide, by decide +kernel⟩
set_option maxRecDepth 100000 in
theorem cv_150 : cvP (8, 134, 96, 4) := ⟨iX3_games, rfl, ⟨nth_mem w_612, rfl⟩, ⟨nth_mem w_613, rfl⟩, ⟨nth_mem w_90, rfl⟩, ⟨nth_mem w_614, rfl⟩, by decide, by decide +kernel⟩
set_option maxRecDepth 100000 in
theorem cv_151 : cvP (8, 137, 195, 4) := ⟨iX4_games, rfl, ⟨nth_mem w_615, rfl⟩, ⟨nth_mem w_616, rfl⟩, ⟨nth_mem w_112, rfl⟩, ⟨nth_mem w_617, rfl⟩, by decide, by decide +kernel⟩
set_option maxRecDepth 100000 in
theorem cv_152 : cvP (8, 138, 97, 1) := ⟨iX3_image, rfl, ⟨nth_mem w_618, rfl⟩, ⟨nth_mem w_619, rfl⟩, ⟨nth_mem w_90, rfl⟩, ⟨nth_mem w_620, rfl⟩, by decide, by decide +kernel⟩
set_option maxRecDepth 100000 in
theorem cv_153 : cvP (8, 141, 196, 1) := ⟨iX4_image, rfl, ⟨nth_mem w_621, rfl⟩, ⟨nth_mem w_622, rfl⟩, ⟨nth_mem w_112, rfl⟩, ⟨nth_mem w_623, rfl⟩, by decide, by decide +kernel⟩
set_option maxRecDepth 100000 in
theorem cv_154 : cvP (8, 142, 98, 1) := ⟨iX3_restore, rfl, ⟨nth_mem w_624, rfl⟩, ⟨nth_mem w_625, rfl⟩, ⟨nth_mem w_90, rfl⟩, ⟨nth_mem w_626, rfl⟩, by decide, by decide +kernel⟩
set_option maxRecDepth 100000 in
theorem cv_155 : cvP (8, 145, 197, 1) := ⟨iX4_restore, rfl, ⟨nth_mem w_627, rfl⟩, ⟨nth_mem w_628, rfl⟩, ⟨nth_mem w_112, rfl⟩, ⟨nth_mem w_629, rfl⟩, by decide, by decide +kernel⟩
set_option maxRecDepth 100000 in
theorem cv_156 : cvP (8, 146, 99, 2) := ⟨iX3_count, rfl, ⟨nth_mem w_630, rfl⟩, ⟨nth_mem w_631, rfl⟩, ⟨nth_mem w_90, rfl⟩, ⟨nth_mem w_632, rfl⟩, by decide, by decide +kernel⟩
set_option maxRecDepth 100000 in
theorem cv_157 : cvP (8, 149, 198, 2) := ⟨iX4_count, rfl, ⟨nth_mem w_633, rfl⟩, ⟨nth_mem w_634, rfl⟩, ⟨nth_mem w_112, rfl⟩, ⟨nth_mem w_635, rfl⟩, by decide, by decide +kernel⟩
set_option maxRecDepth 100000 in
theorem cv_158 : cvP (8, 150, 100, 5) := ⟨iX3_keep, rfl, ⟨nth_mem w_636, rfl⟩, ⟨nth_mem w_637, rfl⟩, ⟨nth_mem w_90, rfl⟩, ⟨nth_mem w_638, rfl⟩, by decide, by decide +kernel⟩
set_option maxRecDepth 100000 in
theorem cv_159 : cvP (8, 154, 200, 5) := ⟨iX4_keep, rfl, ⟨nth_mem w_639, rfl⟩, ⟨nth_mem w_640, rfl⟩, ⟨nth_mem w_112, rfl⟩, ⟨nth_mem w_641, rfl⟩, by decide, by decide +kernel⟩
set_option maxRecDepth 100000 in
theorem cv_160 : cvP (8, 155, 101, 4) := ⟨iX3_row, rfl, ⟨nth_mem w_642, rfl⟩, ⟨nth_mem w_643, rfl⟩, ⟨nth_mem w_90, rfl⟩, ⟨nth_mem w_644, rfl⟩, by decide, by decide +kernel⟩
set_option maxRecDepth 100000 in
theorem cv_161 : cvP (8, 158, 201, 4) := ⟨iX4_row, rfl, ⟨nth_mem w_645, rfl⟩, ⟨nth_mem w_646, rfl⟩, ⟨nth_mem w_112, rfl⟩, ⟨nth_mem w_647, rfl⟩, by decide, by decide +kernel⟩
set_option maxRecDepth 100000 in
theorem cv_162 : cvP (8, 159, 102, 4) := ⟨iX3_put, rfl, ⟨nth_mem w_648, rfl⟩, ⟨nth_mem w_649, rfl⟩, ⟨nth_mem w_90, rfl⟩, ⟨nth_mem w_650, rfl⟩, by decide, by decide +kernel⟩
set_option maxRecDepth 100000 in
theorem cv_163 : cvP (8, 162, 202, 4) := ⟨iX4_put, rfl, ⟨nth_mem w_651, rfl⟩, ⟨nth_mem w_652, rfl⟩, ⟨nth_mem w_112, rfl⟩, ⟨nth_mem w_653, rfl⟩, by decide, by decide +kernel⟩
set_option maxRecDepth 100000 in
theorem cv_164 : cvP (8, 168, 203, 3) := ⟨iX4_element, rfl, ⟨nth_mem w_654, rfl⟩, ⟨nth_mem w_655, rfl⟩, ⟨nth_mem w_112, rfl⟩, ⟨nth_mem w_656, rfl⟩, by decide, by decide +kernel⟩
set_option maxRecDepth 100000 in
theorem cv_165 : cvP (8, 169, 199, 1) := ⟨iX4_thrown, rfl, ⟨nth_mem w_657, rfl⟩, ⟨nth_mem w_658, rfl⟩, ⟨nth_mem w_112, rfl⟩, ⟨nth_mem w_659, rfl⟩, by decide, by decide +kernel⟩
set_option maxRecDepth 100000 in
theorem cv_166 : cvP (8, 172, 103, 6) := ⟨iX3_copy, rfl, ⟨nth_mem w_660, rfl⟩, ⟨nth_mem w_661, rfl⟩, ⟨nth_mem w_90, rfl⟩, ⟨nth_mem w_662, rfl⟩, by decide, by decide +kernel⟩
set_option maxRecDepth 100000 in
theorem cv_167 : cvP (8, 176, 204, 6) := ⟨iX4_copy, rfl, ⟨nth_mem w_663, rfl⟩, ⟨nth_mem w_664, rfl⟩, ⟨nth_mem w_112, rfl⟩, ⟨nth_mem w_665, rfl⟩, by decide, by decide +kernel⟩
set_option maxRecDepth 100000 in
theorem cv_168 : cvP (8, 177, 104, 2) := ⟨iX3_cost, rfl, ⟨nth_mem w_666, rfl⟩, ⟨nth_mem w_667, rfl⟩, ⟨nth_mem w_90, rfl⟩, ⟨nth_mem w_668, rfl⟩, by decide, by decide +kernel⟩
set_option maxRecDepth 100000 in
theorem cv_169 : cvP (8, 180, 206, 2) := ⟨iX4_cost, rfl, ⟨nth_mem w_669, rfl⟩, ⟨nth_mem w_670, rfl⟩, ⟨nth_mem w_112, rfl⟩, ⟨nth_mem w_671, rfl⟩, by decide, by decide +kernel⟩
set_option maxRecDepth 100000 in
theorem cv_170 : cvP (8, 184, 207, 2) := ⟨iX4_toss, rfl, ⟨nth_mem w_672, rfl⟩, ⟨nth_mem w_673, rfl⟩, ⟨nth_mem w_112, rfl⟩, ⟨nth_mem w_674, rfl⟩, by decide, by decide +kernel⟩
set_option maxRecDepth 100000 in
theorem cv_ok : ∀ e ∈ cvT, cvP e := List.forall_mem_cons.mpr ⟨cv_0, List.forall_mem_cons.mpr ⟨cv_1, List.forall_mem_cons.mpr ⟨cv_2, List.forall_mem_cons.mpr ⟨cv_3, List.forall_mem_cons.mpr ⟨cv_4, List.forall_mem_cons.mpr ⟨cv_5, List.forall_mem_cons.mpr ⟨cv_6, List.forall_mem_cons.mpr ⟨cv_7, List.forall_mem_cons.mpr ⟨cv_8, List.forall_mem_cons.mpr ⟨cv_9, List.forall_mem_cons.mpr ⟨cv_10, List.forall_mem_cons.mpr ⟨cv_11, List.forall_mem_cons.mpr ⟨cv_12, List.forall_mem_cons.mpr ⟨cv_13, List.forall_mem_cons.mpr ⟨cv_14, List.forall_mem_cons.mpr ⟨cv_15, List.forall_mem_cons.mpr ⟨cv_16, List.forall_mem_cons.mpr ⟨cv_17, List.forall_mem_cons.mpr ⟨cv_18, List.forall_mem_cons.mpr ⟨cv_19, List.forall_mem_cons.mpr ⟨cv_20, List.forall_mem_cons.mpr ⟨cv_21, List.forall_mem_cons.mpr ⟨cv_22, List.forall_mem_cons.mpr ⟨cv_23, List.forall_mem_cons.mpr ⟨cv_24, List.forall_mem_cons.mpr ⟨cv_25, List.forall_mem_cons.mpr ⟨cv_26, List.forall_mem_cons.mpr ⟨cv_27, List.forall_mem_cons.mpr ⟨cv_28, List.forall_mem_cons.mpr ⟨cv_29, List.forall_mem_cons.mpr ⟨cv_30, List.forall_mem_cons.mpr ⟨cv_31, List.forall_mem_cons.mpr ⟨cv_32, List.forall_mem_cons.mpr ⟨cv_33, List.forall_mem_cons.mpr ⟨cv_34, List.forall_mem_cons.mpr ⟨cv_35, List.forall_mem_cons.mpr ⟨cv_36, List.forall_mem_cons.mpr ⟨cv_37, List.forall_mem_cons.mpr ⟨cv_38, List.forall_mem_cons.mpr ⟨cv_39, List.forall_mem_cons.mpr ⟨cv_40, List.forall_mem_cons.mpr ⟨cv_41, List.forall_mem_cons.mpr ⟨cv_42, List.forall_mem_cons.mpr ⟨cv_43, List.forall_mem_cons.mpr ⟨cv_44, List.forall_mem_cons.mpr ⟨cv_45, List.forall_mem_cons.mpr ⟨cv_46, List.forall_mem_cons.mpr ⟨cv_47, List.forall_mem_cons.mpr ⟨cv_48, List.forall_mem_cons.mpr ⟨cv_49, List.forall_mem_cons.mpr ⟨cv_50, List.forall_mem_cons.mpr ⟨cv_51, List.forall_mem_cons.mpr ⟨cv_52, List.forall_mem_cons.mpr ⟨cv_53, List.forall_mem_cons.mpr ⟨cv_54, List.forall_mem_cons.mpr ⟨cv_55, List.forall_mem_cons.mpr ⟨cv_56, List.forall_mem_cons.mpr ⟨cv_57, List.forall_mem_cons.mpr ⟨cv_58, List.forall_mem_cons.mpr ⟨cv_59, List.forall_mem_cons.mpr ⟨cv_60, List.forall_mem_cons.mpr ⟨cv_61, List.forall_mem_cons.mpr ⟨cv_62, List.forall_mem_cons.mpr ⟨cv_63, List.forall_mem_cons.mpr ⟨cv_64, List.forall_mem_cons.mpr ⟨cv_65, List.forall_mem_cons.mpr ⟨cv_66, List.forall_mem_cons.mpr ⟨cv_67, List.forall_mem_cons.mpr ⟨cv_68, List.forall_mem_cons.mpr ⟨cv_69, List.forall_mem_cons.mpr ⟨cv_70, List.forall_mem_cons.mpr ⟨cv_71, List.forall_mem_cons.mpr ⟨cv_72, List.forall_mem_cons.mpr ⟨cv_73, List.forall_mem_cons.mpr ⟨cv_74, List.forall_mem_cons.mpr ⟨cv_75, List.forall_mem_cons.mpr ⟨cv_76, List.forall_mem_cons.mpr ⟨cv_77, List.forall_mem_cons.mpr ⟨cv_78, List.forall_mem_cons.mpr ⟨cv_79, List.forall_mem_cons.mpr ⟨cv_80, List.forall_mem_cons.mpr ⟨cv_81, List.forall_mem_cons.mpr ⟨cv_82, List.forall_mem_cons.mpr ⟨cv_83, List.forall_mem_cons.mpr ⟨cv_84, List.forall_mem_cons.mpr ⟨cv_85, List.forall_mem_cons.mpr ⟨cv_86, List.forall_mem_cons.mpr ⟨cv_87, List.forall_mem_cons.mpr ⟨cv_88, List.forall_mem_cons.mpr ⟨cv_89, List.forall_mem_cons.mpr ⟨cv_90, List.forall_mem_cons.mpr ⟨cv_91, List.forall_mem_cons.mpr ⟨cv_92, List.forall_mem_cons.mpr ⟨cv_93, List.forall_mem_cons.mpr ⟨cv_94, List.forall_mem_cons.mpr ⟨cv_95, List.forall_mem_cons.mpr ⟨cv_96, List.forall_mem_cons.mpr ⟨cv_97, List.forall_mem_cons.mpr ⟨cv_98, List.forall_mem_cons.mpr ⟨cv_99, List.forall_mem_cons.mpr ⟨cv_100, List.forall_mem_cons.mpr ⟨cv_101, List.forall_mem_cons.mpr ⟨cv_102, List.forall_mem_cons.mpr ⟨cv_103, List.forall_mem_cons.mpr ⟨cv_104, List.forall_mem_cons.mpr ⟨cv_105, List.forall_mem_cons.mpr ⟨cv_106, List.forall_mem_cons.mpr ⟨cv_107, List.forall_mem_cons.mpr ⟨cv_108, List.forall_mem_cons.mpr ⟨cv_109, List.forall_mem_cons.mpr ⟨cv_110, List.forall_mem_cons.mpr ⟨cv_111, List.forall_mem_cons.mpr ⟨cv_112, List.forall_mem_cons.mpr ⟨cv_113, List.forall_mem_cons.mpr ⟨cv_114, List.forall_mem_cons.mpr ⟨cv_115, List.forall_mem_cons.mpr ⟨cv_116, List.forall_mem_cons.mpr ⟨cv_117, List.forall_mem_cons.mpr ⟨cv_118, List.forall_mem_cons.mpr ⟨cv_119, List.forall_mem_cons.mpr ⟨cv_120, List.forall_mem_cons.mpr ⟨cv_121, List.forall_mem_cons.mpr ⟨cv_122, List.forall_mem_cons.mpr ⟨cv_123, List.forall_mem_cons.mpr ⟨cv_124, List.forall_mem_cons.mpr ⟨cv_125, List.forall_mem_cons.mpr ⟨cv_126, List.forall_mem_cons.mpr ⟨cv_127, List.forall_mem_cons.mpr ⟨cv_128, List.forall_mem_cons.mpr ⟨cv_129, List.forall_mem_cons.mpr ⟨cv_130, List.forall_mem_cons.mpr ⟨cv_131, List.forall_mem_cons.mpr ⟨cv_132, List.forall_mem_cons.mpr ⟨cv_133, List.forall_mem_cons.mpr ⟨cv_134, List.forall_mem_cons.mpr ⟨cv_135, List.forall_mem_cons.mpr ⟨cv_136, List.forall_mem_cons.mpr ⟨cv_137, List.forall_mem_cons.mpr ⟨cv_138, List.forall_mem_cons.mpr ⟨cv_139, List.forall_mem_cons.mpr ⟨cv_140, List.forall_mem_cons.mpr ⟨cv_141, List.forall_mem_cons.mpr ⟨cv_142, List.forall_mem_cons.mpr ⟨cv_143, List.forall_mem_cons.mpr ⟨cv_144, List.forall_mem_cons.mpr ⟨cv_145, List.forall_mem_cons.mpr ⟨cv_146, List.forall_mem_cons.mpr ⟨cv_147, List.forall_mem_cons.mpr ⟨cv_148, List.forall_mem_cons.mpr ⟨cv_149, List.forall_mem_cons.mpr ⟨cv_150, List.forall_mem_cons.mpr ⟨cv_151, List.forall_mem_cons.mpr ⟨cv_152, List.forall_mem_cons.mpr ⟨cv_153, List.forall_mem_cons.mpr ⟨cv_154, List.forall_mem_cons.mpr ⟨cv_155, List.forall_mem_cons.mpr ⟨cv_156, List.forall_mem_cons.mpr ⟨cv_157, List.forall_mem_cons.mpr ⟨cv_158, List.forall_mem_cons.mpr ⟨cv_159, List.forall_mem_cons.mpr ⟨cv_160, List.forall_mem_cons.mpr ⟨cv_161, List.forall_mem_cons.mpr ⟨cv_162, List.forall_mem_cons.mpr ⟨cv_163, List.forall_mem_cons.mpr ⟨cv_164, List.forall_mem_cons.mpr ⟨cv_165, List.forall_mem_cons.mpr ⟨cv_166, List.forall_mem_cons.mpr ⟨cv_167, List.forall_mem_cons.mpr ⟨cv_168, List.forall_mem_cons.mpr ⟨cv_169, List.forall_mem_cons.mpr ⟨cv_170, fun _ h => absurd h List.not_mem_nil⟩⟩⟩⟩⟩⟩⟩⟩⟩⟩⟩⟩⟩⟩⟩⟩⟩⟩⟩⟩⟩⟩⟩⟩⟩⟩⟩⟩⟩⟩⟩⟩⟩⟩⟩⟩⟩⟩⟩⟩⟩⟩⟩⟩⟩⟩⟩⟩⟩⟩⟩⟩⟩⟩⟩⟩⟩⟩⟩⟩⟩⟩⟩⟩⟩⟩⟩⟩⟩⟩⟩⟩⟩⟩⟩⟩⟩⟩⟩⟩⟩⟩⟩⟩⟩⟩⟩⟩⟩⟩⟩⟩⟩⟩⟩⟩⟩⟩⟩⟩⟩⟩⟩⟩⟩⟩⟩⟩⟩⟩⟩⟩⟩⟩⟩⟩⟩⟩⟩⟩⟩⟩⟩⟩⟩⟩⟩⟩⟩⟩⟩⟩⟩⟩⟩⟩⟩⟩⟩⟩⟩⟩⟩⟩⟩⟩⟩⟩⟩⟩⟩⟩⟩⟩⟩⟩⟩⟩⟩⟩⟩⟩⟩⟩⟩⟩⟩⟩⟩⟩⟩
