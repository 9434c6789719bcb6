/-! by program (wip/whole/gen04.py) -/
set_option maxRecDepth 100000 in
theorem okX0_becomes : okM iX0_becomes = true := by decide +kernel
set_option maxRecDepth 100000 in
theorem okX0_has : okM iX0_has = true := by decide +kernel
set_option maxRecDepth 100000 in
theorem okX0_isThere : okM iX0_isThere = true := by decide +kernel
set_option maxRecDepth 100000 in
theorem okX0_isThereOf : okM iX0_isThereOf = true := by decide +kernel
set_option maxRecDepth 100000 in
theorem okX0_squareOf : okM iX0_squareOf = true := by decide +kernel
set_option maxRecDepth 100000 in
theorem okX0_squareOrNone : okM iX0_squareOrNone = true := by decide +kernel
set_option maxRecDepth 100000 in
theorem okX0_isFree : okM iX0_isFree = true := by decide +kernel
set_option maxRecDepth 100000 in
theorem okX0_isHeldBy : okM iX0_isHeldBy = true := by decide +kernel
set_option maxRecDepth 100000 in
theorem okX3_isKind : okM iX3_isKind = true := by decide +kernel
set_option maxRecDepth 100000 in
theorem okX3_isFigure : okM iX3_isFigure = true := by decide +kernel
set_option maxRecDepth 100000 in
theorem okX3_isSide : okM iX3_isSide = true := by decide +kernel
set_option maxRecDepth 100000 in
theorem okX0_addPiece : okM iX0_addPiece = true := by decide +kernel
set_option maxRecDepth 100000 in
theorem okX3_isSquare : okM iX3_isSquare = true := by decide +kernel
set_option maxRecDepth 100000 in
theorem okX0_takeOff : okM iX0_takeOff = true := by decide +kernel
set_option maxRecDepth 100000 in
theorem okX0_movePiece : okM iX0_movePiece = true := by decide +kernel
set_option maxRecDepth 100000 in
theorem okX0_takeAllOff : okM iX0_takeAllOff = true := by decide +kernel
set_option maxRecDepth 100000 in
theorem okX0_turnInto : okM iX0_turnInto = true := by decide +kernel
set_option maxRecDepth 100000 in
theorem okX0_giveTurn : okM iX0_giveTurn = true := by decide +kernel
set_option maxRecDepth 100000 in
theorem okX0_squareFrom : okM iX0_squareFrom = true := by decide +kernel
set_option maxRecDepth 100000 in
theorem okX0_knightIdea : okM iX0_knightIdea = true := by decide +kernel
set_option maxRecDepth 100000 in
theorem okX0_slideIdea : okM iX0_slideIdea = true := by decide +kernel
set_option maxRecDepth 100000 in
theorem okX0_bishopIdea : okM iX0_bishopIdea = true := by decide +kernel
set_option maxRecDepth 100000 in
theorem okX3_far : okM iX3_far = true := by decide +kernel
set_option maxRecDepth 100000 in
theorem okX0_kingIdea : okM iX0_kingIdea = true := by decide +kernel
set_option maxRecDepth 100000 in
theorem okX0_pawnIdea : okM iX0_pawnIdea = true := by decide +kernel
set_option maxRecDepth 100000 in
theorem okX0_ideaOf : okM iX0_ideaOf = true := by decide +kernel
set_option maxRecDepth 100000 in
theorem okX1_earsWith : okM iX1_earsWith = true := by decide +kernel
set_option maxRecDepth 100000 in
theorem okX0_hearersOf : okM iX0_hearersOf = true := by decide +kernel
set_option maxRecDepth 100000 in
theorem okJ6_bitCount_0f7a4 : okM iJ6_bitCount_0f7a4 = true := by decide +kernel
set_option maxRecDepth 100000 in
theorem okX0_howManyOf : okM iX0_howManyOf = true := by decide +kernel
set_option maxRecDepth 100000 in
theorem okX0_goerOn : okM iX0_goerOn = true := by decide +kernel
set_option maxRecDepth 100000 in
theorem okX0_passDay : okM iX0_passDay = true := by decide +kernel
set_option maxRecDepth 100000 in
theorem okX0_passWithinLast : okM iX0_passWithinLast = true := by decide +kernel
set_option maxRecDepth 100000 in
theorem okX0_passDays : okM iX0_passDays = true := by decide +kernel
set_option maxRecDepth 100000 in
theorem okX0_howManyThere : okM iX0_howManyThere = true := by decide +kernel
set_option maxRecDepth 100000 in
theorem okX0_bitsThere : okM iX0_bitsThere = true := by decide +kernel
set_option maxRecDepth 100000 in
theorem okX1_worthWith : okM iX1_worthWith = true := by decide +kernel
set_option maxRecDepth 100000 in
theorem okX0_worthOf : okM iX0_worthOf = true := by decide +kernel
set_option maxRecDepth 100000 in
theorem okX0_worthWithout : okM iX0_worthWithout = true := by decide +kernel
set_option maxRecDepth 100000 in
theorem okX0_gainOf : okM iX0_gainOf = true := by decide +kernel
set_option maxRecDepth 100000 in
theorem okX0_groupAround : okM iX0_groupAround = true := by decide +kernel
set_option maxRecDepth 100000 in
theorem okX0_groupsOf : okM iX0_groupsOf = true := by decide +kernel
set_option maxRecDepth 100000 in
theorem okX0_farthestOf : okM iX0_farthestOf = true := by decide +kernel
set_option maxRecDepth 100000 in
theorem okX0_pairsSideBySide : okM iX0_pairsSideBySide = true := by decide +kernel
set_option maxRecDepth 100000 in
theorem okX0_quietOn : okM iX0_quietOn = true := by decide +kernel
set_option maxRecDepth 100000 in
theorem okX1_costWith : okM iX1_costWith = true := by decide +kernel
set_option maxRecDepth 100000 in
theorem okJ7_fill_53178 : okM iJ7_fill_53178 = true := by decide +kernel
set_option maxRecDepth 100000 in
theorem okX2_becomesRow : okM iX2_becomesRow = true := by decide +kernel
set_option maxRecDepth 100000 in
theorem okX2_hasPlace : okM iX2_hasPlace = true := by decide +kernel
set_option maxRecDepth 100000 in
theorem okX2_hasPlaces : okM iX2_hasPlaces = true := by decide +kernel
set_option maxRecDepth 100000 in
theorem okX2_elementAt : okM iX2_elementAt = true := by decide +kernel
set_option maxRecDepth 100000 in
theorem okX2_putIn : okM iX2_putIn = true := by decide +kernel
set_option maxRecDepth 100000 in
theorem okX2_isSkipped : okM iX2_isSkipped = true := by decide +kernel
set_option maxRecDepth 100000 in
theorem okX2_digitsBehind : okM iX2_digitsBehind = true := by decide +kernel
set_option maxRecDepth 100000 in
theorem okX2_wrongByte : okM iX2_wrongByte = true := by decide +kernel
set_option maxRecDepth 100000 in
theorem okX2_digitAt : okM iX2_digitAt = true := by decide +kernel
set_option maxRecDepth 100000 in
theorem okX2_twoDigitsAt : okM iX2_twoDigitsAt = true := by decide +kernel
set_option maxRecDepth 100000 in
theorem okX3_shelfAt : okM iX3_shelfAt = true := by decide +kernel
set_option maxRecDepth 100000 in
theorem okX3_refusalUnless : okM iX3_refusalUnless = true := by decide +kernel
set_option maxRecDepth 100000 in
theorem okX3_isDone : okM iX3_isDone = true := by decide +kernel
set_option maxRecDepth 100000 in
theorem okX3_game : okM iX3_game = true := by decide +kernel
set_option maxRecDepth 100000 in
theorem okX3_piece : okM iX3_piece = true := by decide +kernel
set_option maxRecDepth 100000 in
theorem okX3_on : okM iX3_on = true := by decide +kernel
set_option maxRecDepth 100000 in
theorem okX3_comes : okM iX3_comes = true := by decide +kernel
set_option maxRecDepth 100000 in
theorem okX3_stands : okM iX3_stands = true := by decide +kernel
set_option maxRecDepth 100000 in
theorem okX3_takes : okM iX3_takes = true := by decide +kernel
set_option maxRecDepth 100000 in
theorem okX3_turn : okM iX3_turn = true := by decide +kernel
set_option maxRecDepth 100000 in
theorem okX3_days : okM iX3_days = true := by decide +kernel
set_option maxRecDepth 100000 in
theorem okX3_lookAhead : okM iX3_lookAhead = true := by decide +kernel
set_option maxRecDepth 100000 in
theorem okX3_squareThen : okM iX3_squareThen = true := by decide +kernel
set_option maxRecDepth 100000 in
theorem okX3_then : okM iX3_then = true := by decide +kernel
set_option maxRecDepth 100000 in
theorem okX3_firstToFall : okM iX3_firstToFall = true := by decide +kernel
set_option maxRecDepth 100000 in
theorem okX3_falls : okM iX3_falls = true := by decide +kernel
set_option maxRecDepth 100000 in
theorem okX3_still : okM iX3_still = true := by decide +kernel
set_option maxRecDepth 100000 in
theorem okX3_next : okM iX3_next = true := by decide +kernel
set_option maxRecDepth 100000 in
theorem okX3_heard : okM iX3_heard = true := by decide +kernel
set_option maxRecDepth 100000 in
theorem okX3_danger : okM iX3_danger = true := by decide +kernel
set_option maxRecDepth 100000 in
theorem okX3_placeInMind : okM iX3_placeInMind = true := by decide +kernel
set_option maxRecDepth 100000 in
theorem okX3_stand : okM iX3_stand = true := by decide +kernel
set_option maxRecDepth 100000 in
theorem okX3_off : okM iX3_off = true := by decide +kernel
set_option maxRecDepth 100000 in
theorem okX3_ears : okM iX3_ears = true := by decide +kernel
set_option maxRecDepth 100000 in
theorem okX3_side : okM iX3_side = true := by decide +kernel
set_option maxRecDepth 100000 in
theorem okX3_free : okM iX3_free = true := by decide +kernel
set_option maxRecDepth 100000 in
theorem okX3_wentAsTold : okM iX3_wentAsTold = true := by decide +kernel
set_option maxRecDepth 100000 in
theorem okX3_whatIs : okM iX3_whatIs = true := by decide +kernel
set_option maxRecDepth 100000 in
theorem okX3_whereFrom : okM iX3_whereFrom = true := by decide +kernel
set_option maxRecDepth 100000 in
theorem okX3_firstPairAtRest : okM iX3_firstPairAtRest = true := by decide +kernel
set_option maxRecDepth 100000 in
theorem okX3_two : okM iX3_two = true := by decide +kernel
set_option maxRecDepth 100000 in
theorem okX3_waysToBeThere : okM iX3_waysToBeThere = true := by decide +kernel
set_option maxRecDepth 100000 in
theorem okX3_partInLeastTerms : okM iX3_partInLeastTerms = true := by decide +kernel
set_option maxRecDepth 100000 in
theorem okX3_rain : okM iX3_rain = true := by decide +kernel
set_option maxRecDepth 100000 in
theorem okX3_share : okM iX3_share = true := by decide +kernel
set_option maxRecDepth 100000 in
theorem okX3_forged : okM iX3_forged = true := by decide +kernel
set_option maxRecDepth 100000 in
theorem okX3_judge : okM iX3_judge = true := by decide +kernel
set_option maxRecDepth 100000 in
theorem okX3_draw : okM iX3_draw = true := by decide +kernel
set_option maxRecDepth 100000 in
theorem okX3_setUpByDraws : okM iX3_setUpByDraws = true := by decide +kernel
set_option maxRecDepth 100000 in
theorem okX3_games : okM iX3_games = true := by decide +kernel
set_option maxRecDepth 100000 in
theorem okX3_image : okM iX3_image = true := by decide +kernel
set_option maxRecDepth 100000 in
theorem okX3_restore : okM iX3_restore = true := by decide +kernel
set_option maxRecDepth 100000 in
theorem okX3_count : okM iX3_count = true := by decide +kernel
set_option maxRecDepth 100000 in
theorem okX3_keep : okM iX3_keep = true := by decide +kernel
set_option maxRecDepth 100000 in
theorem okX3_row : okM iX3_row = true := by decide +kernel
set_option maxRecDepth 100000 in
theorem okX3_put : okM iX3_put = true := by decide +kernel
set_option maxRecDepth 100000 in
theorem okX3_copy : okM iX3_copy = true := by decide +kernel
set_option maxRecDepth 100000 in
theorem okX3_cost : okM iX3_cost = true := by decide +kernel
set_option maxRecDepth 100000 in
theorem okX4_isIn : okM iX4_isIn = true := by decide +kernel
set_option maxRecDepth 100000 in
theorem okX4_sized : okM iX4_sized = true := by decide +kernel
set_option maxRecDepth 100000 in
theorem okX4_least : okM iX4_least = true := by decide +kernel
set_option maxRecDepth 100000 in
theorem okX4_copies : okM iX4_copies = true := by decide +kernel
set_option maxRecDepth 100000 in
theorem okX4_of : okM iX4_of = true := by decide +kernel
set_option maxRecDepth 100000 in
theorem okX4_isPiece : okM iX4_isPiece = true := by decide +kernel
set_option maxRecDepth 100000 in
theorem okX4_areTwo : okM iX4_areTwo = true := by decide +kernel
set_option maxRecDepth 100000 in
theorem okX4_isSquare : okM iX4_isSquare = true := by decide +kernel
set_option maxRecDepth 100000 in
theorem okX4_isSide : okM iX4_isSide = true := by decide +kernel
set_option maxRecDepth 100000 in
theorem okX4_isHere : okM iX4_isHere = true := by decide +kernel
set_option maxRecDepth 100000 in
theorem okX4_has : okM iX4_has = true := by decide +kernel
set_option maxRecDepth 100000 in
theorem okX4_bits : okM iX4_bits = true := by decide +kernel
set_option maxRecDepth 100000 in
theorem okX4_onSquare : okM iX4_onSquare = true := by decide +kernel
set_option maxRecDepth 100000 in
theorem okX4_squareOn : okM iX4_squareOn = true := by decide +kernel
set_option maxRecDepth 100000 in
theorem okX4_isFree : okM iX4_isFree = true := by decide +kernel
set_option maxRecDepth 100000 in
theorem okX4_isOfSide : okM iX4_isOfSide = true := by decide +kernel
set_option maxRecDepth 100000 in
theorem okX4_farOf : okM iX4_farOf = true := by decide +kernel
set_option maxRecDepth 100000 in
theorem okX4_forward : okM iX4_forward = true := by decide +kernel
set_option maxRecDepth 100000 in
theorem okX4_pawnIdea : okM iX4_pawnIdea = true := by decide +kernel
set_option maxRecDepth 100000 in
theorem okX4_knightIdea : okM iX4_knightIdea = true := by decide +kernel
set_option maxRecDepth 100000 in
theorem okX4_slideIdea : okM iX4_slideIdea = true := by decide +kernel
set_option maxRecDepth 100000 in
theorem okX4_bishopIdea : okM iX4_bishopIdea = true := by decide +kernel
set_option maxRecDepth 100000 in
theorem okX4_kingIdea : okM iX4_kingIdea = true := by decide +kernel
set_option maxRecDepth 100000 in
theorem okX4_idea : okM iX4_idea = true := by decide +kernel
set_option maxRecDepth 100000 in
theorem okX4_earsBy : okM iX4_earsBy = true := by decide +kernel
set_option maxRecDepth 100000 in
theorem okX4_worthBy : okM iX4_worthBy = true := by decide +kernel
set_option maxRecDepth 100000 in
theorem okX4_doesHear : okM iX4_doesHear = true := by decide +kernel
set_option maxRecDepth 100000 in
theorem okX4_heardBy : okM iX4_heardBy = true := by decide +kernel
set_option maxRecDepth 100000 in
theorem okX4_hereIn : okM iX4_hereIn = true := by decide +kernel
set_option maxRecDepth 100000 in
theorem okX4_ofSide : okM iX4_ofSide = true := by decide +kernel
set_option maxRecDepth 100000 in
theorem okX4_worthOf : okM iX4_worthOf = true := by decide +kernel
set_option maxRecDepth 100000 in
theorem okX4_goesOn : okM iX4_goesOn = true := by decide +kernel
set_option maxRecDepth 100000 in
theorem okX4_day : okM iX4_day = true := by decide +kernel
set_option maxRecDepth 100000 in
theorem okX4_daysOn : okM iX4_daysOn = true := by decide +kernel
set_option maxRecDepth 100000 in
theorem okX4_here : okM iX4_here = true := by decide +kernel
set_option maxRecDepth 100000 in
theorem okX4_readsNumber : okM iX4_readsNumber = true := by decide +kernel
set_option maxRecDepth 100000 in
theorem okX4_readsStatement : okM iX4_readsStatement = true := by decide +kernel
set_option maxRecDepth 100000 in
theorem okX4_adds : okM iX4_adds = true := by decide +kernel
set_option maxRecDepth 100000 in
theorem okX4_mayStand : okM iX4_mayStand = true := by decide +kernel
set_option maxRecDepth 100000 in
theorem okX4_isDone : okM iX4_isDone = true := by decide +kernel
set_option maxRecDepth 100000 in
theorem okX4_isShelf : okM iX4_isShelf = true := by decide +kernel
set_option maxRecDepth 100000 in
theorem okX4_wrongRow : okM iX4_wrongRow = true := by decide +kernel
set_option maxRecDepth 100000 in
theorem okX4_game : okM iX4_game = true := by decide +kernel
set_option maxRecDepth 100000 in
theorem okX4_nextIdea : okM iX4_nextIdea = true := by decide +kernel
set_option maxRecDepth 100000 in
theorem okX4_piece : okM iX4_piece = true := by decide +kernel
set_option maxRecDepth 100000 in
theorem okX4_on : okM iX4_on = true := by decide +kernel
set_option maxRecDepth 100000 in
theorem okX4_wrongKept : okM iX4_wrongKept = true := by decide +kernel
set_option maxRecDepth 100000 in
theorem okX4_comes : okM iX4_comes = true := by decide +kernel
set_option maxRecDepth 100000 in
theorem okX4_sets : okM iX4_sets = true := by decide +kernel
set_option maxRecDepth 100000 in
theorem okX4_stands : okM iX4_stands = true := by decide +kernel
set_option maxRecDepth 100000 in
theorem okX4_takes : okM iX4_takes = true := by decide +kernel
set_option maxRecDepth 100000 in
theorem okX4_turn : okM iX4_turn = true := by decide +kernel
set_option maxRecDepth 100000 in
theorem okX4_days : okM iX4_days = true := by decide +kernel
set_option maxRecDepth 100000 in
theorem okX4_isLate : okM iX4_isLate = true := by decide +kernel
set_option maxRecDepth 100000 in
theorem okX4_inMind : okM iX4_inMind = true := by decide +kernel
set_option maxRecDepth 100000 in
theorem okX4_squareThen : okM iX4_squareThen = true := by decide +kernel
set_option maxRecDepth 100000 in
theorem okX4_then : okM iX4_then = true := by decide +kernel
set_option maxRecDepth 100000 in
theorem okX4_fallsOf : okM iX4_fallsOf = true := by decide +kernel
set_option maxRecDepth 100000 in
theorem okX4_firstFalls : okM iX4_firstFalls = true := by decide +kernel
set_option maxRecDepth 100000 in
theorem okX4_falls : okM iX4_falls = true := by decide +kernel
set_option maxRecDepth 100000 in
theorem okX4_isMoved : okM iX4_isMoved = true := by decide +kernel
set_option maxRecDepth 100000 in
theorem okX4_still : okM iX4_still = true := by decide +kernel
set_option maxRecDepth 100000 in
theorem okX4_next : okM iX4_next = true := by decide +kernel
set_option maxRecDepth 100000 in
theorem okX4_heard : okM iX4_heard = true := by decide +kernel
set_option maxRecDepth 100000 in
theorem okX4_danger : okM iX4_danger = true := by decide +kernel
set_option maxRecDepth 100000 in
theorem okX4_stand : okM iX4_stand = true := by decide +kernel
set_option maxRecDepth 100000 in
theorem okX4_off : okM iX4_off = true := by decide +kernel
set_option maxRecDepth 100000 in
theorem okX4_ears : okM iX4_ears = true := by decide +kernel
set_option maxRecDepth 100000 in
theorem okX4_groupsOf : okM iX4_groupsOf = true := by decide +kernel
set_option maxRecDepth 100000 in
theorem okX4_farthestOf : okM iX4_farthestOf = true := by decide +kernel
set_option maxRecDepth 100000 in
theorem okX4_side : okM iX4_side = true := by decide +kernel
set_option maxRecDepth 100000 in
theorem okX4_pairs : okM iX4_pairs = true := by decide +kernel
set_option maxRecDepth 100000 in
theorem okX4_quietOnes : okM iX4_quietOnes = true := by decide +kernel
set_option maxRecDepth 100000 in
theorem okX4_free : okM iX4_free = true := by decide +kernel
set_option maxRecDepth 100000 in
theorem okX4_leastOf : okM iX4_leastOf = true := by decide +kernel
set_option maxRecDepth 100000 in
theorem okX4_isTold : okM iX4_isTold = true := by decide +kernel
set_option maxRecDepth 100000 in
theorem okX4_toldSquare : okM iX4_toldSquare = true := by decide +kernel
set_option maxRecDepth 100000 in
theorem okX4_isWhereSo : okM iX4_isWhereSo = true := by decide +kernel
set_option maxRecDepth 100000 in
theorem okX4_whatIs : okM iX4_whatIs = true := by decide +kernel
set_option maxRecDepth 100000 in
theorem okX4_whereFrom : okM iX4_whereFrom = true := by decide +kernel
set_option maxRecDepth 100000 in
theorem okX4_hasBy : okM iX4_hasBy = true := by decide +kernel
set_option maxRecDepth 100000 in
theorem okX4_two : okM iX4_two = true := by decide +kernel
set_option maxRecDepth 100000 in
theorem okX4_gcd : okM iX4_gcd = true := by decide +kernel
set_option maxRecDepth 100000 in
theorem okX4_partOf : okM iX4_partOf = true := by decide +kernel
set_option maxRecDepth 100000 in
theorem okX4_rain : okM iX4_rain = true := by decide +kernel
set_option maxRecDepth 100000 in
theorem okX4_share : okM iX4_share = true := by decide +kernel
set_option maxRecDepth 100000 in
theorem okX4_forged : okM iX4_forged = true := by decide +kernel
set_option maxRecDepth 100000 in
theorem okX4_judge : okM iX4_judge = true := by decide +kernel
set_option maxRecDepth 100000 in
theorem okX4_drawn : okM iX4_drawn = true := by decide +kernel
set_option maxRecDepth 100000 in
theorem okX4_setsUp : okM iX4_setsUp = true := by decide +kernel
set_option maxRecDepth 100000 in
theorem okX4_games : okM iX4_games = true := by decide +kernel
set_option maxRecDepth 100000 in
theorem okX4_image : okM iX4_image = true := by decide +kernel
set_option maxRecDepth 100000 in
theorem okX4_restore : okM iX4_restore = true := by decide +kernel
set_option maxRecDepth 100000 in
theorem okX4_count : okM iX4_count = true := by decide +kernel
set_option maxRecDepth 100000 in
theorem okX4_thrown : okM iX4_thrown = true := by decide +kernel
set_option maxRecDepth 100000 in
theorem okX4_keep : okM iX4_keep = true := by decide +kernel
set_option maxRecDepth 100000 in
theorem okX4_row : okM iX4_row = true := by decide +kernel
set_option maxRecDepth 100000 in
theorem okX4_put : okM iX4_put = true := by decide +kernel
set_option maxRecDepth 100000 in
theorem okX4_element : okM iX4_element = true := by decide +kernel
set_option maxRecDepth 100000 in
theorem okX4_copy : okM iX4_copy = true := by decide +kernel
set_option maxRecDepth 100000 in
theorem okX4_costBy : okM iX4_costBy = true := by decide +kernel
set_option maxRecDepth 100000 in
theorem okX4_cost : okM iX4_cost = true := by decide +kernel
set_option maxRecDepth 100000 in
theorem okX4_toss : okM iX4_toss = true := by decide +kernel
set_option maxRecDepth 100000 in
theorem mtk_0 : ∀ mi ∈ mt_0, okM mi = true := List.forall_mem_cons.mpr ⟨okX0_becomes, List.forall_mem_cons.mpr ⟨okX0_has, List.forall_mem_cons.mpr ⟨okX0_isThere, List.forall_mem_cons.mpr ⟨okX0_isThereOf, List.forall_mem_cons.mpr ⟨okX0_squareOf, List.forall_mem_cons.mpr ⟨okX0_squareOrNone, List.forall_mem_cons.mpr ⟨okX0_isFree, List.forall_mem_cons.mpr ⟨okX0_isHeldBy, List.forall_mem_cons.mpr ⟨okX3_isKind, List.forall_mem_cons.mpr ⟨okX3_isFigure, List.forall_mem_cons.mpr ⟨okX3_isSide, List.forall_mem_cons.mpr ⟨okX0_addPiece, List.forall_mem_cons.mpr ⟨okX3_isSquare, List.forall_mem_cons.mpr ⟨okX0_takeOff, List.forall_mem_cons.mpr ⟨okX0_movePiece, List.forall_mem_cons.mpr ⟨okX0_takeAllOff, fun _ h => absurd h List.not_mem_nil⟩⟩⟩⟩⟩⟩⟩⟩⟩⟩⟩⟩⟩⟩⟩⟩
set_option maxRecDepth 100000 in
theorem mtk_1 : ∀ mi ∈ mt_1, okM mi = true := List.forall_mem_cons.mpr ⟨okX0_turnInto, List.forall_mem_cons.mpr ⟨okX0_giveTurn, List.forall_mem_cons.mpr ⟨okX0_squareFrom, List.forall_mem_cons.mpr ⟨okX0_knightIdea, List.forall_mem_cons.mpr ⟨okX0_slideIdea, List.forall_mem_cons.mpr ⟨okX0_bishopIdea, List.forall_mem_cons.mpr ⟨okX3_far, List.forall_mem_cons.mpr ⟨okX0_kingIdea, List.forall_mem_cons.mpr ⟨okX0_pawnIdea, List.forall_mem_cons.mpr ⟨okX0_ideaOf, List.forall_mem_cons.mpr ⟨okX1_earsWith, List.forall_mem_cons.mpr ⟨okX0_hearersOf, List.forall_mem_cons.mpr ⟨okJ6_bitCount_0f7a4, List.forall_mem_cons.mpr ⟨okX0_howManyOf, List.forall_mem_cons.mpr ⟨okX0_goerOn, List.forall_mem_cons.mpr ⟨okX0_passDay, fun _ h => absurd h List.not_mem_nil⟩⟩⟩⟩⟩⟩⟩⟩⟩⟩⟩⟩⟩⟩⟩⟩
set_option maxRecDepth 100000 in
theorem mtk_2 : ∀ mi ∈ mt_2, okM mi = true := List.forall_mem_cons.mpr ⟨okX0_passWithinLast, List.forall_mem_cons.mpr ⟨okX0_passDays, List.forall_mem_cons.mpr ⟨okX0_howManyThere, List.forall_mem_cons.mpr ⟨okX0_bitsThere, List.forall_mem_cons.mpr ⟨okX1_worthWith, List.forall_mem_cons.mpr ⟨okX0_worthOf, List.forall_mem_cons.mpr ⟨okX0_worthWithout, List.forall_mem_cons.mpr ⟨okX0_gainOf, List.forall_mem_cons.mpr ⟨okX0_groupAround, List.forall_mem_cons.mpr ⟨okX0_groupsOf, List.forall_mem_cons.mpr ⟨okX0_farthestOf, List.forall_mem_cons.mpr ⟨okX0_pairsSideBySide, List.forall_mem_cons.mpr ⟨okX0_quietOn, List.forall_mem_cons.mpr ⟨okX1_costWith, List.forall_mem_cons.mpr ⟨okJ7_fill_53178, List.forall_mem_cons.mpr ⟨okX2_becomesRow, fun _ h => absurd h List.not_mem_nil⟩⟩⟩⟩⟩⟩⟩⟩⟩⟩⟩⟩⟩⟩⟩⟩
set_option maxRecDepth 100000 in
theorem mtk_3 : ∀ mi ∈ mt_3, okM mi = true := List.forall_mem_cons.mpr ⟨okX2_hasPlace, List.forall_mem_cons.mpr ⟨okX2_hasPlaces, List.forall_mem_cons.mpr ⟨okX2_elementAt, List.forall_mem_cons.mpr ⟨okX2_putIn, List.forall_mem_cons.mpr ⟨okX2_isSkipped, List.forall_mem_cons.mpr ⟨okX2_digitsBehind, List.forall_mem_cons.mpr ⟨okX2_wrongByte, List.forall_mem_cons.mpr ⟨okX2_digitAt, List.forall_mem_cons.mpr ⟨okX2_twoDigitsAt, List.forall_mem_cons.mpr ⟨okX3_shelfAt, List.forall_mem_cons.mpr ⟨okX3_refusalUnless, List.forall_mem_cons.mpr ⟨okX3_isDone, List.forall_mem_cons.mpr ⟨okX3_game, List.forall_mem_cons.mpr ⟨okX3_piece, List.forall_mem_cons.mpr ⟨okX3_on, List.forall_mem_cons.mpr ⟨okX3_comes, fun _ h => absurd h List.not_mem_nil⟩⟩⟩⟩⟩⟩⟩⟩⟩⟩⟩⟩⟩⟩⟩⟩
set_option maxRecDepth 100000 in
theorem mtk_4 : ∀ mi ∈ mt_4, okM mi = true := List.forall_mem_cons.mpr ⟨okX3_stands, List.forall_mem_cons.mpr ⟨okX3_takes, List.forall_mem_cons.mpr ⟨okX3_turn, List.forall_mem_cons.mpr ⟨okX3_days, List.forall_mem_cons.mpr ⟨okX3_lookAhead, List.forall_mem_cons.mpr ⟨okX3_squareThen, List.forall_mem_cons.mpr ⟨okX3_then, List.forall_mem_cons.mpr ⟨okX3_firstToFall, List.forall_mem_cons.mpr ⟨okX3_falls, List.forall_mem_cons.mpr ⟨okX3_still, List.forall_mem_cons.mpr ⟨okX3_next, List.forall_mem_cons.mpr ⟨okX3_heard, List.forall_mem_cons.mpr ⟨okX3_danger, List.forall_mem_cons.mpr ⟨okX3_placeInMind, List.forall_mem_cons.mpr ⟨okX3_stand, List.forall_mem_cons.mpr ⟨okX3_off, fun _ h => absurd h List.not_mem_nil⟩⟩⟩⟩⟩⟩⟩⟩⟩⟩⟩⟩⟩⟩⟩⟩
set_option maxRecDepth 100000 in
theorem mtk_5 : ∀ mi ∈ mt_5, okM mi = true := List.forall_mem_cons.mpr ⟨okX3_ears, List.forall_mem_cons.mpr ⟨okX3_side, List.forall_mem_cons.mpr ⟨okX3_free, List.forall_mem_cons.mpr ⟨okX3_wentAsTold, List.forall_mem_cons.mpr ⟨okX3_whatIs, List.forall_mem_cons.mpr ⟨okX3_whereFrom, List.forall_mem_cons.mpr ⟨okX3_firstPairAtRest, List.forall_mem_cons.mpr ⟨okX3_two, List.forall_mem_cons.mpr ⟨okX3_waysToBeThere, List.forall_mem_cons.mpr ⟨okX3_partInLeastTerms, List.forall_mem_cons.mpr ⟨okX3_rain, List.forall_mem_cons.mpr ⟨okX3_share, List.forall_mem_cons.mpr ⟨okX3_forged, List.forall_mem_cons.mpr ⟨okX3_judge, List.forall_mem_cons.mpr ⟨okX3_draw, List.forall_mem_cons.mpr ⟨okX3_setUpByDraws, fun _ h => absurd h List.not_mem_nil⟩⟩⟩⟩⟩⟩⟩⟩⟩⟩⟩⟩⟩⟩⟩⟩
set_option maxRecDepth 100000 in
theorem mtk_6 : ∀ mi ∈ mt_6, okM mi = true := List.forall_mem_cons.mpr ⟨okX3_games, List.forall_mem_cons.mpr ⟨okX3_image, List.forall_mem_cons.mpr ⟨okX3_restore, List.forall_mem_cons.mpr ⟨okX3_count, List.forall_mem_cons.mpr ⟨okX3_keep, List.forall_mem_cons.mpr ⟨okX3_row, List.forall_mem_cons.mpr ⟨okX3_put, List.forall_mem_cons.mpr ⟨okX3_copy, List.forall_mem_cons.mpr ⟨okX3_cost, List.forall_mem_cons.mpr ⟨okX4_isIn, List.forall_mem_cons.mpr ⟨okX4_sized, List.forall_mem_cons.mpr ⟨okX4_least, List.forall_mem_cons.mpr ⟨okX4_copies, List.forall_mem_cons.mpr ⟨okX4_of, List.forall_mem_cons.mpr ⟨okX4_isPiece, List.forall_mem_cons.mpr ⟨okX4_areTwo, fun _ h => absurd h List.not_mem_nil⟩⟩⟩⟩⟩⟩⟩⟩⟩⟩⟩⟩⟩⟩⟩⟩
set_option maxRecDepth 100000 in
theorem mtk_7 : ∀ mi ∈ mt_7, okM mi = true := List.forall_mem_cons.mpr ⟨okX4_isSquare, List.forall_mem_cons.mpr ⟨okX4_isSide, List.forall_mem_cons.mpr ⟨okX4_isHere, List.forall_mem_cons.mpr ⟨okX4_has, List.forall_mem_cons.mpr ⟨okX4_bits, List.forall_mem_cons.mpr ⟨okX4_onSquare, List.forall_mem_cons.mpr ⟨okX4_squareOn, List.forall_mem_cons.mpr ⟨okX4_isFree, List.forall_mem_cons.mpr ⟨okX4_isOfSide, List.forall_mem_cons.mpr ⟨okX4_farOf, List.forall_mem_cons.mpr ⟨okX4_forward, List.forall_mem_cons.mpr ⟨okX4_pawnIdea, List.forall_mem_cons.mpr ⟨okX4_knightIdea, List.forall_mem_cons.mpr ⟨okX4_slideIdea, List.forall_mem_cons.mpr ⟨okX4_bishopIdea, List.forall_mem_cons.mpr ⟨okX4_kingIdea, fun _ h => absurd h List.not_mem_nil⟩⟩⟩⟩⟩⟩⟩⟩⟩⟩⟩⟩⟩⟩⟩⟩
set_option maxRecDepth 100000 in
theorem mtk_8 : ∀ mi ∈ mt_8, okM mi = true := List.forall_mem_cons.mpr ⟨okX4_idea, List.forall_mem_cons.mpr ⟨okX4_earsBy, List.forall_mem_cons.mpr ⟨okX4_worthBy, List.forall_mem_cons.mpr ⟨okX4_doesHear, List.forall_mem_cons.mpr ⟨okX4_heardBy, List.forall_mem_cons.mpr ⟨okX4_hereIn, List.forall_mem_cons.mpr ⟨okX4_ofSide, List.forall_mem_cons.mpr ⟨okX4_worthOf, List.forall_mem_cons.mpr ⟨okX4_goesOn, List.forall_mem_cons.mpr ⟨okX4_day, List.forall_mem_cons.mpr ⟨okX4_daysOn, List.forall_mem_cons.mpr ⟨okX4_here, List.forall_mem_cons.mpr ⟨okX4_readsNumber, List.forall_mem_cons.mpr ⟨okX4_readsStatement, List.forall_mem_cons.mpr ⟨okX4_adds, List.forall_mem_cons.mpr ⟨okX4_mayStand, fun _ h => absurd h List.not_mem_nil⟩⟩⟩⟩⟩⟩⟩⟩⟩⟩⟩⟩⟩⟩⟩⟩
set_option maxRecDepth 100000 in
theorem mtk_9 : ∀ mi ∈ mt_9, okM mi = true := List.forall_mem_cons.mpr ⟨okX4_isDone, List.forall_mem_cons.mpr ⟨okX4_isShelf, List.forall_mem_cons.mpr ⟨okX4_wrongRow, List.forall_mem_cons.mpr ⟨okX4_game, List.forall_mem_cons.mpr ⟨okX4_nextIdea, List.forall_mem_cons.mpr ⟨okX4_piece, List.forall_mem_cons.mpr ⟨okX4_on, List.forall_mem_cons.mpr ⟨okX4_wrongKept, List.forall_mem_cons.mpr ⟨okX4_comes, List.forall_mem_cons.mpr ⟨okX4_sets, List.forall_mem_cons.mpr ⟨okX4_stands, List.forall_mem_cons.mpr ⟨okX4_takes, List.forall_mem_cons.mpr ⟨okX4_turn, List.forall_mem_cons.mpr ⟨okX4_days, List.forall_mem_cons.mpr ⟨okX4_isLate, List.forall_mem_cons.mpr ⟨okX4_inMind, fun _ h => absurd h List.not_mem_nil⟩⟩⟩⟩⟩⟩⟩⟩⟩⟩⟩⟩⟩⟩⟩⟩
set_option maxRecDepth 100000 in
theorem mtk_10 : ∀ mi ∈ mt_10, okM mi = true := List.forall_mem_cons.mpr ⟨okX4_squareThen, List.forall_mem_cons.mpr ⟨okX4_then, List.forall_mem_cons.mpr ⟨okX4_fallsOf, List.forall_mem_cons.mpr ⟨okX4_firstFalls, List.forall_mem_cons.mpr ⟨okX4_falls, List.forall_mem_cons.mpr ⟨okX4_isMoved, List.forall_mem_cons.mpr ⟨okX4_still, List.forall_mem_cons.mpr ⟨okX4_next, List.forall_mem_cons.mpr ⟨okX4_heard, List.forall_mem_cons.mpr ⟨okX4_danger, List.forall_mem_cons.mpr ⟨okX4_stand, List.forall_mem_cons.mpr ⟨okX4_off, List.forall_mem_cons.mpr ⟨okX4_ears, List.forall_mem_cons.mpr ⟨okX4_groupsOf, List.forall_mem_cons.mpr ⟨okX4_farthestOf, List.forall_mem_cons.mpr ⟨okX4_side, fun _ h => absurd h List.not_mem_nil⟩⟩⟩⟩⟩⟩⟩⟩⟩⟩⟩⟩⟩⟩⟩⟩
set_option maxRecDepth 100000 in
theorem mtk_11 : ∀ mi ∈ mt_11, okM mi = true := List.forall_mem_cons.mpr ⟨okX4_pairs, List.forall_mem_cons.mpr ⟨okX4_quietOnes, List.forall_mem_cons.mpr ⟨okX4_free, List.forall_mem_cons.mpr ⟨okX4_leastOf, List.forall_mem_cons.mpr ⟨okX4_isTold, List.forall_mem_cons.mpr ⟨okX4_toldSquare, List.forall_mem_cons.mpr ⟨okX4_isWhereSo, List.forall_mem_cons.mpr ⟨okX4_whatIs, List.forall_mem_cons.mpr ⟨okX4_whereFrom, List.forall_mem_cons.mpr ⟨okX4_hasBy, List.forall_mem_cons.mpr ⟨okX4_two, List.forall_mem_cons.mpr ⟨okX4_gcd, List.forall_mem_cons.mpr ⟨okX4_partOf, List.forall_mem_cons.mpr ⟨okX4_rain, List.forall_mem_cons.mpr ⟨okX4_share, List.forall_mem_cons.mpr ⟨okX4_forged, fun _ h => absurd h List.not_mem_nil⟩⟩⟩⟩⟩⟩⟩⟩⟩⟩⟩⟩⟩⟩⟩⟩
set_option maxRecDepth 100000 in
theorem mtk_12 : ∀ mi ∈ mt_12, okM mi = true := List.forall_mem_cons.mpr ⟨okX4_judge, List.forall_mem_cons.mpr ⟨okX4_drawn, List.forall_mem_cons.mpr ⟨okX4_setsUp, List.forall_mem_cons.mpr ⟨okX4_games, List.forall_mem_cons.mpr ⟨okX4_image, List.forall_mem_cons.mpr ⟨okX4_restore, List.forall_mem_cons.mpr ⟨okX4_count, List.forall_mem_cons.mpr ⟨okX4_thrown, List.forall_mem_cons.mpr ⟨okX4_keep, List.forall_mem_cons.mpr ⟨okX4_row, List.forall_mem_cons.mpr ⟨okX4_put, List.forall_mem_cons.mpr ⟨okX4_element, List.forall_mem_cons.mpr ⟨okX4_copy, List.forall_mem_cons.mpr ⟨okX4_costBy, List.forall_mem_cons.mpr ⟨okX4_cost, List.forall_mem_cons.mpr ⟨okX4_toss, fun _ h => absurd h List.not_mem_nil⟩⟩⟩⟩⟩⟩⟩⟩⟩⟩⟩⟩⟩⟩⟩⟩
set_option maxRecDepth 100000 in
theorem mtk_ok : ∀ mi ∈ mt, okM mi = true := List.forall_mem_append.mpr ⟨mtk_0, List.forall_mem_append.mpr ⟨mtk_1, List.forall_mem_append.mpr ⟨mtk_2, List.forall_mem_append.mpr ⟨mtk_3, List.forall_mem_append.mpr ⟨mtk_4, List.forall_mem_append.mpr ⟨mtk_5, List.forall_mem_append.mpr ⟨mtk_6, List.forall_mem_append.mpr ⟨mtk_7, List.forall_mem_append.mpr ⟨mtk_8, List.forall_mem_append.mpr ⟨mtk_9, List.forall_mem_append.mpr ⟨mtk_10, List.forall_mem_append.mpr ⟨mtk_11, mtk_12⟩⟩⟩⟩⟩⟩⟩⟩⟩⟩⟩⟩
