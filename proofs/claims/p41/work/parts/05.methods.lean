/-! by program (wip/p41/gen04.py) -/
set_option maxRecDepth 100000 in
theorem okX0_becomes : okM iX0_becomes = true := by decide +kernel
set_option maxRecDepth 100000 in
theorem okX0_has : okM iX0_has = true := by decide +kernel
set_option maxRecDepth 100000 in
theorem okX0_isThere : okM iX0_isThere = true := by decide +kernel
set_option maxRecDepth 100000 in
theorem okX0_isThereOf : okM iX0_isThereOf = true := by decide +kernel
set_option maxRecDepth 100000 in
theorem okX0_squareOrNone : okM iX0_squareOrNone = true := by decide +kernel
set_option maxRecDepth 100000 in
theorem okX0_isFree : okM iX0_isFree = true := by decide +kernel
set_option maxRecDepth 100000 in
theorem okX0_isHeldBy : okM iX0_isHeldBy = true := by decide +kernel
set_option maxRecDepth 100000 in
theorem okX3_isKind : okM iX3_isKind = true := by decide +kernel
set_option maxRecDepth 100000 in
theorem okX3_isFigure : okM iX3_isFigure = true := by decide +kernel
set_option maxRecDepth 100000 in
theorem okX3_isSide : okM iX3_isSide = true := by decide +kernel
set_option maxRecDepth 100000 in
theorem okX0_addPiece : okM iX0_addPiece = true := by decide +kernel
set_option maxRecDepth 100000 in
theorem okX3_isSquare : okM iX3_isSquare = true := by decide +kernel
set_option maxRecDepth 100000 in
theorem okX0_takeOff : okM iX0_takeOff = true := by decide +kernel
set_option maxRecDepth 100000 in
theorem okX0_movePiece : okM iX0_movePiece = true := by decide +kernel
set_option maxRecDepth 100000 in
theorem okX0_turnInto : okM iX0_turnInto = true := by decide +kernel
set_option maxRecDepth 100000 in
theorem okX0_giveTurn : okM iX0_giveTurn = true := by decide +kernel
set_option maxRecDepth 100000 in
theorem okX0_squareFrom : okM iX0_squareFrom = true := by decide +kernel
set_option maxRecDepth 100000 in
theorem okX0_knightIdea : okM iX0_knightIdea = true := by decide +kernel
set_option maxRecDepth 100000 in
theorem okX0_slideIdea : okM iX0_slideIdea = true := by decide +kernel
set_option maxRecDepth 100000 in
theorem okX0_bishopIdea : okM iX0_bishopIdea = true := by decide +kernel
set_option maxRecDepth 100000 in
theorem okX3_far : okM iX3_far = true := by decide +kernel
set_option maxRecDepth 100000 in
theorem okX0_kingIdea : okM iX0_kingIdea = true := by decide +kernel
set_option maxRecDepth 100000 in
theorem okX0_pawnIdea : okM iX0_pawnIdea = true := by decide +kernel
set_option maxRecDepth 100000 in
theorem okX0_ideaOf : okM iX0_ideaOf = true := by decide +kernel
set_option maxRecDepth 100000 in
theorem okX1_earsWith : okM iX1_earsWith = true := by decide +kernel
set_option maxRecDepth 100000 in
theorem okX0_hearersOf : okM iX0_hearersOf = true := by decide +kernel
set_option maxRecDepth 100000 in
theorem okJ6_bitCount_0f7a4 : okM iJ6_bitCount_0f7a4 = true := by decide +kernel
set_option maxRecDepth 100000 in
theorem okX0_howManyOf : okM iX0_howManyOf = true := by decide +kernel
set_option maxRecDepth 100000 in
theorem okX0_goerOn : okM iX0_goerOn = true := by decide +kernel
set_option maxRecDepth 100000 in
theorem okX0_passDay : okM iX0_passDay = true := by decide +kernel
set_option maxRecDepth 100000 in
theorem okX0_passWithinLast : okM iX0_passWithinLast = true := by decide +kernel
set_option maxRecDepth 100000 in
theorem okX0_passDays : okM iX0_passDays = true := by decide +kernel
set_option maxRecDepth 100000 in
theorem okX0_howManyThere : okM iX0_howManyThere = true := by decide +kernel
set_option maxRecDepth 100000 in
theorem okX0_bitsThere : okM iX0_bitsThere = true := by decide +kernel
set_option maxRecDepth 100000 in
theorem okX1_worthWith : okM iX1_worthWith = true := by decide +kernel
set_option maxRecDepth 100000 in
theorem okX0_worthOf : okM iX0_worthOf = true := by decide +kernel
set_option maxRecDepth 100000 in
theorem okX0_worthWithout : okM iX0_worthWithout = true := by decide +kernel
set_option maxRecDepth 100000 in
theorem okX0_groupAround : okM iX0_groupAround = true := by decide +kernel
set_option maxRecDepth 100000 in
theorem okX0_groupsOf : okM iX0_groupsOf = true := by decide +kernel
set_option maxRecDepth 100000 in
theorem okX0_farthestOf : okM iX0_farthestOf = true := by decide +kernel
set_option maxRecDepth 100000 in
theorem okX0_pairsSideBySide : okM iX0_pairsSideBySide = true := by decide +kernel
set_option maxRecDepth 100000 in
theorem okX0_quietOn : okM iX0_quietOn = true := by decide +kernel
set_option maxRecDepth 100000 in
theorem okX2_hasPlace : okM iX2_hasPlace = true := by decide +kernel
set_option maxRecDepth 100000 in
theorem okX2_elementAt : okM iX2_elementAt = true := by decide +kernel
set_option maxRecDepth 100000 in
theorem okX2_digitsBehind : okM iX2_digitsBehind = true := by decide +kernel
set_option maxRecDepth 100000 in
theorem okX2_wrongByte : okM iX2_wrongByte = true := by decide +kernel
set_option maxRecDepth 100000 in
theorem okX2_digitAt : okM iX2_digitAt = true := by decide +kernel
set_option maxRecDepth 100000 in
theorem okX2_twoDigitsAt : okM iX2_twoDigitsAt = true := by decide +kernel
set_option maxRecDepth 100000 in
theorem okX3_shelfAt : okM iX3_shelfAt = true := by decide +kernel
set_option maxRecDepth 100000 in
theorem okX3_refusalUnless : okM iX3_refusalUnless = true := by decide +kernel
set_option maxRecDepth 100000 in
theorem okX3_isDone : okM iX3_isDone = true := by decide +kernel
set_option maxRecDepth 100000 in
theorem okX3_game : okM iX3_game = true := by decide +kernel
set_option maxRecDepth 100000 in
theorem okX3_piece : okM iX3_piece = true := by decide +kernel
set_option maxRecDepth 100000 in
theorem okX3_on : okM iX3_on = true := by decide +kernel
set_option maxRecDepth 100000 in
theorem okX3_comes : okM iX3_comes = true := by decide +kernel
set_option maxRecDepth 100000 in
theorem okX3_stands : okM iX3_stands = true := by decide +kernel
set_option maxRecDepth 100000 in
theorem okX3_takes : okM iX3_takes = true := by decide +kernel
set_option maxRecDepth 100000 in
theorem okX3_turn : okM iX3_turn = true := by decide +kernel
set_option maxRecDepth 100000 in
theorem okX3_days : okM iX3_days = true := by decide +kernel
set_option maxRecDepth 100000 in
theorem okX3_lookAhead : okM iX3_lookAhead = true := by decide +kernel
set_option maxRecDepth 100000 in
theorem okX3_then : okM iX3_then = true := by decide +kernel
set_option maxRecDepth 100000 in
theorem okX3_firstToFall : okM iX3_firstToFall = true := by decide +kernel
set_option maxRecDepth 100000 in
theorem okX3_falls : okM iX3_falls = true := by decide +kernel
set_option maxRecDepth 100000 in
theorem okX3_still : okM iX3_still = true := by decide +kernel
set_option maxRecDepth 100000 in
theorem okX3_next : okM iX3_next = true := by decide +kernel
set_option maxRecDepth 100000 in
theorem okX3_heard : okM iX3_heard = true := by decide +kernel
set_option maxRecDepth 100000 in
theorem okX3_danger : okM iX3_danger = true := by decide +kernel
set_option maxRecDepth 100000 in
theorem okX3_placeInMind : okM iX3_placeInMind = true := by decide +kernel
set_option maxRecDepth 100000 in
theorem okX3_stand : okM iX3_stand = true := by decide +kernel
set_option maxRecDepth 100000 in
theorem okX3_off : okM iX3_off = true := by decide +kernel
set_option maxRecDepth 100000 in
theorem okX3_side : okM iX3_side = true := by decide +kernel
set_option maxRecDepth 100000 in
theorem okX3_free : okM iX3_free = true := by decide +kernel
set_option maxRecDepth 100000 in
theorem okX3_image : okM iX3_image = true := by decide +kernel
set_option maxRecDepth 100000 in
theorem okX3_restore : okM iX3_restore = true := by decide +kernel
set_option maxRecDepth 100000 in
theorem okX3_count : okM iX3_count = true := by decide +kernel
set_option maxRecDepth 100000 in
theorem okX3_keep : okM iX3_keep = true := by decide +kernel
set_option maxRecDepth 100000 in
theorem okJ7_fill_53178 : okM iJ7_fill_53178 = true := by decide +kernel
set_option maxRecDepth 100000 in
theorem okL_cell : okM iL_cell = true := by decide +kernel
set_option maxRecDepth 100000 in
theorem okL_at : okM iL_at = true := by decide +kernel
set_option maxRecDepth 100000 in
theorem okL_on : okM iL_on = true := by decide +kernel
set_option maxRecDepth 100000 in
theorem okL_what : okM iL_what = true := by decide +kernel
set_option maxRecDepth 100000 in
theorem okL_far : okM iL_far = true := by decide +kernel
set_option maxRecDepth 100000 in
theorem okL_slide : okM iL_slide = true := by decide +kernel
set_option maxRecDepth 100000 in
theorem okL_idea : okM iL_idea = true := by decide +kernel
set_option maxRecDepth 100000 in
theorem okL_ears : okM iL_ears = true := by decide +kernel
set_option maxRecDepth 100000 in
theorem okL_hears : okM iL_hears = true := by decide +kernel
set_option maxRecDepth 100000 in
theorem okL_heard : okM iL_heard = true := by decide +kernel
set_option maxRecDepth 100000 in
theorem okL_bits : okM iL_bits = true := by decide +kernel
set_option maxRecDepth 100000 in
theorem okL_goes : okM iL_goes = true := by decide +kernel
set_option maxRecDepth 100000 in
theorem okL_day : okM iL_day = true := by decide +kernel
set_option maxRecDepth 100000 in
theorem okL_days : okM iL_days = true := by decide +kernel
set_option maxRecDepth 100000 in
theorem okL_there : okM iL_there = true := by decide +kernel
set_option maxRecDepth 100000 in
theorem okL_board : okM iL_board = true := by decide +kernel
set_option maxRecDepth 100000 in
theorem okL_sight : okM iL_sight = true := by decide +kernel
set_option maxRecDepth 100000 in
theorem mtk_0 : ∀ mi ∈ mt_0, okM mi = true := List.forall_mem_cons.mpr ⟨okX0_becomes, List.forall_mem_cons.mpr ⟨okX0_has, List.forall_mem_cons.mpr ⟨okX0_isThere, List.forall_mem_cons.mpr ⟨okX0_isThereOf, List.forall_mem_cons.mpr ⟨okX0_squareOrNone, List.forall_mem_cons.mpr ⟨okX0_isFree, List.forall_mem_cons.mpr ⟨okX0_isHeldBy, List.forall_mem_cons.mpr ⟨okX3_isKind, List.forall_mem_cons.mpr ⟨okX3_isFigure, List.forall_mem_cons.mpr ⟨okX3_isSide, List.forall_mem_cons.mpr ⟨okX0_addPiece, List.forall_mem_cons.mpr ⟨okX3_isSquare, List.forall_mem_cons.mpr ⟨okX0_takeOff, List.forall_mem_cons.mpr ⟨okX0_movePiece, List.forall_mem_cons.mpr ⟨okX0_turnInto, List.forall_mem_cons.mpr ⟨okX0_giveTurn, fun _ h => absurd h List.not_mem_nil⟩⟩⟩⟩⟩⟩⟩⟩⟩⟩⟩⟩⟩⟩⟩⟩
set_option maxRecDepth 100000 in
theorem mtk_1 : ∀ mi ∈ mt_1, okM mi = true := List.forall_mem_cons.mpr ⟨okX0_squareFrom, List.forall_mem_cons.mpr ⟨okX0_knightIdea, List.forall_mem_cons.mpr ⟨okX0_slideIdea, List.forall_mem_cons.mpr ⟨okX0_bishopIdea, List.forall_mem_cons.mpr ⟨okX3_far, List.forall_mem_cons.mpr ⟨okX0_kingIdea, List.forall_mem_cons.mpr ⟨okX0_pawnIdea, List.forall_mem_cons.mpr ⟨okX0_ideaOf, List.forall_mem_cons.mpr ⟨okX1_earsWith, List.forall_mem_cons.mpr ⟨okX0_hearersOf, List.forall_mem_cons.mpr ⟨okJ6_bitCount_0f7a4, List.forall_mem_cons.mpr ⟨okX0_howManyOf, List.forall_mem_cons.mpr ⟨okX0_goerOn, List.forall_mem_cons.mpr ⟨okX0_passDay, List.forall_mem_cons.mpr ⟨okX0_passWithinLast, List.forall_mem_cons.mpr ⟨okX0_passDays, fun _ h => absurd h List.not_mem_nil⟩⟩⟩⟩⟩⟩⟩⟩⟩⟩⟩⟩⟩⟩⟩⟩
set_option maxRecDepth 100000 in
theorem mtk_2 : ∀ mi ∈ mt_2, okM mi = true := List.forall_mem_cons.mpr ⟨okX0_howManyThere, List.forall_mem_cons.mpr ⟨okX0_bitsThere, List.forall_mem_cons.mpr ⟨okX1_worthWith, List.forall_mem_cons.mpr ⟨okX0_worthOf, List.forall_mem_cons.mpr ⟨okX0_worthWithout, List.forall_mem_cons.mpr ⟨okX0_groupAround, List.forall_mem_cons.mpr ⟨okX0_groupsOf, List.forall_mem_cons.mpr ⟨okX0_farthestOf, List.forall_mem_cons.mpr ⟨okX0_pairsSideBySide, List.forall_mem_cons.mpr ⟨okX0_quietOn, List.forall_mem_cons.mpr ⟨okX2_hasPlace, List.forall_mem_cons.mpr ⟨okX2_elementAt, List.forall_mem_cons.mpr ⟨okX2_digitsBehind, List.forall_mem_cons.mpr ⟨okX2_wrongByte, List.forall_mem_cons.mpr ⟨okX2_digitAt, List.forall_mem_cons.mpr ⟨okX2_twoDigitsAt, fun _ h => absurd h List.not_mem_nil⟩⟩⟩⟩⟩⟩⟩⟩⟩⟩⟩⟩⟩⟩⟩⟩
set_option maxRecDepth 100000 in
theorem mtk_3 : ∀ mi ∈ mt_3, okM mi = true := List.forall_mem_cons.mpr ⟨okX3_shelfAt, List.forall_mem_cons.mpr ⟨okX3_refusalUnless, List.forall_mem_cons.mpr ⟨okX3_isDone, List.forall_mem_cons.mpr ⟨okX3_game, List.forall_mem_cons.mpr ⟨okX3_piece, List.forall_mem_cons.mpr ⟨okX3_on, List.forall_mem_cons.mpr ⟨okX3_comes, List.forall_mem_cons.mpr ⟨okX3_stands, List.forall_mem_cons.mpr ⟨okX3_takes, List.forall_mem_cons.mpr ⟨okX3_turn, List.forall_mem_cons.mpr ⟨okX3_days, List.forall_mem_cons.mpr ⟨okX3_lookAhead, List.forall_mem_cons.mpr ⟨okX3_then, List.forall_mem_cons.mpr ⟨okX3_firstToFall, List.forall_mem_cons.mpr ⟨okX3_falls, List.forall_mem_cons.mpr ⟨okX3_still, fun _ h => absurd h List.not_mem_nil⟩⟩⟩⟩⟩⟩⟩⟩⟩⟩⟩⟩⟩⟩⟩⟩
set_option maxRecDepth 100000 in
theorem mtk_4 : ∀ mi ∈ mt_4, okM mi = true := List.forall_mem_cons.mpr ⟨okX3_next, List.forall_mem_cons.mpr ⟨okX3_heard, List.forall_mem_cons.mpr ⟨okX3_danger, List.forall_mem_cons.mpr ⟨okX3_placeInMind, List.forall_mem_cons.mpr ⟨okX3_stand, List.forall_mem_cons.mpr ⟨okX3_off, List.forall_mem_cons.mpr ⟨okX3_side, List.forall_mem_cons.mpr ⟨okX3_free, List.forall_mem_cons.mpr ⟨okX3_image, List.forall_mem_cons.mpr ⟨okX3_restore, List.forall_mem_cons.mpr ⟨okX3_count, List.forall_mem_cons.mpr ⟨okX3_keep, List.forall_mem_cons.mpr ⟨okJ7_fill_53178, List.forall_mem_cons.mpr ⟨okL_cell, List.forall_mem_cons.mpr ⟨okL_at, List.forall_mem_cons.mpr ⟨okL_on, fun _ h => absurd h List.not_mem_nil⟩⟩⟩⟩⟩⟩⟩⟩⟩⟩⟩⟩⟩⟩⟩⟩
set_option maxRecDepth 100000 in
theorem mtk_5 : ∀ mi ∈ mt_5, okM mi = true := List.forall_mem_cons.mpr ⟨okL_what, List.forall_mem_cons.mpr ⟨okL_far, List.forall_mem_cons.mpr ⟨okL_slide, List.forall_mem_cons.mpr ⟨okL_idea, List.forall_mem_cons.mpr ⟨okL_ears, List.forall_mem_cons.mpr ⟨okL_hears, List.forall_mem_cons.mpr ⟨okL_heard, List.forall_mem_cons.mpr ⟨okL_bits, List.forall_mem_cons.mpr ⟨okL_goes, List.forall_mem_cons.mpr ⟨okL_day, List.forall_mem_cons.mpr ⟨okL_days, List.forall_mem_cons.mpr ⟨okL_there, List.forall_mem_cons.mpr ⟨okL_board, List.forall_mem_cons.mpr ⟨okL_sight, fun _ h => absurd h List.not_mem_nil⟩⟩⟩⟩⟩⟩⟩⟩⟩⟩⟩⟩⟩⟩
set_option maxRecDepth 100000 in
theorem mtk_ok : ∀ mi ∈ mt, okM mi = true := List.forall_mem_append.mpr ⟨mtk_0, List.forall_mem_append.mpr ⟨mtk_1, List.forall_mem_append.mpr ⟨mtk_2, List.forall_mem_append.mpr ⟨mtk_3, List.forall_mem_append.mpr ⟨mtk_4, mtk_5⟩⟩⟩⟩⟩
