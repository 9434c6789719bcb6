/-! THE METHODS AS BLOCKS, by program out of the printed decode rows (wip/p41/gen03.py) -/
abbrev jX0_becomes : Nat := 0
def bX0_becomes : List Blk := [(0, [(.aload_n 1, 1, 0, 0, 0), (.getfield 9, 3, 0, 0, 0), (.iconst 0, 1, 0, 0, 0), (.aload_n 0, 1, 0, 0, 0), (.getfield 9, 3, 0, 0, 0), (.iconst 0, 1, 0, 0, 0), (.bipush 10, 2, 10, 0, 0), (.invokestatic 46, 3, 0, 0, 0), (.aload_n 1, 1, 0, 0, 0), (.getfield 15, 3, 0, 1, 0), (.iconst 0, 1, 0, 0, 0), (.aload_n 0, 1, 0, 0, 0), (.getfield 15, 3, 0, 1, 0), (.iconst 0, 1, 0, 0, 0), (.bipush 10, 2, 10, 0, 0), (.invokestatic 46, 3, 0, 0, 0), (.aload_n 1, 1, 0, 0, 0), (.getfield 18, 3, 0, 2, 0), (.iconst 0, 1, 0, 0, 0), (.aload_n 0, 1, 0, 0, 0), (.getfield 18, 3, 0, 2, 0), (.iconst 0, 1, 0, 0, 0), (.bipush 10, 2, 10, 0, 0), (.invokestatic 46, 3, 0, 0, 0), (.aload_n 1, 1, 0, 0, 0), (.getfield 21, 3, 0, 3, 0), (.iconst 0, 1, 0, 0, 0), (.aload_n 0, 1, 0, 0, 0), (.getfield 21, 3, 0, 3, 0), (.iconst 0, 1, 0, 0, 0), (.bipush 10, 2, 10, 0, 0), (.invokestatic 46, 3, 0, 0, 0), (.aload_n 1, 1, 0, 0, 0), (.getfield 24, 3, 0, 4, 0), (.iconst 0, 1, 0, 0, 0), (.aload_n 0, 1, 0, 0, 0), (.getfield 24, 3, 0, 4, 0), (.iconst 0, 1, 0, 0, 0), (.bipush 36, 2, 36, 0, 0), (.invokestatic 46, 3, 0, 0, 0), (.aload_n 0, 1, 0, 0, 0), (.aload_n 1, 1, 0, 0, 0), (.getfield 27, 3, 0, 5, 0), (.putfield 27, 3, 0, 5, 0), (.aload_n 0, 1, 0, 0, 0), (.aload_n 1, 1, 0, 0, 0), (.getfield 31, 3, 0, 6, 0), (.putfield 31, 3, 0, 6, 0), (.aload_n 0, 1, 0, 0, 0), (.aload_n 1, 1, 0, 0, 0), (.getfield 34, 3, 0, 7, 0), (.putfield 34, 3, 0, 7, 0), (.aload_n 0, 1, 0, 0, 0), (.aload_n 1, 1, 0, 0, 0), (.getfield 37, 3, 0, 8, 0), (.putfield 37, 3, 0, 8, 0)], some (.return_, 1, 0, 0, 0))]
def iX0_becomes : MI := (yX0_becomes, cX0_becomes, 2, none, 0, 2, bX0_becomes)
abbrev jX0_has : Nat := 1
def bX0_has : List Blk := [(0, [(.iload_n 1, 1, 0, 0, 0)], some (.ifCond .lt 21, 3, 0, 0, 0)),
  (4, [(.iload_n 1, 1, 0, 0, 0), (.aload_n 0, 1, 0, 0, 0), (.getfield 27, 3, 0, 5, 0)], some (.if_icmp .ge 13, 3, 0, 0, 0)),
  (12, [(.iload_n 1, 1, 0, 0, 0), (.bipush 10, 2, 10, 0, 0)], some (.if_icmp .ge 7, 3, 0, 0, 0)),
  (18, [(.iconst 1, 1, 1, 0, 0)], some (.goto 4, 3, 0, 0, 0)),
  (22, [(.iconst 0, 1, 0, 0, 0)], none),
  (23, [], some (.ireturn, 1, 1, 0, 0))]
def iX0_has : MI := (yX0_has, cX0_has, 2, (some .boolean), 0, 2, bX0_has)
abbrev jX0_isThere : Nat := 2
def bX0_isThere : List Blk := [(0, [(.aload_n 0, 1, 0, 0, 0), (.iload_n 1, 1, 0, 0, 0)], some (.invokevirtual 52, 3, 1, 2, 0)),
  (5, [], some (.ifCond .eq 18, 3, 0, 0, 0)),
  (8, [(.aload_n 0, 1, 0, 0, 0), (.getfield 21, 3, 0, 3, 0), (.iload_n 1, 1, 0, 0, 0), (.iaload, 1, 0, 0, 0), (.bipush 36, 2, 36, 0, 0)], some (.if_icmp .eq 7, 3, 0, 0, 0)),
  (19, [(.iconst 1, 1, 1, 0, 0)], some (.goto 4, 3, 0, 0, 0)),
  (23, [(.iconst 0, 1, 0, 0, 0)], none),
  (24, [], some (.ireturn, 1, 1, 0, 0))]
def iX0_isThere : MI := (yX0_isThere, cX0_isThere, 2, (some .boolean), 0, 2, bX0_isThere)
abbrev jX0_isThereOf : Nat := 3
def bX0_isThereOf : List Blk := [(0, [(.iload_n 1, 1, 0, 0, 0)], some (.ifCond .lt 42, 3, 0, 0, 0)),
  (4, [(.iload_n 1, 1, 0, 0, 0), (.aload_n 0, 1, 0, 0, 0), (.getfield 27, 3, 0, 5, 0)], some (.if_icmp .ge 34, 3, 0, 0, 0)),
  (12, [(.iload_n 1, 1, 0, 0, 0), (.bipush 10, 2, 10, 0, 0)], some (.if_icmp .ge 28, 3, 0, 0, 0)),
  (18, [(.aload_n 0, 1, 0, 0, 0), (.getfield 18, 3, 0, 2, 0), (.iload_n 1, 1, 0, 0, 0), (.iaload, 1, 0, 0, 0), (.iload_n 2, 1, 0, 0, 0)], some (.if_icmp .ne 18, 3, 0, 0, 0)),
  (28, [(.aload_n 0, 1, 0, 0, 0), (.getfield 21, 3, 0, 3, 0), (.iload_n 1, 1, 0, 0, 0), (.iaload, 1, 0, 0, 0), (.bipush 36, 2, 36, 0, 0)], some (.if_icmp .eq 7, 3, 0, 0, 0)),
  (39, [(.iconst 1, 1, 1, 0, 0)], some (.goto 4, 3, 0, 0, 0)),
  (43, [(.iconst 0, 1, 0, 0, 0)], none),
  (44, [], some (.ireturn, 1, 1, 0, 0))]
def iX0_isThereOf : MI := (yX0_isThereOf, cX0_isThereOf, 3, (some .boolean), 0, 3, bX0_isThereOf)
abbrev jX0_squareOrNone : Nat := 4
def bX0_squareOrNone : List Blk := [(0, [(.aload_n 0, 1, 0, 0, 0), (.iload_n 1, 1, 0, 0, 0)], some (.invokevirtual 56, 3, 2, 2, 0)),
  (5, [], some (.ifCond .eq 12, 3, 0, 0, 0)),
  (8, [(.aload_n 0, 1, 0, 0, 0), (.getfield 21, 3, 0, 3, 0), (.iload_n 1, 1, 0, 0, 0), (.iaload, 1, 0, 0, 0)], some (.goto 5, 3, 0, 0, 0)),
  (17, [(.bipush (-4), 2, 4, 1, 0)], none),
  (19, [], some (.ireturn, 1, 0, 0, 0))]
def iX0_squareOrNone : MI := (yX0_squareOrNone, cX0_squareOrNone, 2, (some .int), 0, 2, bX0_squareOrNone)
abbrev jX0_isFree : Nat := 5
def bX0_isFree : List Blk := [(0, [(.iload_n 1, 1, 0, 0, 0)], some (.ifCond .lt 24, 3, 0, 0, 0)),
  (4, [(.iload_n 1, 1, 0, 0, 0), (.bipush 36, 2, 36, 0, 0)], some (.if_icmp .ge 18, 3, 0, 0, 0)),
  (10, [(.aload_n 0, 1, 0, 0, 0), (.getfield 24, 3, 0, 4, 0), (.iload_n 1, 1, 0, 0, 0), (.iaload, 1, 0, 0, 0), (.bipush (-4), 2, 4, 1, 0)], some (.if_icmp .ne 7, 3, 0, 0, 0)),
  (21, [(.iconst 1, 1, 1, 0, 0)], some (.goto 4, 3, 0, 0, 0)),
  (25, [(.iconst 0, 1, 0, 0, 0)], none),
  (26, [], some (.ireturn, 1, 1, 0, 0))]
def iX0_isFree : MI := (yX0_isFree, cX0_isFree, 2, (some .boolean), 0, 2, bX0_isFree)
abbrev jX0_isHeldBy : Nat := 6
def bX0_isHeldBy : List Blk := [(0, [(.iload_n 1, 1, 0, 0, 0)], some (.ifCond .lt 18, 3, 0, 0, 0)),
  (4, [(.iload_n 1, 1, 0, 0, 0), (.bipush 36, 2, 36, 0, 0)], some (.if_icmp .ge 12, 3, 0, 0, 0)),
  (10, [(.aload_n 0, 1, 0, 0, 0), (.getfield 24, 3, 0, 4, 0), (.iload_n 1, 1, 0, 0, 0), (.iaload, 1, 0, 0, 0)], some (.goto 5, 3, 0, 0, 0)),
  (19, [(.bipush (-4), 2, 4, 1, 0)], none),
  (21, [(.istore_n 3, 1, 0, 0, 0), (.iload_n 3, 1, 0, 0, 0)], some (.ifCond .lt 31, 3, 0, 0, 0)),
  (26, [(.iload_n 3, 1, 0, 0, 0), (.aload_n 0, 1, 0, 0, 0), (.getfield 27, 3, 0, 5, 0)], some (.if_icmp .ge 23, 3, 0, 0, 0)),
  (34, [(.iload_n 3, 1, 0, 0, 0), (.bipush 10, 2, 10, 0, 0)], some (.if_icmp .ge 17, 3, 0, 0, 0)),
  (40, [(.aload_n 0, 1, 0, 0, 0), (.getfield 18, 3, 0, 2, 0), (.iload_n 3, 1, 0, 0, 0), (.iaload, 1, 0, 0, 0), (.iload_n 2, 1, 0, 0, 0)], some (.if_icmp .ne 7, 3, 0, 0, 0)),
  (50, [(.iconst 1, 1, 1, 0, 0)], some (.goto 4, 3, 0, 0, 0)),
  (54, [(.iconst 0, 1, 0, 0, 0)], none),
  (55, [], some (.ireturn, 1, 1, 0, 0))]
def iX0_isHeldBy : MI := (yX0_isHeldBy, cX0_isHeldBy, 4, (some .boolean), 0, 3, bX0_isHeldBy)
abbrev jX3_isKind : Nat := 7
def bX3_isKind : List Blk := [(0, [(.iload_n 0, 1, 0, 0, 0)], some (.ifCond .lt 13, 3, 0, 0, 0)),
  (4, [(.iload_n 0, 1, 0, 0, 0), (.bipush 8, 2, 8, 0, 0)], some (.if_icmp .ge 7, 3, 0, 0, 0)),
  (10, [(.iconst 1, 1, 1, 0, 0)], some (.goto 4, 3, 0, 0, 0)),
  (14, [(.iconst 0, 1, 0, 0, 0)], none),
  (15, [], some (.ireturn, 1, 1, 0, 0))]
def iX3_isKind : MI := (yX3_isKind, cX3_isKind, 1, (some .boolean), 2, 1, bX3_isKind)
abbrev jX3_isFigure : Nat := 8
def bX3_isFigure : List Blk := [(0, [(.iload_n 0, 1, 0, 0, 0)], some (.ifCond .lt 13, 3, 0, 0, 0)),
  (4, [(.iload_n 0, 1, 0, 0, 0), (.bipush 10, 2, 10, 0, 0)], some (.if_icmp .ge 7, 3, 0, 0, 0)),
  (10, [(.iconst 1, 1, 1, 0, 0)], some (.goto 4, 3, 0, 0, 0)),
  (14, [(.iconst 0, 1, 0, 0, 0)], none),
  (15, [], some (.ireturn, 1, 1, 0, 0))]
def iX3_isFigure : MI := (yX3_isFigure, cX3_isFigure, 1, (some .boolean), 2, 1, bX3_isFigure)
abbrev jX3_isSide : Nat := 9
def bX3_isSide : List Blk := [(0, [(.iload_n 0, 1, 0, 0, 0)], some (.ifCond .eq 8, 3, 0, 0, 0)),
  (4, [(.iload_n 0, 1, 0, 0, 0), (.iconst 1, 1, 1, 0, 0)], some (.if_icmp .ne 7, 3, 0, 0, 0)),
  (9, [(.iconst 1, 1, 1, 0, 0)], some (.goto 4, 3, 0, 0, 0)),
  (13, [(.iconst 0, 1, 0, 0, 0)], none),
  (14, [], some (.ireturn, 1, 1, 0, 0))]
def iX3_isSide : MI := (yX3_isSide, cX3_isSide, 1, (some .boolean), 2, 1, bX3_isSide)
abbrev jX0_addPiece : Nat := 10
def bX0_addPiece : List Blk := [(0, [(.aload_n 0, 1, 0, 0, 0), (.getfield 27, 3, 0, 5, 0)], some (.ifCond .lt 42, 3, 0, 0, 0)),
  (7, [(.aload_n 0, 1, 0, 0, 0), (.getfield 27, 3, 0, 5, 0), (.bipush 10, 2, 10, 0, 0)], some (.if_icmp .ge 33, 3, 0, 0, 0)),
  (16, [(.iload_n 1, 1, 0, 0, 0)], some (.invokestatic 59, 3, 7, 1, 0)),
  (20, [], some (.ifCond .eq 26, 3, 0, 0, 0)),
  (23, [(.iload_n 2, 1, 0, 0, 0)], some (.invokestatic 62, 3, 8, 1, 0)),
  (27, [], some (.ifCond .eq 19, 3, 0, 0, 0)),
  (30, [(.iload_n 3, 1, 0, 0, 0)], some (.invokestatic 65, 3, 9, 1, 0)),
  (34, [], some (.ifCond .eq 12, 3, 0, 0, 0)),
  (37, [(.aload_n 0, 1, 0, 0, 0), (.iload 4, 2, 0, 0, 0)], some (.invokevirtual 68, 3, 5, 2, 0)),
  (43, [], some (.ifCond .ne 5, 3, 0, 0, 0)),
  (46, [(.iconst 0, 1, 0, 0, 0)], some (.ireturn, 1, 1, 0, 0)),
  (48, [(.aload_n 0, 1, 0, 0, 0), (.getfield 9, 3, 0, 0, 0), (.aload_n 0, 1, 0, 0, 0), (.getfield 27, 3, 0, 5, 0), (.iload_n 1, 1, 0, 0, 0), (.iastore, 1, 0, 0, 0), (.aload_n 0, 1, 0, 0, 0), (.getfield 15, 3, 0, 1, 0), (.aload_n 0, 1, 0, 0, 0), (.getfield 27, 3, 0, 5, 0), (.iload_n 2, 1, 0, 0, 0), (.iastore, 1, 0, 0, 0), (.aload_n 0, 1, 0, 0, 0), (.getfield 18, 3, 0, 2, 0), (.aload_n 0, 1, 0, 0, 0), (.getfield 27, 3, 0, 5, 0), (.iload_n 3, 1, 0, 0, 0), (.iastore, 1, 0, 0, 0), (.aload_n 0, 1, 0, 0, 0), (.getfield 21, 3, 0, 3, 0), (.aload_n 0, 1, 0, 0, 0), (.getfield 27, 3, 0, 5, 0), (.iload 4, 2, 0, 0, 0), (.iastore, 1, 0, 0, 0), (.aload_n 0, 1, 0, 0, 0), (.getfield 24, 3, 0, 4, 0), (.iload 4, 2, 0, 0, 0), (.aload_n 0, 1, 0, 0, 0), (.getfield 27, 3, 0, 5, 0), (.iastore, 1, 0, 0, 0), (.aload_n 0, 1, 0, 0, 0), (.dup, 1, 0, 0, 0), (.getfield 27, 3, 0, 5, 0), (.iconst 1, 1, 1, 0, 0), (.iadd, 1, 0, 0, 0), (.putfield 27, 3, 0, 5, 0), (.iconst 1, 1, 1, 0, 0)], some (.ireturn, 1, 1, 0, 0))]
def iX0_addPiece : MI := (yX0_addPiece, cX0_addPiece, 5, (some .boolean), 0, 5, bX0_addPiece)
abbrev jX3_isSquare : Nat := 11
def bX3_isSquare : List Blk := [(0, [(.iload_n 0, 1, 0, 0, 0)], some (.ifCond .lt 13, 3, 0, 0, 0)),
  (4, [(.iload_n 0, 1, 0, 0, 0), (.bipush 36, 2, 36, 0, 0)], some (.if_icmp .ge 7, 3, 0, 0, 0)),
  (10, [(.iconst 1, 1, 1, 0, 0)], some (.goto 4, 3, 0, 0, 0)),
  (14, [(.iconst 0, 1, 0, 0, 0)], none),
  (15, [], some (.ireturn, 1, 1, 0, 0))]
def iX3_isSquare : MI := (yX3_isSquare, cX3_isSquare, 1, (some .boolean), 2, 1, bX3_isSquare)
abbrev jX0_takeOff : Nat := 12
def bX0_takeOff : List Blk := [(0, [(.aload_n 0, 1, 0, 0, 0), (.iload_n 1, 1, 0, 0, 0)], some (.invokevirtual 52, 3, 1, 2, 0)),
  (5, [], some (.ifCond .eq 15, 3, 0, 0, 0)),
  (8, [(.aload_n 0, 1, 0, 0, 0), (.getfield 21, 3, 0, 3, 0), (.iload_n 1, 1, 0, 0, 0), (.iaload, 1, 0, 0, 0)], some (.invokestatic 71, 3, 11, 1, 0)),
  (17, [], some (.ifCond .ne 5, 3, 0, 0, 0)),
  (20, [(.iconst 0, 1, 0, 0, 0)], some (.ireturn, 1, 1, 0, 0)),
  (22, [(.aload_n 0, 1, 0, 0, 0), (.getfield 24, 3, 0, 4, 0), (.aload_n 0, 1, 0, 0, 0), (.getfield 21, 3, 0, 3, 0), (.iload_n 1, 1, 0, 0, 0), (.iaload, 1, 0, 0, 0), (.bipush (-4), 2, 4, 1, 0), (.iastore, 1, 0, 0, 0), (.aload_n 0, 1, 0, 0, 0), (.getfield 21, 3, 0, 3, 0), (.iload_n 1, 1, 0, 0, 0), (.bipush 36, 2, 36, 0, 0), (.iastore, 1, 0, 0, 0), (.iconst 1, 1, 1, 0, 0)], some (.ireturn, 1, 1, 0, 0))]
def iX0_takeOff : MI := (yX0_takeOff, cX0_takeOff, 2, (some .boolean), 0, 2, bX0_takeOff)
abbrev jX0_movePiece : Nat := 13
def bX0_movePiece : List Blk := [(0, [(.aload_n 0, 1, 0, 0, 0), (.iload_n 1, 1, 0, 0, 0)], some (.invokevirtual 52, 3, 1, 2, 0)),
  (5, [], some (.ifCond .eq 31, 3, 0, 0, 0)),
  (8, [(.iload_n 2, 1, 0, 0, 0)], some (.invokestatic 71, 3, 11, 1, 0)),
  (12, [], some (.ifCond .eq 24, 3, 0, 0, 0)),
  (15, [(.aload_n 0, 1, 0, 0, 0), (.getfield 24, 3, 0, 4, 0), (.iload_n 2, 1, 0, 0, 0), (.iaload, 1, 0, 0, 0), (.bipush (-4), 2, 4, 1, 0)], some (.if_icmp .eq 15, 3, 0, 0, 0)),
  (26, [(.aload_n 0, 1, 0, 0, 0), (.getfield 24, 3, 0, 4, 0), (.iload_n 2, 1, 0, 0, 0), (.iaload, 1, 0, 0, 0), (.iload_n 1, 1, 0, 0, 0)], some (.if_icmp .eq 5, 3, 0, 0, 0)),
  (36, [(.iconst 0, 1, 0, 0, 0)], some (.ireturn, 1, 1, 0, 0)),
  (38, [(.aload_n 0, 1, 0, 0, 0), (.iload_n 1, 1, 0, 0, 0)], some (.invokevirtual 74, 3, 12, 2, 0)),
  (43, [(.pop, 1, 0, 0, 0), (.aload_n 0, 1, 0, 0, 0), (.getfield 21, 3, 0, 3, 0), (.iload_n 1, 1, 0, 0, 0), (.iload_n 2, 1, 0, 0, 0), (.iastore, 1, 0, 0, 0), (.aload_n 0, 1, 0, 0, 0), (.getfield 24, 3, 0, 4, 0), (.iload_n 2, 1, 0, 0, 0), (.iload_n 1, 1, 0, 0, 0), (.iastore, 1, 0, 0, 0), (.iconst 1, 1, 1, 0, 0)], some (.ireturn, 1, 1, 0, 0))]
def iX0_movePiece : MI := (yX0_movePiece, cX0_movePiece, 3, (some .boolean), 0, 3, bX0_movePiece)
abbrev jX0_turnInto : Nat := 14
def bX0_turnInto : List Blk := [(0, [(.aload_n 0, 1, 0, 0, 0), (.iload_n 1, 1, 0, 0, 0)], some (.invokevirtual 52, 3, 1, 2, 0)),
  (5, [], some (.ifCond .eq 17, 3, 0, 0, 0)),
  (8, [(.iload_n 2, 1, 0, 0, 0)], some (.invokestatic 59, 3, 7, 1, 0)),
  (12, [], some (.ifCond .eq 10, 3, 0, 0, 0)),
  (15, [(.iload_n 3, 1, 0, 0, 0)], some (.invokestatic 62, 3, 8, 1, 0)),
  (19, [], some (.ifCond .ne 5, 3, 0, 0, 0)),
  (22, [(.iconst 0, 1, 0, 0, 0)], some (.ireturn, 1, 1, 0, 0)),
  (24, [(.aload_n 0, 1, 0, 0, 0), (.getfield 9, 3, 0, 0, 0), (.iload_n 1, 1, 0, 0, 0), (.iload_n 2, 1, 0, 0, 0), (.iastore, 1, 0, 0, 0), (.aload_n 0, 1, 0, 0, 0), (.getfield 15, 3, 0, 1, 0), (.iload_n 1, 1, 0, 0, 0), (.iload_n 3, 1, 0, 0, 0), (.iastore, 1, 0, 0, 0), (.iconst 1, 1, 1, 0, 0)], some (.ireturn, 1, 1, 0, 0))]
def iX0_turnInto : MI := (yX0_turnInto, cX0_turnInto, 4, (some .boolean), 0, 4, bX0_turnInto)
abbrev jX0_giveTurn : Nat := 15
def bX0_giveTurn : List Blk := [(0, [(.iload_n 1, 1, 0, 0, 0)], some (.invokestatic 65, 3, 9, 1, 0)),
  (4, [], some (.ifCond .ne 5, 3, 0, 0, 0)),
  (7, [(.iconst 0, 1, 0, 0, 0)], some (.ireturn, 1, 1, 0, 0)),
  (9, [(.aload_n 0, 1, 0, 0, 0), (.iload_n 1, 1, 0, 0, 0), (.putfield 31, 3, 0, 6, 0), (.iconst 1, 1, 1, 0, 0)], some (.ireturn, 1, 1, 0, 0))]
def iX0_giveTurn : MI := (yX0_giveTurn, cX0_giveTurn, 2, (some .boolean), 0, 2, bX0_giveTurn)
abbrev jX0_squareFrom : Nat := 16
def bX0_squareFrom : List Blk := [(0, [(.aload_n 0, 1, 0, 0, 0), (.getfield 21, 3, 0, 3, 0), (.iload_n 1, 1, 0, 0, 0), (.iaload, 1, 0, 0, 0), (.bipush 6, 2, 6, 0, 0), (.idiv, 1, 0, 0, 0), (.aload_n 0, 1, 0, 0, 0), (.getfield 18, 3, 0, 2, 0), (.iload_n 1, 1, 0, 0, 0), (.iaload, 1, 0, 0, 0)], some (.ifCond .ne 7, 3, 0, 0, 0)),
  (18, [(.iload_n 2, 1, 0, 0, 0)], some (.goto 5, 3, 0, 0, 0)),
  (22, [(.iload_n 2, 1, 0, 0, 0), (.ineg, 1, 0, 0, 0)], none),
  (24, [(.iadd, 1, 0, 0, 0), (.istore 4, 2, 0, 0, 0), (.aload_n 0, 1, 0, 0, 0), (.getfield 21, 3, 0, 3, 0), (.iload_n 1, 1, 0, 0, 0), (.iaload, 1, 0, 0, 0), (.bipush 6, 2, 6, 0, 0), (.irem, 1, 0, 0, 0), (.iload_n 3, 1, 0, 0, 0), (.iadd, 1, 0, 0, 0), (.istore 5, 2, 0, 0, 0), (.iload 4, 2, 0, 0, 0)], some (.ifCond .lt 26, 3, 0, 0, 0)),
  (45, [(.iload 4, 2, 0, 0, 0), (.bipush 6, 2, 6, 0, 0)], some (.if_icmp .ge 19, 3, 0, 0, 0)),
  (52, [(.iload 5, 2, 0, 0, 0)], some (.ifCond .lt 14, 3, 0, 0, 0)),
  (57, [(.iload 5, 2, 0, 0, 0), (.bipush 6, 2, 6, 0, 0)], some (.if_icmp .ge 7, 3, 0, 0, 0)),
  (64, [(.iconst 1, 1, 1, 0, 0)], some (.goto 4, 3, 0, 0, 0)),
  (68, [(.iconst 0, 1, 0, 0, 0)], none),
  (69, [(.istore 6, 2, 0, 0, 0), (.iload 6, 2, 0, 0, 0)], some (.ifCond .eq 14, 3, 0, 0, 0)),
  (76, [(.iload 4, 2, 0, 0, 0), (.bipush 6, 2, 6, 0, 0), (.imul, 1, 0, 0, 0), (.iload 5, 2, 0, 0, 0), (.iadd, 1, 0, 0, 0)], some (.goto 5, 3, 0, 0, 0)),
  (87, [(.bipush (-4), 2, 4, 1, 0)], none),
  (89, [], some (.ireturn, 1, 0, 0, 0))]
def iX0_squareFrom : MI := (yX0_squareFrom, cX0_squareFrom, 7, (some .int), 0, 4, bX0_squareFrom)
abbrev jX0_knightIdea : Nat := 17
def bX0_knightIdea : List Blk := [(0, [(.aload_n 0, 1, 0, 0, 0), (.iload_n 1, 1, 0, 0, 0), (.iconst 2, 1, 2, 0, 0), (.iconst 1, 1, 1, 0, 0)], some (.invokevirtual 130, 3, 16, 4, 0)),
  (7, [(.istore_n 2, 1, 0, 0, 0), (.iload_n 2, 1, 0, 0, 0), (.bipush (-4), 2, 4, 1, 0)], some (.if_icmp .eq 19, 3, 0, 0, 0)),
  (14, [(.aload_n 0, 1, 0, 0, 0), (.iload_n 2, 1, 0, 0, 0), (.aload_n 0, 1, 0, 0, 0), (.getfield 18, 3, 0, 2, 0), (.iload_n 1, 1, 0, 0, 0), (.iaload, 1, 0, 0, 0)], some (.invokevirtual 136, 3, 6, 3, 0)),
  (25, [], some (.ifCond .ne 5, 3, 0, 0, 0)),
  (28, [(.iload_n 2, 1, 0, 0, 0)], some (.ireturn, 1, 0, 0, 0)),
  (30, [(.aload_n 0, 1, 0, 0, 0), (.iload_n 1, 1, 0, 0, 0), (.iconst 2, 1, 2, 0, 0), (.iconst (-1), 1, 1, 1, 0)], some (.invokevirtual 130, 3, 16, 4, 0)),
  (37, [(.istore_n 3, 1, 0, 0, 0), (.iload_n 3, 1, 0, 0, 0), (.bipush (-4), 2, 4, 1, 0)], some (.if_icmp .eq 21, 3, 0, 0, 0)),
  (44, [(.aload_n 0, 1, 0, 0, 0), (.iload_n 3, 1, 0, 0, 0), (.aload_n 0, 1, 0, 0, 0), (.getfield 18, 3, 0, 2, 0), (.iload_n 1, 1, 0, 0, 0), (.iaload, 1, 0, 0, 0)], some (.invokevirtual 136, 3, 6, 3, 0)),
  (55, [], some (.ifCond .ne 7, 3, 0, 0, 0)),
  (58, [(.iload_n 3, 1, 0, 0, 0)], some (.goto 5, 3, 0, 0, 0)),
  (62, [(.bipush (-4), 2, 4, 1, 0)], none),
  (64, [], some (.ireturn, 1, 0, 0, 0))]
def iX0_knightIdea : MI := (yX0_knightIdea, cX0_knightIdea, 4, (some .int), 0, 2, bX0_knightIdea)
abbrev jX0_slideIdea : Nat := 18
def bX0_slideIdea : List Blk := [(0, [(.bipush (-4), 2, 4, 1, 0), (.istore 4, 2, 0, 0, 0), (.iconst 1, 1, 1, 0, 0), (.istore 5, 2, 0, 0, 0)], none),
  (7, [(.iload 5, 2, 0, 0, 0), (.bipush 6, 2, 6, 0, 0)], some (.if_icmp .ge 60, 3, 0, 0, 0)),
  (14, [(.aload_n 0, 1, 0, 0, 0), (.iload_n 1, 1, 0, 0, 0), (.iload 5, 2, 0, 0, 0), (.iload_n 2, 1, 0, 0, 0), (.imul, 1, 0, 0, 0), (.iload 5, 2, 0, 0, 0), (.iload_n 3, 1, 0, 0, 0), (.imul, 1, 0, 0, 0)], some (.invokevirtual 130, 3, 16, 4, 0)),
  (27, [(.istore 6, 2, 0, 0, 0), (.aload_n 0, 1, 0, 0, 0), (.iload 6, 2, 0, 0, 0), (.iconst 1, 1, 1, 0, 0), (.aload_n 0, 1, 0, 0, 0), (.getfield 18, 3, 0, 2, 0), (.iload_n 1, 1, 0, 0, 0), (.iaload, 1, 0, 0, 0), (.isub, 1, 0, 0, 0)], some (.invokevirtual 136, 3, 6, 3, 0)),
  (43, [], some (.ifCond .eq 6, 3, 0, 0, 0)),
  (46, [(.iload 6, 2, 0, 0, 0)], some (.ireturn, 1, 0, 0, 0)),
  (49, [(.aload_n 0, 1, 0, 0, 0), (.iload 6, 2, 0, 0, 0)], some (.invokevirtual 68, 3, 5, 2, 0)),
  (55, [], some (.ifCond .ne 6, 3, 0, 0, 0)),
  (58, [(.iload 4, 2, 0, 0, 0)], some (.ireturn, 1, 0, 0, 0)),
  (61, [(.iload 6, 2, 0, 0, 0), (.istore 4, 2, 0, 0, 0), (.iinc 5 1, 3, 1, 0, 0)], some (.goto (-61), 3, 0, 0, 0)),
  (71, [(.iload 4, 2, 0, 0, 0)], some (.ireturn, 1, 0, 0, 0))]
def iX0_slideIdea : MI := (yX0_slideIdea, cX0_slideIdea, 7, (some .int), 0, 4, bX0_slideIdea)
abbrev jX0_bishopIdea : Nat := 19
def bX0_bishopIdea : List Blk := [(0, [(.aload_n 0, 1, 0, 0, 0), (.iload_n 1, 1, 0, 0, 0), (.iconst 1, 1, 1, 0, 0), (.iconst 1, 1, 1, 0, 0)], some (.invokevirtual 130, 3, 16, 4, 0)),
  (7, [(.istore_n 3, 1, 0, 0, 0), (.aload_n 0, 1, 0, 0, 0), (.getfield 15, 3, 0, 1, 0), (.iload_n 1, 1, 0, 0, 0), (.iaload, 1, 0, 0, 0), (.iconst 2, 1, 2, 0, 0), (.iadd, 1, 0, 0, 0), (.istore 4, 2, 0, 0, 0), (.iload 4, 2, 0, 0, 0)], some (.ifCond .le 14, 3, 0, 0, 0)),
  (23, [(.iload_n 2, 1, 0, 0, 0), (.iload 4, 2, 0, 0, 0), (.irem, 1, 0, 0, 0)], some (.ifCond .ne 7, 3, 0, 0, 0)),
  (30, [(.iconst 1, 1, 1, 0, 0)], some (.goto 4, 3, 0, 0, 0)),
  (34, [(.iconst 0, 1, 0, 0, 0)], none),
  (35, [(.istore 5, 2, 0, 0, 0), (.iload 5, 2, 0, 0, 0)], some (.ifCond .eq 27, 3, 0, 0, 0)),
  (42, [(.iload_n 3, 1, 0, 0, 0), (.bipush (-4), 2, 4, 1, 0)], some (.if_icmp .eq 21, 3, 0, 0, 0)),
  (48, [(.aload_n 0, 1, 0, 0, 0), (.iload_n 3, 1, 0, 0, 0), (.aload_n 0, 1, 0, 0, 0), (.getfield 18, 3, 0, 2, 0), (.iload_n 1, 1, 0, 0, 0), (.iaload, 1, 0, 0, 0)], some (.invokevirtual 136, 3, 6, 3, 0)),
  (59, [], some (.ifCond .ne 7, 3, 0, 0, 0)),
  (62, [(.iload_n 3, 1, 0, 0, 0)], some (.goto 5, 3, 0, 0, 0)),
  (66, [(.bipush (-4), 2, 4, 1, 0)], none),
  (68, [], some (.ireturn, 1, 0, 0, 0))]
def iX0_bishopIdea : MI := (yX0_bishopIdea, cX0_bishopIdea, 6, (some .int), 0, 3, bX0_bishopIdea)
abbrev jX3_far : Nat := 20
def bX3_far : List Blk := [(0, [(.iload_n 0, 1, 0, 0, 0), (.bipush 6, 2, 6, 0, 0), (.idiv, 1, 0, 0, 0), (.iload_n 1, 1, 0, 0, 0), (.bipush 6, 2, 6, 0, 0), (.idiv, 1, 0, 0, 0), (.isub, 1, 0, 0, 0), (.istore_n 2, 1, 0, 0, 0), (.iload_n 0, 1, 0, 0, 0), (.bipush 6, 2, 6, 0, 0), (.irem, 1, 0, 0, 0), (.iload_n 1, 1, 0, 0, 0), (.bipush 6, 2, 6, 0, 0), (.irem, 1, 0, 0, 0), (.isub, 1, 0, 0, 0), (.istore_n 3, 1, 0, 0, 0), (.iload_n 2, 1, 0, 0, 0)], some (.ifCond .ge 8, 3, 0, 0, 0)),
  (24, [(.iload_n 2, 1, 0, 0, 0), (.ineg, 1, 0, 0, 0)], some (.goto 4, 3, 0, 0, 0)),
  (29, [(.iload_n 2, 1, 0, 0, 0)], none),
  (30, [(.istore_n 2, 1, 0, 0, 0), (.iload_n 3, 1, 0, 0, 0)], some (.ifCond .ge 8, 3, 0, 0, 0)),
  (35, [(.iload_n 3, 1, 0, 0, 0), (.ineg, 1, 0, 0, 0)], some (.goto 4, 3, 0, 0, 0)),
  (40, [(.iload_n 3, 1, 0, 0, 0)], none),
  (41, [(.istore_n 3, 1, 0, 0, 0), (.iload_n 2, 1, 0, 0, 0), (.iload_n 3, 1, 0, 0, 0)], some (.if_icmp .le 7, 3, 0, 0, 0)),
  (47, [(.iload_n 2, 1, 0, 0, 0)], some (.goto 4, 3, 0, 0, 0)),
  (51, [(.iload_n 3, 1, 0, 0, 0)], none),
  (52, [], some (.ireturn, 1, 0, 0, 0))]
def iX3_far : MI := (yX3_far, cX3_far, 4, (some .int), 2, 2, bX3_far)
abbrev jX0_kingIdea : Nat := 21
def bX0_kingIdea : List Blk := [(0, [(.aload_n 0, 1, 0, 0, 0), (.iload_n 1, 1, 0, 0, 0), (.iconst (-1), 1, 1, 1, 0), (.iconst 0, 1, 0, 0, 0)], some (.invokevirtual 130, 3, 16, 4, 0)),
  (7, [(.istore_n 2, 1, 0, 0, 0), (.aload_n 0, 1, 0, 0, 0), (.iload_n 2, 1, 0, 0, 0)], some (.invokevirtual 68, 3, 5, 2, 0)),
  (13, [], some (.ifCond .ne 6, 3, 0, 0, 0)),
  (16, [(.bipush (-4), 2, 4, 1, 0)], some (.ireturn, 1, 0, 0, 0)),
  (19, [(.iconst 0, 1, 0, 0, 0), (.istore_n 3, 1, 0, 0, 0)], none),
  (21, [(.iload_n 3, 1, 0, 0, 0), (.aload_n 0, 1, 0, 0, 0), (.getfield 27, 3, 0, 5, 0)], some (.if_icmp .ge 46, 3, 0, 0, 0)),
  (29, [(.aload_n 0, 1, 0, 0, 0), (.iload_n 3, 1, 0, 0, 0), (.iconst 1, 1, 1, 0, 0), (.aload_n 0, 1, 0, 0, 0), (.getfield 18, 3, 0, 2, 0), (.iload_n 1, 1, 0, 0, 0), (.iaload, 1, 0, 0, 0), (.isub, 1, 0, 0, 0)], some (.invokevirtual 93, 3, 3, 3, 0)),
  (42, [], some (.ifCond .eq 24, 3, 0, 0, 0)),
  (45, [(.aload_n 0, 1, 0, 0, 0), (.getfield 21, 3, 0, 3, 0), (.iload_n 3, 1, 0, 0, 0), (.iaload, 1, 0, 0, 0), (.aload_n 0, 1, 0, 0, 0), (.getfield 21, 3, 0, 3, 0), (.iload_n 1, 1, 0, 0, 0), (.iaload, 1, 0, 0, 0)], some (.invokestatic 114, 3, 20, 2, 0)),
  (60, [(.iconst 1, 1, 1, 0, 0)], some (.if_icmp .gt 5, 3, 0, 0, 0)),
  (64, [(.iload_n 2, 1, 0, 0, 0)], some (.ireturn, 1, 0, 0, 0)),
  (66, [(.iinc 3 1, 3, 1, 0, 0)], some (.goto (-48), 3, 0, 0, 0)),
  (72, [(.bipush (-4), 2, 4, 1, 0)], some (.ireturn, 1, 0, 0, 0))]
def iX0_kingIdea : MI := (yX0_kingIdea, cX0_kingIdea, 4, (some .int), 0, 2, bX0_kingIdea)
abbrev jX0_pawnIdea : Nat := 22
def bX0_pawnIdea : List Blk := [(0, [(.aload_n 0, 1, 0, 0, 0), (.iload_n 1, 1, 0, 0, 0), (.iconst 1, 1, 1, 0, 0), (.iconst 0, 1, 0, 0, 0)], some (.invokevirtual 130, 3, 16, 4, 0)),
  (7, [(.istore_n 2, 1, 0, 0, 0), (.aload_n 0, 1, 0, 0, 0), (.iload_n 2, 1, 0, 0, 0)], some (.invokevirtual 68, 3, 5, 2, 0)),
  (13, [], some (.ifCond .eq 5, 3, 0, 0, 0)),
  (16, [(.iload_n 2, 1, 0, 0, 0)], some (.ireturn, 1, 0, 0, 0)),
  (18, [(.aload_n 0, 1, 0, 0, 0), (.iload_n 1, 1, 0, 0, 0), (.iconst 1, 1, 1, 0, 0), (.iconst 1, 1, 1, 0, 0)], some (.invokevirtual 130, 3, 16, 4, 0)),
  (25, [(.istore_n 3, 1, 0, 0, 0), (.aload_n 0, 1, 0, 0, 0), (.iload_n 3, 1, 0, 0, 0), (.iconst 1, 1, 1, 0, 0), (.aload_n 0, 1, 0, 0, 0), (.getfield 18, 3, 0, 2, 0), (.iload_n 1, 1, 0, 0, 0), (.iaload, 1, 0, 0, 0), (.isub, 1, 0, 0, 0)], some (.invokevirtual 136, 3, 6, 3, 0)),
  (39, [], some (.ifCond .eq 7, 3, 0, 0, 0)),
  (42, [(.iload_n 3, 1, 0, 0, 0)], some (.goto 5, 3, 0, 0, 0)),
  (46, [(.bipush (-4), 2, 4, 1, 0)], none),
  (48, [], some (.ireturn, 1, 0, 0, 0))]
def iX0_pawnIdea : MI := (yX0_pawnIdea, cX0_pawnIdea, 4, (some .int), 0, 2, bX0_pawnIdea)
abbrev jX0_ideaOf : Nat := 23
def bX0_ideaOf : List Blk := [(0, [(.aload_n 0, 1, 0, 0, 0), (.iload_n 1, 1, 0, 0, 0)], some (.invokevirtual 56, 3, 2, 2, 0)),
  (5, [], some (.ifCond .ne 6, 3, 0, 0, 0)),
  (8, [(.bipush (-4), 2, 4, 1, 0)], some (.ireturn, 1, 0, 0, 0)),
  (11, [(.aload_n 0, 1, 0, 0, 0), (.getfield 9, 3, 0, 0, 0), (.iload_n 1, 1, 0, 0, 0), (.iaload, 1, 0, 0, 0)], some (.tableswitch 127 0 7 #[127, 47, 53, 61, 68, 94, 53, 100], 47, 0, 0, 0)),
  (64, [(.aload_n 0, 1, 0, 0, 0), (.iload_n 1, 1, 0, 0, 0)], some (.invokevirtual 117, 3, 17, 2, 0)),
  (69, [], some (.ireturn, 1, 0, 0, 0)),
  (70, [(.aload_n 0, 1, 0, 0, 0), (.iload_n 1, 1, 0, 0, 0), (.iconst 1, 1, 1, 0, 0), (.iconst 0, 1, 0, 0, 0)], some (.invokevirtual 120, 3, 18, 4, 0)),
  (77, [], some (.ireturn, 1, 0, 0, 0)),
  (78, [(.aload_n 0, 1, 0, 0, 0), (.iload_n 1, 1, 0, 0, 0), (.iload_n 2, 1, 0, 0, 0)], some (.invokevirtual 124, 3, 19, 3, 0)),
  (84, [], some (.ireturn, 1, 0, 0, 0)),
  (85, [(.aload_n 0, 1, 0, 0, 0), (.iload_n 1, 1, 0, 0, 0), (.iconst 1, 1, 1, 0, 0), (.iconst 0, 1, 0, 0, 0)], some (.invokevirtual 120, 3, 18, 4, 0)),
  (92, [(.istore_n 3, 1, 0, 0, 0), (.iload_n 3, 1, 0, 0, 0), (.bipush (-4), 2, 4, 1, 0)], some (.if_icmp .eq 7, 3, 0, 0, 0)),
  (99, [(.iload_n 3, 1, 0, 0, 0)], some (.goto 10, 3, 0, 0, 0)),
  (103, [(.aload_n 0, 1, 0, 0, 0), (.iload_n 1, 1, 0, 0, 0), (.iconst 0, 1, 0, 0, 0), (.iconst 1, 1, 1, 0, 0)], some (.invokevirtual 120, 3, 18, 4, 0)),
  (110, [], some (.ireturn, 1, 0, 0, 0)),
  (111, [(.aload_n 0, 1, 0, 0, 0), (.iload_n 1, 1, 0, 0, 0)], some (.invokevirtual 127, 3, 21, 2, 0)),
  (116, [], some (.ireturn, 1, 0, 0, 0)),
  (117, [(.aload_n 0, 1, 0, 0, 0), (.iload_n 1, 1, 0, 0, 0), (.iconst 0, 1, 0, 0, 0), (.iconst (-1), 1, 1, 1, 0)], some (.invokevirtual 130, 3, 16, 4, 0)),
  (124, [(.istore_n 3, 1, 0, 0, 0), (.aload_n 0, 1, 0, 0, 0), (.iload_n 3, 1, 0, 0, 0)], some (.invokevirtual 68, 3, 5, 2, 0)),
  (130, [], some (.ifCond .eq 7, 3, 0, 0, 0)),
  (133, [(.iload_n 3, 1, 0, 0, 0)], some (.goto 9, 3, 0, 0, 0)),
  (137, [(.aload_n 0, 1, 0, 0, 0), (.iload_n 1, 1, 0, 0, 0), (.iload_n 2, 1, 0, 0, 0)], some (.invokevirtual 124, 3, 19, 3, 0)),
  (143, [], some (.ireturn, 1, 0, 0, 0)),
  (144, [(.aload_n 0, 1, 0, 0, 0), (.iload_n 1, 1, 0, 0, 0)], some (.invokevirtual 133, 3, 22, 2, 0)),
  (149, [], some (.ireturn, 1, 0, 0, 0))]
def iX0_ideaOf : MI := (yX0_ideaOf, cX0_ideaOf, 4, (some .int), 0, 3, bX0_ideaOf)
abbrev jX1_earsWith : Nat := 24
def bX1_earsWith : List Blk := [(0, [(.iload_n 0, 1, 0, 0, 0)], some (.tableswitch 61 0 7 #[61, 47, 49, 51, 53, 57, 59, 51], 47, 0, 0, 0)),
  (48, [(.iconst 3, 1, 3, 0, 0)], some (.ireturn, 1, 0, 0, 0)),
  (50, [(.iload_n 1, 1, 0, 0, 0)], some (.ireturn, 1, 0, 0, 0)),
  (52, [(.iconst 4, 1, 4, 0, 0)], some (.ireturn, 1, 0, 0, 0)),
  (54, [(.iload_n 1, 1, 0, 0, 0), (.iconst 3, 1, 3, 0, 0), (.iadd, 1, 0, 0, 0)], some (.ireturn, 1, 0, 0, 0)),
  (58, [(.iconst 5, 1, 5, 0, 0)], some (.ireturn, 1, 0, 0, 0)),
  (60, [(.iconst 0, 1, 0, 0, 0)], some (.ireturn, 1, 0, 0, 0)),
  (62, [(.iconst 2, 1, 2, 0, 0)], some (.ireturn, 1, 0, 0, 0))]
def iX1_earsWith : MI := (yX1_earsWith, cX1_earsWith, 2, (some .int), 4, 2, bX1_earsWith)
abbrev jX0_hearersOf : Nat := 25
def bX0_hearersOf : List Blk := [(0, [(.aload_n 0, 1, 0, 0, 0), (.iload_n 1, 1, 0, 0, 0)], some (.invokevirtual 56, 3, 2, 2, 0)),
  (5, [], some (.ifCond .ne 5, 3, 0, 0, 0)),
  (8, [(.iconst 0, 1, 0, 0, 0)], some (.ireturn, 1, 0, 0, 0)),
  (10, [(.iconst 1, 1, 1, 0, 0), (.iload_n 1, 1, 0, 0, 0), (.ishl, 1, 0, 0, 0), (.istore_n 3, 1, 0, 0, 0), (.iconst 0, 1, 0, 0, 0), (.istore 4, 2, 0, 0, 0)], none),
  (17, [(.iload 4, 2, 0, 0, 0), (.aload_n 0, 1, 0, 0, 0), (.getfield 27, 3, 0, 5, 0)], some (.if_icmp .ge 79, 3, 0, 0, 0)),
  (26, [(.aload_n 0, 1, 0, 0, 0), (.iload 4, 2, 0, 0, 0), (.aload_n 0, 1, 0, 0, 0), (.getfield 18, 3, 0, 2, 0), (.iload_n 1, 1, 0, 0, 0), (.iaload, 1, 0, 0, 0)], some (.invokevirtual 93, 3, 3, 3, 0)),
  (38, [], some (.ifCond .eq 58, 3, 0, 0, 0)),
  (41, [(.iload_n 2, 1, 0, 0, 0)], some (.ifCond .eq 7, 3, 0, 0, 0)),
  (45, [(.iconst 1, 1, 1, 0, 0)], some (.goto 20, 3, 0, 0, 0)),
  (49, [(.aload_n 0, 1, 0, 0, 0), (.getfield 9, 3, 0, 0, 0), (.iload 4, 2, 0, 0, 0), (.iaload, 1, 0, 0, 0), (.aload_n 0, 1, 0, 0, 0), (.getfield 15, 3, 0, 1, 0), (.iload 4, 2, 0, 0, 0), (.iaload, 1, 0, 0, 0)], some (.invokestatic 109, 3, 24, 2, 0)),
  (66, [(.istore 5, 2, 0, 0, 0), (.aload_n 0, 1, 0, 0, 0), (.getfield 21, 3, 0, 3, 0), (.iload 4, 2, 0, 0, 0), (.iaload, 1, 0, 0, 0), (.aload_n 0, 1, 0, 0, 0), (.getfield 21, 3, 0, 3, 0), (.iload_n 1, 1, 0, 0, 0), (.iaload, 1, 0, 0, 0)], some (.invokestatic 114, 3, 20, 2, 0)),
  (84, [(.iload 5, 2, 0, 0, 0)], some (.if_icmp .gt 10, 3, 0, 0, 0)),
  (89, [(.iload_n 3, 1, 0, 0, 0), (.iconst 1, 1, 1, 0, 0), (.iload 4, 2, 0, 0, 0), (.ishl, 1, 0, 0, 0), (.ior, 1, 0, 0, 0), (.istore_n 3, 1, 0, 0, 0)], none),
  (96, [(.iinc 4 1, 3, 1, 0, 0)], some (.goto (-82), 3, 0, 0, 0)),
  (102, [(.iload_n 3, 1, 0, 0, 0)], some (.ireturn, 1, 0, 0, 0))]
def iX0_hearersOf : MI := (yX0_hearersOf, cX0_hearersOf, 6, (some .int), 0, 3, bX0_hearersOf)
abbrev jJ6_bitCount_0f7a4 : Nat := 26
def bJ6_bitCount_0f7a4 : List Blk := [(0, [(.iload_n 0, 1, 0, 0, 0), (.iload_n 0, 1, 0, 0, 0), (.iconst 1, 1, 1, 0, 0), (.iushr, 1, 0, 0, 0), (.ldc_w 265, 3, 1431655765, 0, 0), (.iand, 1, 0, 0, 0), (.isub, 1, 0, 0, 0), (.istore_n 0, 1, 0, 0, 0), (.iload_n 0, 1, 0, 0, 0), (.ldc_w 266, 3, 858993459, 0, 0), (.iand, 1, 0, 0, 0), (.iload_n 0, 1, 0, 0, 0), (.iconst 2, 1, 2, 0, 0), (.iushr, 1, 0, 0, 0), (.ldc_w 266, 3, 858993459, 0, 0), (.iand, 1, 0, 0, 0), (.iadd, 1, 0, 0, 0), (.istore_n 0, 1, 0, 0, 0), (.iload_n 0, 1, 0, 0, 0), (.iload_n 0, 1, 0, 0, 0), (.iconst 4, 1, 4, 0, 0), (.iushr, 1, 0, 0, 0), (.iadd, 1, 0, 0, 0), (.ldc_w 267, 3, 252645135, 0, 0), (.iand, 1, 0, 0, 0), (.istore_n 0, 1, 0, 0, 0), (.iload_n 0, 1, 0, 0, 0), (.iload_n 0, 1, 0, 0, 0), (.bipush 8, 2, 8, 0, 0), (.iushr, 1, 0, 0, 0), (.iadd, 1, 0, 0, 0), (.istore_n 0, 1, 0, 0, 0), (.iload_n 0, 1, 0, 0, 0), (.iload_n 0, 1, 0, 0, 0), (.bipush 16, 2, 16, 0, 0), (.iushr, 1, 0, 0, 0), (.iadd, 1, 0, 0, 0), (.istore_n 0, 1, 0, 0, 0), (.iload_n 0, 1, 0, 0, 0), (.bipush 63, 2, 63, 0, 0), (.iand, 1, 0, 0, 0)], some (.ireturn, 1, 0, 0, 0))]
def iJ6_bitCount_0f7a4 : MI := (yJ6_bitCount_0f7a4, cJ6_bitCount_0f7a4, 1, (some .int), 5, 1, bJ6_bitCount_0f7a4)
abbrev jX0_howManyOf : Nat := 27
def bX0_howManyOf : List Blk := [(0, [(.iconst 0, 1, 0, 0, 0), (.istore_n 2, 1, 0, 0, 0), (.iconst 0, 1, 0, 0, 0), (.istore_n 3, 1, 0, 0, 0)], none),
  (4, [(.iload_n 3, 1, 0, 0, 0), (.aload_n 0, 1, 0, 0, 0), (.getfield 27, 3, 0, 5, 0)], some (.if_icmp .ge 26, 3, 0, 0, 0)),
  (12, [(.iload_n 2, 1, 0, 0, 0), (.aload_n 0, 1, 0, 0, 0), (.iload_n 3, 1, 0, 0, 0), (.iload_n 1, 1, 0, 0, 0)], some (.invokevirtual 93, 3, 3, 3, 0)),
  (19, [], some (.ifCond .eq 7, 3, 0, 0, 0)),
  (22, [(.iconst 1, 1, 1, 0, 0)], some (.goto 4, 3, 0, 0, 0)),
  (26, [(.iconst 0, 1, 0, 0, 0)], none),
  (27, [(.iadd, 1, 0, 0, 0), (.istore_n 2, 1, 0, 0, 0), (.iinc 3 1, 3, 1, 0, 0)], some (.goto (-28), 3, 0, 0, 0)),
  (35, [(.iload_n 2, 1, 0, 0, 0)], some (.ireturn, 1, 0, 0, 0))]
def iX0_howManyOf : MI := (yX0_howManyOf, cX0_howManyOf, 4, (some .int), 0, 2, bX0_howManyOf)
abbrev jX0_goerOn : Nat := 28
def bX0_goerOn : List Blk := [(0, [(.bipush (-4), 2, 4, 1, 0), (.istore 4, 2, 0, 0, 0), (.iconst 0, 1, 0, 0, 0), (.istore 5, 2, 0, 0, 0), (.iconst 0, 1, 0, 0, 0), (.istore 6, 2, 0, 0, 0)], none),
  (10, [(.iload 6, 2, 0, 0, 0), (.aload_n 0, 1, 0, 0, 0), (.getfield 27, 3, 0, 5, 0)], some (.if_icmp .ge 82, 3, 0, 0, 0)),
  (19, [(.aload_n 0, 1, 0, 0, 0), (.iload 6, 2, 0, 0, 0), (.aload_n 0, 1, 0, 0, 0), (.getfield 31, 3, 0, 6, 0)], some (.invokevirtual 93, 3, 3, 3, 0)),
  (29, [], some (.ifCond .eq 16, 3, 0, 0, 0)),
  (32, [(.iload_n 2, 1, 0, 0, 0), (.iload 6, 2, 0, 0, 0), (.ishr, 1, 0, 0, 0), (.iconst 1, 1, 1, 0, 0), (.iand, 1, 0, 0, 0)], some (.ifCond .ne 7, 3, 0, 0, 0)),
  (41, [(.iconst 1, 1, 1, 0, 0)], some (.goto 4, 3, 0, 0, 0)),
  (45, [(.iconst 0, 1, 0, 0, 0)], none),
  (46, [(.istore 7, 2, 0, 0, 0), (.iload 7, 2, 0, 0, 0)], some (.ifCond .eq 42, 3, 0, 0, 0)),
  (53, [(.aload_n 0, 1, 0, 0, 0), (.iload 6, 2, 0, 0, 0), (.iload_n 1, 1, 0, 0, 0)], some (.invokevirtual 85, 3, 23, 3, 0)),
  (60, [(.bipush (-4), 2, 4, 1, 0)], some (.if_icmp .eq 30, 3, 0, 0, 0)),
  (65, [(.aload_n 0, 1, 0, 0, 0), (.iload 6, 2, 0, 0, 0), (.iload_n 3, 1, 0, 0, 0)], some (.invokevirtual 96, 3, 25, 3, 0)),
  (72, [], some (.invokestatic 100, 3, 26, 1, 0)),
  (75, [(.istore 8, 2, 0, 0, 0), (.iload 8, 2, 0, 0, 0), (.iload 5, 2, 0, 0, 0)], some (.if_icmp .le 11, 3, 0, 0, 0)),
  (84, [(.iload 6, 2, 0, 0, 0), (.istore 4, 2, 0, 0, 0), (.iload 8, 2, 0, 0, 0), (.istore 5, 2, 0, 0, 0)], none),
  (92, [(.iinc 6 1, 3, 1, 0, 0)], some (.goto (-85), 3, 0, 0, 0)),
  (98, [(.iconst 2, 1, 2, 0, 0), (.iload 5, 2, 0, 0, 0), (.imul, 1, 0, 0, 0), (.aload_n 0, 1, 0, 0, 0), (.aload_n 0, 1, 0, 0, 0), (.getfield 31, 3, 0, 6, 0)], some (.invokevirtual 106, 3, 27, 2, 0)),
  (110, [], some (.if_icmp .le 8, 3, 0, 0, 0)),
  (113, [(.iload 4, 2, 0, 0, 0)], some (.goto 5, 3, 0, 0, 0)),
  (118, [(.bipush (-4), 2, 4, 1, 0)], none),
  (120, [], some (.ireturn, 1, 0, 0, 0))]
def iX0_goerOn : MI := (yX0_goerOn, cX0_goerOn, 9, (some .int), 0, 4, bX0_goerOn)
abbrev jX0_passDay : Nat := 29
def bX0_passDay : List Blk := [(0, [(.aload_n 0, 1, 0, 0, 0), (.dup, 1, 0, 0, 0), (.getfield 37, 3, 0, 8, 0), (.iconst 1, 1, 1, 0, 0), (.iadd, 1, 0, 0, 0), (.putfield 37, 3, 0, 8, 0), (.aload_n 0, 1, 0, 0, 0), (.aload_n 0, 1, 0, 0, 0), (.getfield 37, 3, 0, 8, 0), (.iload_n 1, 1, 0, 0, 0), (.iload_n 2, 1, 0, 0, 0)], some (.invokevirtual 81, 3, 28, 4, 0)),
  (20, [(.istore_n 3, 1, 0, 0, 0), (.iload_n 3, 1, 0, 0, 0), (.bipush (-4), 2, 4, 1, 0)], some (.if_icmp .ne 32, 3, 0, 0, 0)),
  (27, [(.aload_n 0, 1, 0, 0, 0), (.aload_n 0, 1, 0, 0, 0), (.getfield 34, 3, 0, 7, 0), (.sipush 9999, 3, 9999, 0, 0)], some (.if_icmp .ge 12, 3, 0, 0, 0)),
  (38, [(.aload_n 0, 1, 0, 0, 0), (.getfield 34, 3, 0, 7, 0), (.iconst 1, 1, 1, 0, 0), (.iadd, 1, 0, 0, 0)], some (.goto 6, 3, 0, 0, 0)),
  (47, [(.sipush 9999, 3, 9999, 0, 0)], none),
  (50, [(.putfield 34, 3, 0, 7, 0)], some (.goto 42, 3, 0, 0, 0)),
  (56, [(.aload_n 0, 1, 0, 0, 0), (.iload_n 3, 1, 0, 0, 0), (.aload_n 0, 1, 0, 0, 0), (.getfield 37, 3, 0, 8, 0)], some (.invokevirtual 85, 3, 23, 3, 0)),
  (65, [(.istore 4, 2, 0, 0, 0), (.iload 4, 2, 0, 0, 0)], some (.invokestatic 71, 3, 11, 1, 0)),
  (72, [], some (.ifCond .eq 15, 3, 0, 0, 0)),
  (75, [(.aload_n 0, 1, 0, 0, 0), (.aload_n 0, 1, 0, 0, 0), (.getfield 24, 3, 0, 4, 0), (.iload 4, 2, 0, 0, 0), (.iaload, 1, 0, 0, 0)], some (.invokevirtual 74, 3, 12, 2, 0)),
  (86, [(.pop, 1, 0, 0, 0)], none),
  (87, [(.aload_n 0, 1, 0, 0, 0), (.iload_n 3, 1, 0, 0, 0), (.iload 4, 2, 0, 0, 0)], some (.invokevirtual 89, 3, 13, 3, 0)),
  (94, [(.pop, 1, 0, 0, 0)], none),
  (95, [(.aload_n 0, 1, 0, 0, 0), (.iconst 1, 1, 1, 0, 0), (.aload_n 0, 1, 0, 0, 0), (.getfield 31, 3, 0, 6, 0), (.isub, 1, 0, 0, 0), (.putfield 31, 3, 0, 6, 0), (.iload_n 3, 1, 0, 0, 0), (.bipush (-4), 2, 4, 1, 0)], some (.if_icmp .eq 7, 3, 0, 0, 0)),
  (111, [(.iconst 1, 1, 1, 0, 0)], some (.goto 4, 3, 0, 0, 0)),
  (115, [(.iconst 0, 1, 0, 0, 0)], none),
  (116, [], some (.ireturn, 1, 1, 0, 0))]
def iX0_passDay : MI := (yX0_passDay, cX0_passDay, 5, (some .boolean), 0, 3, bX0_passDay)
abbrev jX0_passWithinLast : Nat := 30
def bX0_passWithinLast : List Blk := [(0, [(.iload_n 1, 1, 0, 0, 0), (.iconst 1, 1, 1, 0, 0)], some (.if_icmp .lt 21, 3, 0, 0, 0)),
  (5, [(.iload_n 1, 1, 0, 0, 0), (.bipush 60, 2, 60, 0, 0)], some (.if_icmp .gt 15, 3, 0, 0, 0)),
  (11, [(.aload_n 0, 1, 0, 0, 0), (.getfield 37, 3, 0, 8, 0), (.iload_n 1, 1, 0, 0, 0), (.iadd, 1, 0, 0, 0), (.sipush 999, 3, 999, 0, 0)], some (.if_icmp .le 5, 3, 0, 0, 0)),
  (23, [(.iconst 0, 1, 0, 0, 0)], some (.ireturn, 1, 1, 0, 0)),
  (25, [(.iconst 0, 1, 0, 0, 0), (.istore_n 2, 1, 0, 0, 0)], none),
  (27, [(.iload_n 2, 1, 0, 0, 0), (.iload_n 1, 1, 0, 0, 0)], some (.if_icmp .ge 16, 3, 0, 0, 0)),
  (32, [(.aload_n 0, 1, 0, 0, 0), (.iconst 0, 1, 0, 0, 0), (.iconst 0, 1, 0, 0, 0)], some (.invokevirtual 77, 3, 29, 3, 0)),
  (38, [(.pop, 1, 0, 0, 0), (.iinc 2 1, 3, 1, 0, 0)], some (.goto (-15), 3, 0, 0, 0)),
  (45, [(.iconst 1, 1, 1, 0, 0)], some (.ireturn, 1, 1, 0, 0))]
def iX0_passWithinLast : MI := (yX0_passWithinLast, cX0_passWithinLast, 3, (some .boolean), 0, 2, bX0_passWithinLast)
abbrev jX0_passDays : Nat := 31
def bX0_passDays : List Blk := [(0, [(.iconst 0, 1, 0, 0, 0), (.istore_n 2, 1, 0, 0, 0)], none),
  (2, [(.iload_n 2, 1, 0, 0, 0), (.iload_n 1, 1, 0, 0, 0)], some (.if_icmp .ge 16, 3, 0, 0, 0)),
  (7, [(.aload_n 0, 1, 0, 0, 0), (.iconst 0, 1, 0, 0, 0), (.iconst 0, 1, 0, 0, 0)], some (.invokevirtual 77, 3, 29, 3, 0)),
  (13, [(.pop, 1, 0, 0, 0), (.iinc 2 1, 3, 1, 0, 0)], some (.goto (-15), 3, 0, 0, 0)),
  (20, [], some (.return_, 1, 0, 0, 0))]
def iX0_passDays : MI := (yX0_passDays, cX0_passDays, 3, none, 0, 2, bX0_passDays)
abbrev jX0_howManyThere : Nat := 32
def bX0_howManyThere : List Blk := [(0, [(.aload_n 0, 1, 0, 0, 0), (.iconst 0, 1, 0, 0, 0)], some (.invokevirtual 106, 3, 27, 2, 0)),
  (5, [(.aload_n 0, 1, 0, 0, 0), (.iconst 1, 1, 1, 0, 0)], some (.invokevirtual 106, 3, 27, 2, 0)),
  (10, [(.iadd, 1, 0, 0, 0)], some (.ireturn, 1, 0, 0, 0))]
def iX0_howManyThere : MI := (yX0_howManyThere, cX0_howManyThere, 1, (some .int), 0, 1, bX0_howManyThere)
abbrev jX0_bitsThere : Nat := 33
def bX0_bitsThere : List Blk := [(0, [(.iconst 0, 1, 0, 0, 0), (.istore_n 1, 1, 0, 0, 0), (.iconst 0, 1, 0, 0, 0), (.istore_n 2, 1, 0, 0, 0)], none),
  (4, [(.iload_n 2, 1, 0, 0, 0), (.aload_n 0, 1, 0, 0, 0), (.getfield 27, 3, 0, 5, 0)], some (.if_icmp .ge 27, 3, 0, 0, 0)),
  (12, [(.iload_n 1, 1, 0, 0, 0), (.aload_n 0, 1, 0, 0, 0), (.iload_n 2, 1, 0, 0, 0)], some (.invokevirtual 56, 3, 2, 2, 0)),
  (18, [], some (.ifCond .eq 9, 3, 0, 0, 0)),
  (21, [(.iconst 1, 1, 1, 0, 0), (.iload_n 2, 1, 0, 0, 0), (.ishl, 1, 0, 0, 0)], some (.goto 4, 3, 0, 0, 0)),
  (27, [(.iconst 0, 1, 0, 0, 0)], none),
  (28, [(.ior, 1, 0, 0, 0), (.istore_n 1, 1, 0, 0, 0), (.iinc 2 1, 3, 1, 0, 0)], some (.goto (-29), 3, 0, 0, 0)),
  (36, [(.iload_n 1, 1, 0, 0, 0)], some (.ireturn, 1, 0, 0, 0))]
def iX0_bitsThere : MI := (yX0_bitsThere, cX0_bitsThere, 3, (some .int), 0, 1, bX0_bitsThere)
abbrev jX1_worthWith : Nat := 34
def bX1_worthWith : List Blk := [(0, [(.iload_n 0, 1, 0, 0, 0)], some (.tableswitch 65 0 7 #[65, 47, 49, 51, 57, 60, 63, 51], 47, 0, 0, 0)),
  (48, [(.iconst 3, 1, 3, 0, 0)], some (.ireturn, 1, 0, 0, 0)),
  (50, [(.iconst 5, 1, 5, 0, 0)], some (.ireturn, 1, 0, 0, 0)),
  (52, [(.iconst 1, 1, 1, 0, 0), (.iload_n 1, 1, 0, 0, 0), (.iconst 3, 1, 3, 0, 0), (.idiv, 1, 0, 0, 0), (.iadd, 1, 0, 0, 0)], some (.ireturn, 1, 0, 0, 0)),
  (58, [(.bipush 9, 2, 9, 0, 0)], some (.ireturn, 1, 0, 0, 0)),
  (61, [(.bipush 9, 2, 9, 0, 0)], some (.ireturn, 1, 0, 0, 0)),
  (64, [(.iconst 4, 1, 4, 0, 0)], some (.ireturn, 1, 0, 0, 0)),
  (66, [(.iconst 1, 1, 1, 0, 0)], some (.ireturn, 1, 0, 0, 0))]
def iX1_worthWith : MI := (yX1_worthWith, cX1_worthWith, 2, (some .int), 4, 2, bX1_worthWith)
abbrev jX0_worthOf : Nat := 35
def bX0_worthOf : List Blk := [(0, [(.iconst 0, 1, 0, 0, 0), (.istore_n 2, 1, 0, 0, 0), (.iconst 0, 1, 0, 0, 0), (.istore_n 3, 1, 0, 0, 0)], none),
  (4, [(.iload_n 3, 1, 0, 0, 0), (.aload_n 0, 1, 0, 0, 0), (.getfield 27, 3, 0, 5, 0)], some (.if_icmp .ge 40, 3, 0, 0, 0)),
  (12, [(.iload_n 2, 1, 0, 0, 0), (.aload_n 0, 1, 0, 0, 0), (.iload_n 3, 1, 0, 0, 0), (.iload_n 1, 1, 0, 0, 0)], some (.invokevirtual 93, 3, 3, 3, 0)),
  (19, [], some (.ifCond .eq 21, 3, 0, 0, 0)),
  (22, [(.aload_n 0, 1, 0, 0, 0), (.getfield 9, 3, 0, 0, 0), (.iload_n 3, 1, 0, 0, 0), (.iaload, 1, 0, 0, 0), (.aload_n 0, 1, 0, 0, 0), (.getfield 15, 3, 0, 1, 0), (.iload_n 3, 1, 0, 0, 0), (.iaload, 1, 0, 0, 0)], some (.invokestatic 139, 3, 34, 2, 0)),
  (37, [], some (.goto 4, 3, 0, 0, 0)),
  (40, [(.iconst 0, 1, 0, 0, 0)], none),
  (41, [(.iadd, 1, 0, 0, 0), (.istore_n 2, 1, 0, 0, 0), (.iinc 3 1, 3, 1, 0, 0)], some (.goto (-42), 3, 0, 0, 0)),
  (49, [(.iload_n 2, 1, 0, 0, 0)], some (.ireturn, 1, 0, 0, 0))]
def iX0_worthOf : MI := (yX0_worthOf, cX0_worthOf, 4, (some .int), 0, 2, bX0_worthOf)
abbrev jX0_worthWithout : Nat := 36
def bX0_worthWithout : List Blk := [(0, [(.aload_n 0, 1, 0, 0, 0), (.iload_n 1, 1, 0, 0, 0)], some (.invokevirtual 52, 3, 1, 2, 0)),
  (5, [], some (.ifCond .ne 5, 3, 0, 0, 0)),
  (8, [(.iconst 0, 1, 0, 0, 0)], some (.ireturn, 1, 0, 0, 0)),
  (10, [(.aload_n 0, 1, 0, 0, 0), (.aload_n 0, 1, 0, 0, 0), (.getfield 18, 3, 0, 2, 0), (.iload_n 1, 1, 0, 0, 0), (.iaload, 1, 0, 0, 0)], some (.invokevirtual 142, 3, 35, 2, 0)),
  (20, [(.aload_n 0, 1, 0, 0, 0), (.iload_n 1, 1, 0, 0, 0)], some (.invokevirtual 56, 3, 2, 2, 0)),
  (25, [], some (.ifCond .eq 21, 3, 0, 0, 0)),
  (28, [(.aload_n 0, 1, 0, 0, 0), (.getfield 9, 3, 0, 0, 0), (.iload_n 1, 1, 0, 0, 0), (.iaload, 1, 0, 0, 0), (.aload_n 0, 1, 0, 0, 0), (.getfield 15, 3, 0, 1, 0), (.iload_n 1, 1, 0, 0, 0), (.iaload, 1, 0, 0, 0)], some (.invokestatic 139, 3, 34, 2, 0)),
  (43, [], some (.goto 4, 3, 0, 0, 0)),
  (46, [(.iconst 0, 1, 0, 0, 0)], none),
  (47, [(.isub, 1, 0, 0, 0)], some (.ireturn, 1, 0, 0, 0))]
def iX0_worthWithout : MI := (yX0_worthWithout, cX0_worthWithout, 2, (some .int), 0, 2, bX0_worthWithout)
abbrev jX0_groupAround : Nat := 37
def bX0_groupAround : List Blk := [(0, [(.iconst 1, 1, 1, 0, 0), (.iload_n 1, 1, 0, 0, 0), (.ishl, 1, 0, 0, 0), (.istore_n 2, 1, 0, 0, 0), (.iconst 1, 1, 1, 0, 0), (.istore_n 3, 1, 0, 0, 0)], none),
  (6, [(.iload_n 3, 1, 0, 0, 0), (.aload_n 0, 1, 0, 0, 0), (.getfield 27, 3, 0, 5, 0)], some (.if_icmp .ge 86, 3, 0, 0, 0)),
  (14, [(.iconst 0, 1, 0, 0, 0), (.istore 4, 2, 0, 0, 0)], none),
  (17, [(.iload 4, 2, 0, 0, 0), (.aload_n 0, 1, 0, 0, 0), (.getfield 27, 3, 0, 5, 0)], some (.if_icmp .ge 68, 3, 0, 0, 0)),
  (26, [(.aload_n 0, 1, 0, 0, 0), (.iload 4, 2, 0, 0, 0), (.aload_n 0, 1, 0, 0, 0), (.getfield 18, 3, 0, 2, 0), (.iload_n 1, 1, 0, 0, 0), (.iaload, 1, 0, 0, 0)], some (.invokevirtual 93, 3, 3, 3, 0)),
  (38, [], some (.ifCond .eq 13, 3, 0, 0, 0)),
  (41, [(.aload_n 0, 1, 0, 0, 0), (.iload 4, 2, 0, 0, 0), (.iconst 0, 1, 0, 0, 0)], some (.invokevirtual 96, 3, 25, 3, 0)),
  (48, [], some (.goto 4, 3, 0, 0, 0)),
  (51, [(.iconst 0, 1, 0, 0, 0)], none),
  (52, [(.istore 5, 2, 0, 0, 0), (.iload_n 2, 1, 0, 0, 0), (.iload 4, 2, 0, 0, 0), (.ishr, 1, 0, 0, 0), (.iconst 1, 1, 1, 0, 0), (.iand, 1, 0, 0, 0)], some (.ifCond .eq 11, 3, 0, 0, 0)),
  (63, [(.iload_n 2, 1, 0, 0, 0), (.iload 5, 2, 0, 0, 0), (.ior, 1, 0, 0, 0), (.istore_n 2, 1, 0, 0, 0)], some (.goto 17, 3, 0, 0, 0)),
  (71, [(.iload_n 2, 1, 0, 0, 0), (.iload 5, 2, 0, 0, 0), (.iand, 1, 0, 0, 0)], some (.ifCond .eq 10, 3, 0, 0, 0)),
  (78, [(.iload_n 2, 1, 0, 0, 0), (.iconst 1, 1, 1, 0, 0), (.iload 4, 2, 0, 0, 0), (.ishl, 1, 0, 0, 0), (.ior, 1, 0, 0, 0), (.istore_n 2, 1, 0, 0, 0)], none),
  (85, [(.iinc 4 1, 3, 1, 0, 0)], some (.goto (-71), 3, 0, 0, 0)),
  (91, [(.iinc 3 1, 3, 1, 0, 0)], some (.goto (-88), 3, 0, 0, 0)),
  (97, [(.iload_n 2, 1, 0, 0, 0)], some (.ireturn, 1, 0, 0, 0))]
def iX0_groupAround : MI := (yX0_groupAround, cX0_groupAround, 6, (some .int), 0, 2, bX0_groupAround)
abbrev jX0_groupsOf : Nat := 38
def bX0_groupsOf : List Blk := [(0, [(.iconst 0, 1, 0, 0, 0), (.istore_n 2, 1, 0, 0, 0), (.iconst 0, 1, 0, 0, 0), (.istore_n 3, 1, 0, 0, 0), (.iconst 0, 1, 0, 0, 0), (.istore 4, 2, 0, 0, 0)], none),
  (7, [(.iload 4, 2, 0, 0, 0), (.aload_n 0, 1, 0, 0, 0), (.getfield 27, 3, 0, 5, 0)], some (.if_icmp .ge 40, 3, 0, 0, 0)),
  (16, [(.aload_n 0, 1, 0, 0, 0), (.iload 4, 2, 0, 0, 0), (.iload_n 1, 1, 0, 0, 0)], some (.invokevirtual 93, 3, 3, 3, 0)),
  (23, [], some (.ifCond .eq 24, 3, 0, 0, 0)),
  (26, [(.iload_n 3, 1, 0, 0, 0), (.iload 4, 2, 0, 0, 0), (.ishr, 1, 0, 0, 0), (.iconst 1, 1, 1, 0, 0), (.iand, 1, 0, 0, 0)], some (.ifCond .ne 15, 3, 0, 0, 0)),
  (35, [(.iload_n 3, 1, 0, 0, 0), (.aload_n 0, 1, 0, 0, 0), (.iload 4, 2, 0, 0, 0)], some (.invokevirtual 145, 3, 37, 2, 0)),
  (42, [(.ior, 1, 0, 0, 0), (.istore_n 3, 1, 0, 0, 0), (.iinc 2 1, 3, 1, 0, 0)], none),
  (47, [(.iinc 4 1, 3, 1, 0, 0)], some (.goto (-43), 3, 0, 0, 0)),
  (53, [(.iload_n 2, 1, 0, 0, 0)], some (.ireturn, 1, 0, 0, 0))]
def iX0_groupsOf : MI := (yX0_groupsOf, cX0_groupsOf, 5, (some .int), 0, 2, bX0_groupsOf)
abbrev jX0_farthestOf : Nat := 39
def bX0_farthestOf : List Blk := [(0, [(.bipush (-4), 2, 4, 1, 0), (.istore_n 2, 1, 0, 0, 0), (.bipush (-4), 2, 4, 1, 0), (.istore_n 3, 1, 0, 0, 0), (.iconst 0, 1, 0, 0, 0), (.istore 4, 2, 0, 0, 0)], none),
  (9, [(.iload 4, 2, 0, 0, 0), (.aload_n 0, 1, 0, 0, 0), (.getfield 27, 3, 0, 5, 0)], some (.if_icmp .ge 58, 3, 0, 0, 0)),
  (18, [(.aload_n 0, 1, 0, 0, 0), (.iload 4, 2, 0, 0, 0), (.iload_n 1, 1, 0, 0, 0)], some (.invokevirtual 93, 3, 3, 3, 0)),
  (25, [], some (.ifCond .eq 42, 3, 0, 0, 0)),
  (28, [(.aload_n 0, 1, 0, 0, 0), (.getfield 21, 3, 0, 3, 0), (.iload 4, 2, 0, 0, 0), (.iaload, 1, 0, 0, 0), (.bipush 6, 2, 6, 0, 0), (.idiv, 1, 0, 0, 0), (.istore 5, 2, 0, 0, 0), (.iload_n 1, 1, 0, 0, 0)], some (.ifCond .ne 8, 3, 0, 0, 0)),
  (44, [(.iload 5, 2, 0, 0, 0)], some (.goto 7, 3, 0, 0, 0)),
  (49, [(.iconst 5, 1, 5, 0, 0), (.iload 5, 2, 0, 0, 0), (.isub, 1, 0, 0, 0)], none),
  (53, [(.istore 6, 2, 0, 0, 0), (.iload 6, 2, 0, 0, 0), (.iload_n 3, 1, 0, 0, 0)], some (.if_icmp .le 9, 3, 0, 0, 0)),
  (61, [(.iload 4, 2, 0, 0, 0), (.istore_n 2, 1, 0, 0, 0), (.iload 6, 2, 0, 0, 0), (.istore_n 3, 1, 0, 0, 0)], none),
  (67, [(.iinc 4 1, 3, 1, 0, 0)], some (.goto (-61), 3, 0, 0, 0)),
  (73, [(.iload_n 2, 1, 0, 0, 0)], some (.ireturn, 1, 0, 0, 0))]
def iX0_farthestOf : MI := (yX0_farthestOf, cX0_farthestOf, 7, (some .int), 0, 2, bX0_farthestOf)
abbrev jX0_pairsSideBySide : Nat := 40
def bX0_pairsSideBySide : List Blk := [(0, [(.iconst 0, 1, 0, 0, 0), (.istore_n 1, 1, 0, 0, 0), (.iconst 0, 1, 0, 0, 0), (.istore_n 2, 1, 0, 0, 0)], none),
  (4, [(.iload_n 2, 1, 0, 0, 0), (.aload_n 0, 1, 0, 0, 0), (.getfield 27, 3, 0, 5, 0)], some (.if_icmp .ge 65, 3, 0, 0, 0)),
  (12, [(.iconst 0, 1, 0, 0, 0), (.istore_n 3, 1, 0, 0, 0)], none),
  (14, [(.iload_n 3, 1, 0, 0, 0), (.aload_n 0, 1, 0, 0, 0), (.getfield 27, 3, 0, 5, 0)], some (.if_icmp .ge 49, 3, 0, 0, 0)),
  (22, [(.aload_n 0, 1, 0, 0, 0), (.iload_n 2, 1, 0, 0, 0), (.iconst 0, 1, 0, 0, 0)], some (.invokevirtual 93, 3, 3, 3, 0)),
  (28, [], some (.ifCond .eq 34, 3, 0, 0, 0)),
  (31, [(.aload_n 0, 1, 0, 0, 0), (.iload_n 3, 1, 0, 0, 0), (.iconst 1, 1, 1, 0, 0)], some (.invokevirtual 93, 3, 3, 3, 0)),
  (37, [], some (.ifCond .eq 25, 3, 0, 0, 0)),
  (40, [(.aload_n 0, 1, 0, 0, 0), (.getfield 21, 3, 0, 3, 0), (.iload_n 2, 1, 0, 0, 0), (.iaload, 1, 0, 0, 0), (.aload_n 0, 1, 0, 0, 0), (.getfield 21, 3, 0, 3, 0), (.iload_n 3, 1, 0, 0, 0), (.iaload, 1, 0, 0, 0)], some (.invokestatic 114, 3, 20, 2, 0)),
  (55, [(.iconst 1, 1, 1, 0, 0)], some (.if_icmp .ne 6, 3, 0, 0, 0)),
  (59, [(.iinc 1 1, 3, 1, 0, 0)], none),
  (62, [(.iinc 3 1, 3, 1, 0, 0)], some (.goto (-51), 3, 0, 0, 0)),
  (68, [(.iinc 2 1, 3, 1, 0, 0)], some (.goto (-67), 3, 0, 0, 0)),
  (74, [(.iload_n 1, 1, 0, 0, 0)], some (.ireturn, 1, 0, 0, 0))]
def iX0_pairsSideBySide : MI := (yX0_pairsSideBySide, cX0_pairsSideBySide, 4, (some .int), 0, 1, bX0_pairsSideBySide)
abbrev jX0_quietOn : Nat := 41
def bX0_quietOn : List Blk := [(0, [(.iconst 0, 1, 0, 0, 0), (.istore_n 2, 1, 0, 0, 0), (.iconst 0, 1, 0, 0, 0), (.istore_n 3, 1, 0, 0, 0)], none),
  (4, [(.iload_n 3, 1, 0, 0, 0), (.aload_n 0, 1, 0, 0, 0), (.getfield 27, 3, 0, 5, 0)], some (.if_icmp .ge 38, 3, 0, 0, 0)),
  (12, [(.iload_n 2, 1, 0, 0, 0), (.aload_n 0, 1, 0, 0, 0), (.iload_n 3, 1, 0, 0, 0)], some (.invokevirtual 56, 3, 2, 2, 0)),
  (18, [], some (.ifCond .eq 20, 3, 0, 0, 0)),
  (21, [(.aload_n 0, 1, 0, 0, 0), (.iload_n 3, 1, 0, 0, 0), (.iload_n 1, 1, 0, 0, 0)], some (.invokevirtual 85, 3, 23, 3, 0)),
  (27, [(.bipush (-4), 2, 4, 1, 0)], some (.if_icmp .ne 9, 3, 0, 0, 0)),
  (32, [(.iconst 1, 1, 1, 0, 0), (.iload_n 3, 1, 0, 0, 0), (.ishl, 1, 0, 0, 0)], some (.goto 4, 3, 0, 0, 0)),
  (38, [(.iconst 0, 1, 0, 0, 0)], none),
  (39, [(.ior, 1, 0, 0, 0), (.istore_n 2, 1, 0, 0, 0), (.iinc 3 1, 3, 1, 0, 0)], some (.goto (-40), 3, 0, 0, 0)),
  (47, [(.iload_n 2, 1, 0, 0, 0)], some (.ireturn, 1, 0, 0, 0))]
def iX0_quietOn : MI := (yX0_quietOn, cX0_quietOn, 4, (some .int), 0, 2, bX0_quietOn)
abbrev jX2_hasPlace : Nat := 42
def bX2_hasPlace : List Blk := [(0, [(.iload_n 1, 1, 0, 0, 0)], some (.ifCond .lt 21, 3, 0, 0, 0)),
  (4, [(.iload_n 1, 1, 0, 0, 0), (.aload_n 0, 1, 0, 0, 0), (.getfield 24, 3, 1, 4, 0)], some (.if_icmp .ge 13, 3, 0, 0, 0)),
  (12, [(.iload_n 1, 1, 0, 0, 0), (.bipush 100, 2, 100, 0, 0)], some (.if_icmp .ge 7, 3, 0, 0, 0)),
  (18, [(.iconst 1, 1, 1, 0, 0)], some (.goto 4, 3, 0, 0, 0)),
  (22, [(.iconst 0, 1, 0, 0, 0)], none),
  (23, [], some (.ireturn, 1, 1, 0, 0))]
def iX2_hasPlace : MI := (yX2_hasPlace, cX2_hasPlace, 2, (some .boolean), 1, 2, bX2_hasPlace)
abbrev jX2_elementAt : Nat := 43
def bX2_elementAt : List Blk := [(0, [(.aload_n 0, 1, 0, 0, 0), (.iload_n 1, 1, 0, 0, 0)], some (.invokevirtual 37, 3, 42, 2, 1)),
  (5, [], some (.ifCond .eq 12, 3, 0, 0, 0)),
  (8, [(.aload_n 0, 1, 0, 0, 0), (.getfield 27, 3, 1, 5, 0), (.iload_n 1, 1, 0, 0, 0), (.iaload, 1, 0, 0, 0)], some (.goto 4, 3, 0, 0, 0)),
  (17, [(.iconst 0, 1, 0, 0, 0)], none),
  (18, [], some (.ireturn, 1, 0, 0, 0))]
def iX2_elementAt : MI := (yX2_elementAt, cX2_elementAt, 2, (some .int), 1, 2, bX2_elementAt)
abbrev jX2_digitsBehind : Nat := 44
def bX2_digitsBehind : List Blk := [(0, [(.aload_n 0, 1, 0, 0, 0), (.iload_n 1, 1, 0, 0, 0)], some (.invokevirtual 42, 3, 43, 2, 1)),
  (5, [], some (.lookupswitch 71 #[(100, 69), (107, 67), (109, 61), (112, 59), (116, 65), (120, 63)], 59, 0, 0, 0)),
  (64, [(.iconst 5, 1, 5, 0, 0)], some (.ireturn, 1, 0, 0, 0)),
  (66, [(.iconst 3, 1, 3, 0, 0)], some (.ireturn, 1, 0, 0, 0)),
  (68, [(.iconst 1, 1, 1, 0, 0)], some (.ireturn, 1, 0, 0, 0)),
  (70, [(.iconst 1, 1, 1, 0, 0)], some (.ireturn, 1, 0, 0, 0)),
  (72, [(.iconst 3, 1, 3, 0, 0)], some (.ireturn, 1, 0, 0, 0)),
  (74, [(.iconst 2, 1, 2, 0, 0)], some (.ireturn, 1, 0, 0, 0)),
  (76, [(.bipush (-4), 2, 4, 1, 0)], some (.ireturn, 1, 0, 0, 0))]
def iX2_digitsBehind : MI := (yX2_digitsBehind, cX2_digitsBehind, 2, (some .int), 1, 2, bX2_digitsBehind)
abbrev jX2_wrongByte : Nat := 45
def bX2_wrongByte : List Blk := [(0, [(.aload_n 0, 1, 0, 0, 0), (.getfield 24, 3, 1, 4, 0)], some (.ifCond .ne 5, 3, 0, 0, 0)),
  (7, [(.iconst 0, 1, 0, 0, 0)], some (.ireturn, 1, 0, 0, 0)),
  (9, [(.bipush (-4), 2, 4, 1, 0), (.istore_n 1, 1, 0, 0, 0), (.iconst 0, 1, 0, 0, 0), (.istore_n 2, 1, 0, 0, 0)], none),
  (14, [(.iload_n 2, 1, 0, 0, 0), (.aload_n 0, 1, 0, 0, 0), (.getfield 24, 3, 1, 4, 0)], some (.if_icmp .ge 70, 3, 0, 0, 0)),
  (22, [(.aload_n 0, 1, 0, 0, 0), (.iload_n 2, 1, 0, 0, 0)], some (.invokevirtual 42, 3, 43, 2, 1)),
  (27, [(.istore_n 3, 1, 0, 0, 0), (.iload_n 1, 1, 0, 0, 0), (.bipush (-4), 2, 4, 1, 0)], some (.if_icmp .ne 17, 3, 0, 0, 0)),
  (34, [(.aload_n 0, 1, 0, 0, 0), (.iload_n 2, 1, 0, 0, 0)], some (.invokevirtual 46, 3, 44, 2, 1)),
  (39, [(.istore_n 1, 1, 0, 0, 0), (.iload_n 1, 1, 0, 0, 0), (.bipush (-4), 2, 4, 1, 0)], some (.if_icmp .ne 40, 3, 0, 0, 0)),
  (46, [(.iload_n 2, 1, 0, 0, 0)], some (.ireturn, 1, 0, 0, 0)),
  (48, [(.iload_n 1, 1, 0, 0, 0)], some (.ifCond .le 23, 3, 0, 0, 0)),
  (52, [(.iload_n 3, 1, 0, 0, 0), (.bipush 48, 2, 48, 0, 0)], some (.if_icmp .lt 9, 3, 0, 0, 0)),
  (58, [(.iload_n 3, 1, 0, 0, 0), (.bipush 57, 2, 57, 0, 0)], some (.if_icmp .le 5, 3, 0, 0, 0)),
  (64, [(.iload_n 2, 1, 0, 0, 0)], some (.ireturn, 1, 0, 0, 0)),
  (66, [(.iinc 1 (-1), 3, 1, 1, 0)], some (.goto 14, 3, 0, 0, 0)),
  (72, [(.iload_n 3, 1, 0, 0, 0), (.bipush 59, 2, 59, 0, 0)], some (.if_icmp .eq 5, 3, 0, 0, 0)),
  (78, [(.iload_n 2, 1, 0, 0, 0)], some (.ireturn, 1, 0, 0, 0)),
  (80, [(.bipush (-4), 2, 4, 1, 0), (.istore_n 1, 1, 0, 0, 0)], none),
  (83, [(.iinc 2 1, 3, 1, 0, 0)], some (.goto (-72), 3, 0, 0, 0)),
  (89, [(.iload_n 1, 1, 0, 0, 0), (.bipush (-4), 2, 4, 1, 0)], some (.if_icmp .ne 8, 3, 0, 0, 0)),
  (95, [(.bipush (-4), 2, 4, 1, 0)], some (.goto 7, 3, 0, 0, 0)),
  (100, [(.aload_n 0, 1, 0, 0, 0), (.getfield 24, 3, 1, 4, 0)], none),
  (104, [], some (.ireturn, 1, 0, 0, 0))]
def iX2_wrongByte : MI := (yX2_wrongByte, cX2_wrongByte, 4, (some .int), 1, 1, bX2_wrongByte)
abbrev jX2_digitAt : Nat := 46
def bX2_digitAt : List Blk := [(0, [(.aload_n 0, 1, 0, 0, 0), (.iload_n 1, 1, 0, 0, 0)], some (.invokevirtual 42, 3, 43, 2, 1)),
  (5, [(.bipush 48, 2, 48, 0, 0), (.isub, 1, 0, 0, 0)], some (.ireturn, 1, 0, 0, 0))]
def iX2_digitAt : MI := (yX2_digitAt, cX2_digitAt, 2, (some .int), 1, 2, bX2_digitAt)
abbrev jX2_twoDigitsAt : Nat := 47
def bX2_twoDigitsAt : List Blk := [(0, [(.bipush 10, 2, 10, 0, 0), (.aload_n 0, 1, 0, 0, 0), (.iload_n 1, 1, 0, 0, 0)], some (.invokevirtual 49, 3, 46, 2, 1)),
  (7, [(.imul, 1, 0, 0, 0), (.aload_n 0, 1, 0, 0, 0), (.iload_n 1, 1, 0, 0, 0), (.iconst 1, 1, 1, 0, 0), (.iadd, 1, 0, 0, 0)], some (.invokevirtual 49, 3, 46, 2, 1)),
  (15, [(.iadd, 1, 0, 0, 0)], some (.ireturn, 1, 0, 0, 0))]
def iX2_twoDigitsAt : MI := (yX2_twoDigitsAt, cX2_twoDigitsAt, 2, (some .int), 1, 2, bX2_twoDigitsAt)
abbrev jX3_shelfAt : Nat := 48
def bX3_shelfAt : List Blk := [(0, [(.iload_n 1, 1, 0, 0, 0)], some (.ifCond .lt 21, 3, 0, 0, 0)),
  (4, [(.iload_n 1, 1, 0, 0, 0), (.aload_n 0, 1, 0, 0, 0), (.getfield 25, 3, 2, 3, 0), (.arraylength, 1, 0, 0, 0)], some (.if_icmp .ge 12, 3, 0, 0, 0)),
  (13, [(.aload_n 0, 1, 0, 0, 0), (.getfield 25, 3, 2, 3, 0), (.iload_n 1, 1, 0, 0, 0), (.aaload, 1, 0, 0, 0)], some (.goto 4, 3, 0, 0, 0)),
  (22, [(.aconst_null, 1, 0, 0, 0)], none),
  (23, [], some (.areturn, 1, 0, 0, 0))]
def iX3_shelfAt : MI := (yX3_shelfAt, cX3_shelfAt, 2, (some (.object "TakenUpByThePieces$Shelf")), 2, 2, bX3_shelfAt)
abbrev jX3_refusalUnless : Nat := 49
def bX3_refusalUnless : List Blk := [(0, [(.aload_n 0, 1, 0, 0, 0)], some (.ifnonnull 5, 3, 0, 0, 0)),
  (4, [(.iconst (-1), 1, 1, 1, 0)], some (.ireturn, 1, 0, 0, 0)),
  (6, [(.aload_n 0, 1, 0, 0, 0), (.getfield 261, 3, 1, 0, 0)], some (.ifCond .ne 6, 3, 0, 0, 0)),
  (13, [(.bipush (-11), 2, 11, 1, 0)], some (.ireturn, 1, 0, 0, 0)),
  (16, [(.aload_n 0, 1, 0, 0, 0), (.getfield 261, 3, 1, 0, 0), (.iload_n 1, 1, 0, 0, 0)], some (.if_icmp .ne 7, 3, 0, 0, 0)),
  (24, [(.iconst 0, 1, 0, 0, 0)], some (.goto 5, 3, 0, 0, 0)),
  (28, [(.bipush (-12), 2, 12, 1, 0)], none),
  (30, [], some (.ireturn, 1, 0, 0, 0))]
def iX3_refusalUnless : MI := (yX3_refusalUnless, cX3_refusalUnless, 2, (some .int), 2, 2, bX3_refusalUnless)
abbrev jX3_isDone : Nat := 50
def bX3_isDone : List Blk := [(0, [(.aload_n 1, 1, 0, 0, 0), (.iload_n 2, 1, 0, 0, 0), (.iconst 1, 1, 1, 0, 0), (.iadd, 1, 0, 0, 0)], some (.invokevirtual 316, 3, 46, 2, 1)),
  (7, [(.istore_n 3, 1, 0, 0, 0), (.aload_n 1, 1, 0, 0, 0), (.iload_n 2, 1, 0, 0, 0), (.iconst 2, 1, 2, 0, 0), (.iadd, 1, 0, 0, 0)], some (.invokevirtual 316, 3, 46, 2, 1)),
  (15, [(.istore 4, 2, 0, 0, 0), (.aload_n 1, 1, 0, 0, 0), (.iload_n 2, 1, 0, 0, 0), (.iconst 3, 1, 3, 0, 0), (.iadd, 1, 0, 0, 0)], some (.invokevirtual 316, 3, 46, 2, 1)),
  (24, [(.istore 5, 2, 0, 0, 0), (.aload_n 1, 1, 0, 0, 0), (.iload_n 2, 1, 0, 0, 0)], some (.invokevirtual 252, 3, 43, 2, 1)),
  (31, [], some (.lookupswitch 139 #[(100, 124), (107, 111), (109, 77), (112, 57), (116, 102), (120, 93)], 57, 0, 0, 0)),
  (88, [(.aload_n 0, 1, 0, 0, 0), (.getfield 33, 3, 2, 5, 0), (.iload_n 3, 1, 0, 0, 0), (.iload 4, 2, 0, 0, 0), (.iload 5, 2, 0, 0, 0), (.aload_n 1, 1, 0, 0, 0), (.iload_n 2, 1, 0, 0, 0), (.iconst 4, 1, 4, 0, 0), (.iadd, 1, 0, 0, 0)], some (.invokevirtual 319, 3, 47, 2, 1)),
  (104, [], some (.invokevirtual 133, 3, 10, 5, 0)),
  (107, [], some (.ireturn, 1, 1, 0, 0)),
  (108, [(.aload_n 0, 1, 0, 0, 0), (.getfield 33, 3, 2, 5, 0), (.iload_n 3, 1, 0, 0, 0), (.aload_n 1, 1, 0, 0, 0), (.iload_n 2, 1, 0, 0, 0), (.iconst 2, 1, 2, 0, 0), (.iadd, 1, 0, 0, 0)], some (.invokevirtual 319, 3, 47, 2, 1)),
  (120, [], some (.invokevirtual 137, 3, 13, 3, 0)),
  (123, [], some (.ireturn, 1, 1, 0, 0)),
  (124, [(.aload_n 0, 1, 0, 0, 0), (.getfield 33, 3, 2, 5, 0), (.iload_n 3, 1, 0, 0, 0)], some (.invokevirtual 141, 3, 12, 2, 0)),
  (132, [], some (.ireturn, 1, 1, 0, 0)),
  (133, [(.aload_n 0, 1, 0, 0, 0), (.getfield 33, 3, 2, 5, 0), (.iload_n 3, 1, 0, 0, 0)], some (.invokevirtual 147, 3, 15, 2, 0)),
  (141, [], some (.ireturn, 1, 1, 0, 0)),
  (142, [(.aload_n 0, 1, 0, 0, 0), (.getfield 33, 3, 2, 5, 0), (.iload_n 3, 1, 0, 0, 0), (.iload 4, 2, 0, 0, 0), (.iload 5, 2, 0, 0, 0)], some (.invokevirtual 228, 3, 14, 4, 0)),
  (154, [], some (.ireturn, 1, 1, 0, 0)),
  (155, [(.aload_n 0, 1, 0, 0, 0), (.getfield 33, 3, 2, 5, 0), (.aload_n 1, 1, 0, 0, 0), (.iload_n 2, 1, 0, 0, 0), (.iconst 1, 1, 1, 0, 0), (.iadd, 1, 0, 0, 0)], some (.invokevirtual 319, 3, 47, 2, 1)),
  (166, [], some (.invokevirtual 150, 3, 30, 2, 0)),
  (169, [], some (.ireturn, 1, 1, 0, 0)),
  (170, [(.iconst 0, 1, 0, 0, 0)], some (.ireturn, 1, 1, 0, 0))]
def iX3_isDone : MI := (yX3_isDone, cX3_isDone, 6, (some .boolean), 2, 3, bX3_isDone)
abbrev jX3_game : Nat := 51
def bX3_game : List Blk := [(0, [(.aload_n 0, 1, 0, 0, 0), (.iload_n 1, 1, 0, 0, 0)], some (.invokevirtual 51, 3, 48, 2, 2)),
  (5, [(.astore_n 2, 1, 0, 0, 0), (.aload_n 2, 1, 0, 0, 0), (.iconst 2, 1, 2, 0, 0)], some (.invokestatic 55, 3, 49, 2, 0)),
  (11, [(.istore_n 3, 1, 0, 0, 0), (.aload_n 2, 1, 0, 0, 0)], some (.ifnull 7, 3, 0, 0, 0)),
  (16, [(.iload_n 3, 1, 0, 0, 0)], some (.ifCond .eq 5, 3, 0, 0, 0)),
  (20, [(.iload_n 3, 1, 0, 0, 0)], some (.ireturn, 1, 0, 0, 0)),
  (22, [(.aload_n 2, 1, 0, 0, 0), (.getfield 59, 3, 1, 3, 0)], some (.ifCond .eq 6, 3, 0, 0, 0)),
  (29, [(.bipush (-12), 2, 12, 1, 0)], some (.ireturn, 1, 0, 0, 0)),
  (32, [(.aload_n 2, 1, 0, 0, 0)], some (.invokevirtual 62, 3, 45, 1, 1)),
  (36, [(.istore 4, 2, 0, 0, 0), (.iload 4, 2, 0, 0, 0), (.bipush (-4), 2, 4, 1, 0)], some (.if_icmp .eq 10, 3, 0, 0, 0)),
  (45, [(.sipush (-1000), 3, 1000, 1, 0), (.iload 4, 2, 0, 0, 0), (.isub, 1, 0, 0, 0)], some (.ireturn, 1, 0, 0, 0)),
  (52, [(.iconst 0, 1, 0, 0, 0), (.istore 5, 2, 0, 0, 0), (.aload_n 0, 1, 0, 0, 0), (.getfield 33, 3, 2, 5, 0), (.aload_n 0, 1, 0, 0, 0), (.getfield 10, 3, 2, 0, 0)], some (.invokevirtual 66, 3, 0, 2, 0)),
  (66, [(.iconst 0, 1, 0, 0, 0), (.istore 6, 2, 0, 0, 0)], none),
  (69, [(.iload 6, 2, 0, 0, 0), (.aload_n 2, 1, 0, 0, 0), (.getfield 70, 3, 1, 4, 0)], some (.if_icmp .ge 43, 3, 0, 0, 0)),
  (78, [(.aload_n 0, 1, 0, 0, 0), (.aload_n 2, 1, 0, 0, 0), (.iload 6, 2, 0, 0, 0)], some (.invokevirtual 73, 3, 50, 3, 2)),
  (85, [], some (.ifCond .ne 10, 3, 0, 0, 0)),
  (88, [(.sipush (-2000), 3, 2000, 1, 0), (.iload 6, 2, 0, 0, 0), (.isub, 1, 0, 0, 0)], some (.ireturn, 1, 0, 0, 0)),
  (95, [(.iinc 5 1, 3, 1, 0, 0), (.iload 6, 2, 0, 0, 0), (.iconst 2, 1, 2, 0, 0), (.iconst 0, 1, 0, 0, 0), (.aload_n 2, 1, 0, 0, 0), (.iload 6, 2, 0, 0, 0)], some (.invokevirtual 77, 3, 44, 2, 1)),
  (108, [(.invokestatic 81, 3, 1, 0, 0), (.iadd, 1, 0, 0, 0), (.iadd, 1, 0, 0, 0), (.istore 6, 2, 0, 0, 0)], some (.goto (-46), 3, 0, 0, 0)),
  (118, [(.aload_n 0, 1, 0, 0, 0), (.getfield 10, 3, 2, 0, 0), (.aload_n 0, 1, 0, 0, 0), (.getfield 33, 3, 2, 5, 0)], some (.invokevirtual 66, 3, 0, 2, 0)),
  (129, [(.iload 5, 2, 0, 0, 0)], some (.ireturn, 1, 0, 0, 0))]
def iX3_game : MI := (yX3_game, cX3_game, 7, (some .int), 2, 2, bX3_game)
abbrev jX3_piece : Nat := 52
def bX3_piece : List Blk := [(0, [(.aload_n 0, 1, 0, 0, 0), (.getfield 10, 3, 2, 0, 0), (.iload_n 1, 1, 0, 0, 0)], some (.invokevirtual 87, 3, 1, 2, 0)),
  (8, [], some (.ifCond .ne 5, 3, 0, 0, 0)),
  (11, [(.iconst (-1), 1, 1, 1, 0)], some (.ireturn, 1, 0, 0, 0)),
  (13, [(.iload_n 2, 1, 0, 0, 0)], some (.tableswitch 143 0 6 #[42, 52, 62, 72, 81, 103, 125], 42, 0, 0, 0)),
  (56, [(.aload_n 0, 1, 0, 0, 0), (.getfield 10, 3, 2, 0, 0), (.getfield 91, 3, 0, 0, 0), (.iload_n 1, 1, 0, 0, 0), (.iaload, 1, 0, 0, 0)], some (.ireturn, 1, 0, 0, 0)),
  (66, [(.aload_n 0, 1, 0, 0, 0), (.getfield 10, 3, 2, 0, 0), (.getfield 94, 3, 0, 1, 0), (.iload_n 1, 1, 0, 0, 0), (.iaload, 1, 0, 0, 0)], some (.ireturn, 1, 0, 0, 0)),
  (76, [(.aload_n 0, 1, 0, 0, 0), (.getfield 10, 3, 2, 0, 0), (.getfield 97, 3, 0, 2, 0), (.iload_n 1, 1, 0, 0, 0), (.iaload, 1, 0, 0, 0)], some (.ireturn, 1, 0, 0, 0)),
  (86, [(.aload_n 0, 1, 0, 0, 0), (.getfield 10, 3, 2, 0, 0), (.iload_n 1, 1, 0, 0, 0)], some (.invokevirtual 100, 3, 4, 2, 0)),
  (94, [], some (.ireturn, 1, 0, 0, 0)),
  (95, [(.aload_n 0, 1, 0, 0, 0), (.getfield 10, 3, 2, 0, 0), (.getfield 91, 3, 0, 0, 0), (.iload_n 1, 1, 0, 0, 0), (.iaload, 1, 0, 0, 0), (.aload_n 0, 1, 0, 0, 0), (.getfield 10, 3, 2, 0, 0), (.getfield 94, 3, 0, 1, 0), (.iload_n 1, 1, 0, 0, 0), (.iaload, 1, 0, 0, 0)], some (.invokestatic 103, 3, 24, 2, 0)),
  (116, [], some (.ireturn, 1, 0, 0, 0)),
  (117, [(.aload_n 0, 1, 0, 0, 0), (.getfield 10, 3, 2, 0, 0), (.getfield 91, 3, 0, 0, 0), (.iload_n 1, 1, 0, 0, 0), (.iaload, 1, 0, 0, 0), (.aload_n 0, 1, 0, 0, 0), (.getfield 10, 3, 2, 0, 0), (.getfield 94, 3, 0, 1, 0), (.iload_n 1, 1, 0, 0, 0), (.iaload, 1, 0, 0, 0)], some (.invokestatic 108, 3, 34, 2, 0)),
  (138, [], some (.ireturn, 1, 0, 0, 0)),
  (139, [(.aload_n 0, 1, 0, 0, 0), (.getfield 10, 3, 2, 0, 0), (.iload_n 1, 1, 0, 0, 0), (.aload_n 0, 1, 0, 0, 0), (.getfield 10, 3, 2, 0, 0), (.getfield 111, 3, 0, 8, 0), (.iconst 1, 1, 1, 0, 0), (.iadd, 1, 0, 0, 0)], some (.invokevirtual 114, 3, 23, 3, 0)),
  (156, [], some (.ireturn, 1, 0, 0, 0)),
  (157, [(.iconst (-1), 1, 1, 1, 0)], some (.ireturn, 1, 0, 0, 0))]
def iX3_piece : MI := (yX3_piece, cX3_piece, 3, (some .int), 2, 3, bX3_piece)
abbrev jX3_on : Nat := 53
def bX3_on : List Blk := [(0, [(.iload_n 1, 1, 0, 0, 0)], some (.invokestatic 117, 3, 11, 1, 0)),
  (4, [], some (.ifCond .eq 15, 3, 0, 0, 0)),
  (7, [(.aload_n 0, 1, 0, 0, 0), (.getfield 10, 3, 2, 0, 0), (.getfield 120, 3, 0, 4, 0), (.iload_n 1, 1, 0, 0, 0), (.iaload, 1, 0, 0, 0)], some (.goto 4, 3, 0, 0, 0)),
  (19, [(.iconst (-1), 1, 1, 1, 0)], none),
  (20, [], some (.ireturn, 1, 0, 0, 0))]
def iX3_on : MI := (yX3_on, cX3_on, 2, (some .int), 2, 2, bX3_on)
abbrev jX3_comes : Nat := 54
def bX3_comes : List Blk := [(0, [(.aload_n 0, 1, 0, 0, 0), (.iload_n 1, 1, 0, 0, 0)], some (.invokevirtual 51, 3, 48, 2, 2)),
  (5, [(.astore 4, 2, 0, 0, 0), (.aload 4, 2, 0, 0, 0)], some (.ifnull 17, 3, 0, 0, 0)),
  (12, [(.iload_n 2, 1, 0, 0, 0)], some (.invokestatic 123, 3, 9, 1, 0)),
  (16, [], some (.ifCond .eq 10, 3, 0, 0, 0)),
  (19, [(.iload_n 3, 1, 0, 0, 0)], some (.invokestatic 117, 3, 11, 1, 0)),
  (23, [], some (.ifCond .ne 5, 3, 0, 0, 0)),
  (26, [(.iconst (-1), 1, 1, 1, 0)], some (.ireturn, 1, 0, 0, 0)),
  (28, [(.aload 4, 2, 0, 0, 0), (.iconst 1, 1, 1, 0, 0)], some (.invokestatic 55, 3, 49, 2, 0)),
  (34, [(.istore 5, 2, 0, 0, 0), (.iload 5, 2, 0, 0, 0)], some (.ifCond .eq 6, 3, 0, 0, 0)),
  (41, [(.iload 5, 2, 0, 0, 0)], some (.ireturn, 1, 0, 0, 0)),
  (44, [(.aload_n 0, 1, 0, 0, 0), (.getfield 10, 3, 2, 0, 0), (.getfield 126, 3, 0, 5, 0), (.bipush 10, 2, 10, 0, 0)], some (.if_icmp .lt 6, 3, 0, 0, 0)),
  (56, [(.bipush (-2), 2, 2, 1, 0)], some (.ireturn, 1, 0, 0, 0)),
  (59, [(.aload_n 0, 1, 0, 0, 0), (.getfield 10, 3, 2, 0, 0), (.aload 4, 2, 0, 0, 0), (.getfield 129, 3, 1, 1, 0), (.aload 4, 2, 0, 0, 0), (.getfield 131, 3, 1, 2, 0), (.iload_n 2, 1, 0, 0, 0), (.iload_n 3, 1, 0, 0, 0)], some (.invokevirtual 133, 3, 10, 5, 0)),
  (78, [], some (.ifCond .eq 15, 3, 0, 0, 0)),
  (81, [(.aload_n 0, 1, 0, 0, 0), (.getfield 10, 3, 2, 0, 0), (.getfield 126, 3, 0, 5, 0), (.iconst 1, 1, 1, 0, 0), (.isub, 1, 0, 0, 0)], some (.goto 5, 3, 0, 0, 0)),
  (93, [(.bipush (-3), 2, 3, 1, 0)], none),
  (95, [], some (.ireturn, 1, 0, 0, 0))]
def iX3_comes : MI := (yX3_comes, cX3_comes, 6, (some .int), 2, 4, bX3_comes)
abbrev jX3_stands : Nat := 55
def bX3_stands : List Blk := [(0, [(.aload_n 0, 1, 0, 0, 0), (.getfield 10, 3, 2, 0, 0), (.iload_n 1, 1, 0, 0, 0)], some (.invokevirtual 87, 3, 1, 2, 0)),
  (8, [], some (.ifCond .eq 10, 3, 0, 0, 0)),
  (11, [(.iload_n 2, 1, 0, 0, 0)], some (.invokestatic 117, 3, 11, 1, 0)),
  (15, [], some (.ifCond .ne 5, 3, 0, 0, 0)),
  (18, [(.iconst (-1), 1, 1, 1, 0)], some (.ireturn, 1, 0, 0, 0)),
  (20, [(.aload_n 0, 1, 0, 0, 0), (.getfield 10, 3, 2, 0, 0), (.iload_n 1, 1, 0, 0, 0)], some (.invokevirtual 100, 3, 4, 2, 0)),
  (28, [(.istore_n 3, 1, 0, 0, 0), (.aload_n 0, 1, 0, 0, 0), (.getfield 10, 3, 2, 0, 0), (.iload_n 1, 1, 0, 0, 0), (.iload_n 2, 1, 0, 0, 0)], some (.invokevirtual 137, 3, 13, 3, 0)),
  (38, [], some (.ifCond .eq 7, 3, 0, 0, 0)),
  (41, [(.iload_n 3, 1, 0, 0, 0)], some (.goto 5, 3, 0, 0, 0)),
  (45, [(.bipush (-3), 2, 3, 1, 0)], none),
  (47, [], some (.ireturn, 1, 0, 0, 0))]
def iX3_stands : MI := (yX3_stands, cX3_stands, 4, (some .int), 2, 3, bX3_stands)
abbrev jX3_takes : Nat := 56
def bX3_takes : List Blk := [(0, [(.aload_n 0, 1, 0, 0, 0), (.getfield 10, 3, 2, 0, 0), (.iload_n 1, 1, 0, 0, 0)], some (.invokevirtual 87, 3, 1, 2, 0)),
  (8, [], some (.ifCond .ne 5, 3, 0, 0, 0)),
  (11, [(.iconst (-1), 1, 1, 1, 0)], some (.ireturn, 1, 0, 0, 0)),
  (13, [(.aload_n 0, 1, 0, 0, 0), (.getfield 10, 3, 2, 0, 0), (.iload_n 1, 1, 0, 0, 0)], some (.invokevirtual 100, 3, 4, 2, 0)),
  (21, [(.istore_n 2, 1, 0, 0, 0), (.aload_n 0, 1, 0, 0, 0), (.getfield 10, 3, 2, 0, 0), (.iload_n 1, 1, 0, 0, 0)], some (.invokevirtual 141, 3, 12, 2, 0)),
  (30, [], some (.ifCond .eq 7, 3, 0, 0, 0)),
  (33, [(.iload_n 2, 1, 0, 0, 0)], some (.goto 5, 3, 0, 0, 0)),
  (37, [(.bipush (-3), 2, 3, 1, 0)], none),
  (39, [], some (.ireturn, 1, 0, 0, 0))]
def iX3_takes : MI := (yX3_takes, cX3_takes, 3, (some .int), 2, 2, bX3_takes)
abbrev jX3_turn : Nat := 57
def bX3_turn : List Blk := [(0, [(.aload_n 0, 1, 0, 0, 0), (.getfield 10, 3, 2, 0, 0), (.getfield 144, 3, 0, 6, 0), (.istore_n 2, 1, 0, 0, 0), (.aload_n 0, 1, 0, 0, 0), (.getfield 10, 3, 2, 0, 0), (.iload_n 1, 1, 0, 0, 0)], some (.invokevirtual 147, 3, 15, 2, 0)),
  (16, [], some (.ifCond .eq 7, 3, 0, 0, 0)),
  (19, [(.iload_n 2, 1, 0, 0, 0)], some (.goto 4, 3, 0, 0, 0)),
  (23, [(.iconst (-1), 1, 1, 1, 0)], none),
  (24, [], some (.ireturn, 1, 0, 0, 0))]
def iX3_turn : MI := (yX3_turn, cX3_turn, 3, (some .int), 2, 2, bX3_turn)
abbrev jX3_days : Nat := 58
def bX3_days : List Blk := [(0, [(.iload_n 1, 1, 0, 0, 0), (.iconst 1, 1, 1, 0, 0)], some (.if_icmp .lt 9, 3, 0, 0, 0)),
  (5, [(.iload_n 1, 1, 0, 0, 0), (.bipush 60, 2, 60, 0, 0)], some (.if_icmp .le 5, 3, 0, 0, 0)),
  (11, [(.iconst (-1), 1, 1, 1, 0)], some (.ireturn, 1, 0, 0, 0)),
  (13, [(.aload_n 0, 1, 0, 0, 0), (.getfield 10, 3, 2, 0, 0), (.iload_n 1, 1, 0, 0, 0)], some (.invokevirtual 150, 3, 30, 2, 0)),
  (21, [], some (.ifCond .eq 13, 3, 0, 0, 0)),
  (24, [(.aload_n 0, 1, 0, 0, 0), (.getfield 10, 3, 2, 0, 0)], some (.invokevirtual 153, 3, 32, 1, 0)),
  (31, [], some (.goto 5, 3, 0, 0, 0)),
  (34, [(.bipush (-3), 2, 3, 1, 0)], none),
  (36, [], some (.ireturn, 1, 0, 0, 0))]
def iX3_days : MI := (yX3_days, cX3_days, 2, (some .int), 2, 2, bX3_days)
abbrev jX3_lookAhead : Nat := 59
def bX3_lookAhead : List Blk := [(0, [(.aload_n 0, 1, 0, 0, 0), (.getfield 33, 3, 2, 5, 0), (.aload_n 0, 1, 0, 0, 0), (.getfield 10, 3, 2, 0, 0)], some (.invokevirtual 66, 3, 0, 2, 0)),
  (11, [(.aload_n 0, 1, 0, 0, 0), (.getfield 33, 3, 2, 5, 0), (.iload_n 1, 1, 0, 0, 0)], some (.invokevirtual 201, 3, 31, 2, 0)),
  (19, [], some (.return_, 1, 0, 0, 0))]
def iX3_lookAhead : MI := (yX3_lookAhead, cX3_lookAhead, 2, none, 2, 2, bX3_lookAhead)
abbrev jX3_then : Nat := 60
def bX3_then : List Blk := [(0, [(.iload_n 1, 1, 0, 0, 0)], some (.ifCond .lt 18, 3, 0, 0, 0)),
  (4, [(.iload_n 1, 1, 0, 0, 0), (.bipush 60, 2, 60, 0, 0)], some (.if_icmp .gt 12, 3, 0, 0, 0)),
  (10, [(.iload_n 2, 1, 0, 0, 0)], some (.ifCond .lt 8, 3, 0, 0, 0)),
  (14, [(.iload_n 2, 1, 0, 0, 0), (.iconst 3, 1, 3, 0, 0)], some (.if_icmp .le 5, 3, 0, 0, 0)),
  (19, [(.iconst (-1), 1, 1, 1, 0)], some (.ireturn, 1, 0, 0, 0)),
  (21, [(.aload_n 0, 1, 0, 0, 0), (.iload_n 1, 1, 0, 0, 0)], some (.invokevirtual 156, 3, 59, 2, 2)),
  (26, [(.iload_n 2, 1, 0, 0, 0)], some (.tableswitch 50 0 2 #[25, 33, 41], 25, 0, 0, 0)),
  (52, [(.aload_n 0, 1, 0, 0, 0), (.getfield 33, 3, 2, 5, 0)], some (.invokevirtual 160, 3, 33, 1, 0)),
  (59, [], some (.ireturn, 1, 0, 0, 0)),
  (60, [(.aload_n 0, 1, 0, 0, 0), (.getfield 33, 3, 2, 5, 0), (.getfield 163, 3, 0, 7, 0)], some (.ireturn, 1, 0, 0, 0)),
  (68, [(.aload_n 0, 1, 0, 0, 0), (.getfield 33, 3, 2, 5, 0), (.iconst 0, 1, 0, 0, 0)], some (.invokevirtual 166, 3, 35, 2, 0)),
  (76, [], some (.ireturn, 1, 0, 0, 0)),
  (77, [(.aload_n 0, 1, 0, 0, 0), (.getfield 33, 3, 2, 5, 0), (.iconst 1, 1, 1, 0, 0)], some (.invokevirtual 166, 3, 35, 2, 0)),
  (85, [], some (.ireturn, 1, 0, 0, 0))]
def iX3_then : MI := (yX3_then, cX3_then, 3, (some .int), 2, 3, bX3_then)
abbrev jX3_firstToFall : Nat := 61
def bX3_firstToFall : List Blk := [(0, [(.aload_n 0, 1, 0, 0, 0), (.getfield 33, 3, 2, 5, 0), (.aload_n 0, 1, 0, 0, 0), (.getfield 10, 3, 2, 0, 0)], some (.invokevirtual 66, 3, 0, 2, 0)),
  (11, [(.iconst 0, 1, 0, 0, 0), (.istore_n 1, 1, 0, 0, 0)], none),
  (13, [(.iload_n 1, 1, 0, 0, 0), (.bipush 60, 2, 60, 0, 0)], some (.if_icmp .ge 62, 3, 0, 0, 0)),
  (19, [(.aload_n 0, 1, 0, 0, 0), (.getfield 33, 3, 2, 5, 0), (.iconst 0, 1, 0, 0, 0), (.iconst 0, 1, 0, 0, 0)], some (.invokevirtual 175, 3, 29, 3, 0)),
  (28, [(.pop, 1, 0, 0, 0), (.iconst 0, 1, 0, 0, 0), (.istore_n 2, 1, 0, 0, 0)], none),
  (31, [(.iload_n 2, 1, 0, 0, 0), (.aload_n 0, 1, 0, 0, 0), (.getfield 10, 3, 2, 0, 0), (.getfield 126, 3, 0, 5, 0)], some (.if_icmp .ge 33, 3, 0, 0, 0)),
  (42, [(.aload_n 0, 1, 0, 0, 0), (.getfield 10, 3, 2, 0, 0), (.iload_n 2, 1, 0, 0, 0)], some (.invokevirtual 172, 3, 2, 2, 0)),
  (50, [], some (.ifCond .eq 16, 3, 0, 0, 0)),
  (53, [(.aload_n 0, 1, 0, 0, 0), (.getfield 33, 3, 2, 5, 0), (.iload_n 2, 1, 0, 0, 0)], some (.invokevirtual 172, 3, 2, 2, 0)),
  (61, [], some (.ifCond .ne 5, 3, 0, 0, 0)),
  (64, [(.iload_n 2, 1, 0, 0, 0)], some (.ireturn, 1, 0, 0, 0)),
  (66, [(.iinc 2 1, 3, 1, 0, 0)], some (.goto (-38), 3, 0, 0, 0)),
  (72, [(.iinc 1 1, 3, 1, 0, 0)], some (.goto (-62), 3, 0, 0, 0)),
  (78, [(.bipush (-4), 2, 4, 1, 0)], some (.ireturn, 1, 0, 0, 0))]
def iX3_firstToFall : MI := (yX3_firstToFall, cX3_firstToFall, 3, (some .int), 2, 1, bX3_firstToFall)
abbrev jX3_falls : Nat := 62
def bX3_falls : List Blk := [(0, [(.iload_n 1, 1, 0, 0, 0), (.iconst (-1), 1, 1, 1, 0)], some (.if_icmp .ne 8, 3, 0, 0, 0)),
  (5, [(.aload_n 0, 1, 0, 0, 0)], some (.invokevirtual 169, 3, 61, 1, 2)),
  (9, [], some (.ireturn, 1, 0, 0, 0)),
  (10, [(.aload_n 0, 1, 0, 0, 0), (.getfield 10, 3, 2, 0, 0), (.iload_n 1, 1, 0, 0, 0)], some (.invokevirtual 87, 3, 1, 2, 0)),
  (18, [], some (.ifCond .ne 5, 3, 0, 0, 0)),
  (21, [(.iconst (-1), 1, 1, 1, 0)], some (.ireturn, 1, 0, 0, 0)),
  (23, [(.aload_n 0, 1, 0, 0, 0), (.getfield 33, 3, 2, 5, 0), (.aload_n 0, 1, 0, 0, 0), (.getfield 10, 3, 2, 0, 0)], some (.invokevirtual 66, 3, 0, 2, 0)),
  (34, [(.iconst 0, 1, 0, 0, 0), (.istore_n 2, 1, 0, 0, 0)], none),
  (36, [(.iload_n 2, 1, 0, 0, 0), (.bipush 60, 2, 60, 0, 0)], some (.if_icmp .ge 32, 3, 0, 0, 0)),
  (42, [(.aload_n 0, 1, 0, 0, 0), (.getfield 33, 3, 2, 5, 0), (.iload_n 1, 1, 0, 0, 0)], some (.invokevirtual 172, 3, 2, 2, 0)),
  (50, [], some (.ifCond .ne 5, 3, 0, 0, 0)),
  (53, [(.iload_n 2, 1, 0, 0, 0)], some (.ireturn, 1, 0, 0, 0)),
  (55, [(.aload_n 0, 1, 0, 0, 0), (.getfield 33, 3, 2, 5, 0), (.iconst 0, 1, 0, 0, 0), (.iconst 0, 1, 0, 0, 0)], some (.invokevirtual 175, 3, 29, 3, 0)),
  (64, [(.pop, 1, 0, 0, 0), (.iinc 2 1, 3, 1, 0, 0)], some (.goto (-32), 3, 0, 0, 0)),
  (71, [(.aload_n 0, 1, 0, 0, 0), (.getfield 33, 3, 2, 5, 0), (.iload_n 1, 1, 0, 0, 0)], some (.invokevirtual 172, 3, 2, 2, 0)),
  (79, [], some (.ifCond .eq 8, 3, 0, 0, 0)),
  (82, [(.bipush (-4), 2, 4, 1, 0)], some (.goto 5, 3, 0, 0, 0)),
  (87, [(.bipush 60, 2, 60, 0, 0)], none),
  (89, [], some (.ireturn, 1, 0, 0, 0))]
def iX3_falls : MI := (yX3_falls, cX3_falls, 3, (some .int), 2, 2, bX3_falls)
abbrev jX3_still : Nat := 63
def bX3_still : List Blk := [(0, [(.aload_n 0, 1, 0, 0, 0), (.getfield 33, 3, 2, 5, 0), (.aload_n 0, 1, 0, 0, 0), (.getfield 10, 3, 2, 0, 0)], some (.invokevirtual 66, 3, 0, 2, 0)),
  (11, [(.iconst 0, 1, 0, 0, 0), (.istore_n 1, 1, 0, 0, 0), (.iconst 1, 1, 1, 0, 0), (.istore_n 2, 1, 0, 0, 0)], none),
  (15, [(.iload_n 2, 1, 0, 0, 0), (.bipush 60, 2, 60, 0, 0)], some (.if_icmp .gt 42, 3, 0, 0, 0)),
  (21, [(.aload_n 0, 1, 0, 0, 0), (.getfield 33, 3, 2, 5, 0), (.iconst 0, 1, 0, 0, 0), (.iconst 0, 1, 0, 0, 0)], some (.invokevirtual 175, 3, 29, 3, 0)),
  (30, [], some (.ifCond .eq 5, 3, 0, 0, 0)),
  (33, [(.iload_n 2, 1, 0, 0, 0), (.istore_n 1, 1, 0, 0, 0)], none),
  (35, [(.iload_n 1, 1, 0, 0, 0), (.bipush 40, 2, 40, 0, 0)], some (.if_icmp .le 6, 3, 0, 0, 0)),
  (41, [(.bipush (-4), 2, 4, 1, 0)], some (.ireturn, 1, 0, 0, 0)),
  (44, [(.iload_n 2, 1, 0, 0, 0), (.iload_n 1, 1, 0, 0, 0), (.isub, 1, 0, 0, 0), (.bipush 20, 2, 20, 0, 0)], some (.if_icmp .ne 5, 3, 0, 0, 0)),
  (52, [(.iload_n 1, 1, 0, 0, 0)], some (.ireturn, 1, 0, 0, 0)),
  (54, [(.iinc 2 1, 3, 1, 0, 0)], some (.goto (-42), 3, 0, 0, 0)),
  (60, [(.bipush (-4), 2, 4, 1, 0)], some (.ireturn, 1, 0, 0, 0))]
def iX3_still : MI := (yX3_still, cX3_still, 3, (some .int), 2, 1, bX3_still)
abbrev jX3_next : Nat := 64
def bX3_next : List Blk := [(0, [(.iload_n 1, 1, 0, 0, 0)], some (.ifCond .lt 8, 3, 0, 0, 0)),
  (4, [(.iload_n 1, 1, 0, 0, 0), (.iconst 2, 1, 2, 0, 0)], some (.if_icmp .le 5, 3, 0, 0, 0)),
  (9, [(.iconst (-1), 1, 1, 1, 0)], some (.ireturn, 1, 0, 0, 0)),
  (11, [(.aload_n 0, 1, 0, 0, 0), (.getfield 10, 3, 2, 0, 0), (.getfield 111, 3, 0, 8, 0), (.iconst 1, 1, 1, 0, 0), (.iadd, 1, 0, 0, 0), (.istore_n 2, 1, 0, 0, 0), (.aload_n 0, 1, 0, 0, 0), (.getfield 10, 3, 2, 0, 0), (.iload_n 2, 1, 0, 0, 0), (.iconst 0, 1, 0, 0, 0), (.iconst 0, 1, 0, 0, 0)], some (.invokevirtual 179, 3, 28, 4, 0)),
  (31, [(.istore_n 3, 1, 0, 0, 0), (.iload_n 1, 1, 0, 0, 0)], some (.ifCond .ne 5, 3, 0, 0, 0)),
  (36, [(.iload_n 3, 1, 0, 0, 0)], some (.ireturn, 1, 0, 0, 0)),
  (38, [(.iload_n 1, 1, 0, 0, 0), (.iconst 1, 1, 1, 0, 0)], some (.if_icmp .ne 13, 3, 0, 0, 0)),
  (43, [(.aload_n 0, 1, 0, 0, 0), (.getfield 10, 3, 2, 0, 0), (.iload_n 3, 1, 0, 0, 0), (.iload_n 2, 1, 0, 0, 0)], some (.invokevirtual 114, 3, 23, 3, 0)),
  (52, [], some (.ireturn, 1, 0, 0, 0)),
  (53, [(.aload_n 0, 1, 0, 0, 0), (.getfield 10, 3, 2, 0, 0), (.iload_n 3, 1, 0, 0, 0), (.iconst 0, 1, 0, 0, 0)], some (.invokevirtual 183, 3, 25, 3, 0)),
  (62, [], some (.invokestatic 187, 3, 26, 1, 0)),
  (65, [], some (.ireturn, 1, 0, 0, 0))]
def iX3_next : MI := (yX3_next, cX3_next, 4, (some .int), 2, 2, bX3_next)
abbrev jX3_heard : Nat := 65
def bX3_heard : List Blk := [(0, [(.aload_n 0, 1, 0, 0, 0), (.getfield 10, 3, 2, 0, 0), (.iload_n 1, 1, 0, 0, 0)], some (.invokevirtual 87, 3, 1, 2, 0)),
  (8, [], some (.ifCond .ne 5, 3, 0, 0, 0)),
  (11, [(.iconst (-1), 1, 1, 1, 0)], some (.ireturn, 1, 0, 0, 0)),
  (13, [(.aload_n 0, 1, 0, 0, 0), (.getfield 10, 3, 2, 0, 0), (.iload_n 1, 1, 0, 0, 0)], some (.invokevirtual 172, 3, 2, 2, 0)),
  (21, [], some (.ifCond .eq 15, 3, 0, 0, 0)),
  (24, [(.aload_n 0, 1, 0, 0, 0), (.getfield 10, 3, 2, 0, 0), (.iload_n 1, 1, 0, 0, 0), (.iconst 0, 1, 0, 0, 0)], some (.invokevirtual 183, 3, 25, 3, 0)),
  (33, [], some (.goto 5, 3, 0, 0, 0)),
  (36, [(.bipush (-3), 2, 3, 1, 0)], none),
  (38, [], some (.ireturn, 1, 0, 0, 0))]
def iX3_heard : MI := (yX3_heard, cX3_heard, 2, (some .int), 2, 2, bX3_heard)
abbrev jX3_danger : Nat := 66
def bX3_danger : List Blk := [(0, [(.iload_n 1, 1, 0, 0, 0)], some (.invokestatic 123, 3, 9, 1, 0)),
  (4, [], some (.ifCond .ne 5, 3, 0, 0, 0)),
  (7, [(.iconst (-1), 1, 1, 1, 0)], some (.ireturn, 1, 0, 0, 0)),
  (9, [(.iconst 0, 1, 0, 0, 0), (.istore_n 2, 1, 0, 0, 0), (.iconst 0, 1, 0, 0, 0), (.istore_n 3, 1, 0, 0, 0)], none),
  (13, [(.iload_n 3, 1, 0, 0, 0), (.aload_n 0, 1, 0, 0, 0), (.getfield 10, 3, 2, 0, 0), (.getfield 126, 3, 0, 5, 0)], some (.if_icmp .ge 75, 3, 0, 0, 0)),
  (24, [(.aload_n 0, 1, 0, 0, 0), (.getfield 10, 3, 2, 0, 0), (.iload_n 3, 1, 0, 0, 0), (.iconst 1, 1, 1, 0, 0), (.iload_n 1, 1, 0, 0, 0), (.isub, 1, 0, 0, 0)], some (.invokevirtual 192, 3, 3, 3, 0)),
  (35, [], some (.ifCond .eq 23, 3, 0, 0, 0)),
  (38, [(.aload_n 0, 1, 0, 0, 0), (.getfield 10, 3, 2, 0, 0), (.iload_n 3, 1, 0, 0, 0), (.aload_n 0, 1, 0, 0, 0), (.getfield 10, 3, 2, 0, 0), (.getfield 111, 3, 0, 8, 0), (.iconst 1, 1, 1, 0, 0), (.iadd, 1, 0, 0, 0)], some (.invokevirtual 114, 3, 23, 3, 0)),
  (55, [], some (.goto 5, 3, 0, 0, 0)),
  (58, [(.bipush (-4), 2, 4, 1, 0)], none),
  (60, [(.istore 4, 2, 0, 0, 0), (.aload_n 0, 1, 0, 0, 0), (.getfield 10, 3, 2, 0, 0), (.iload 4, 2, 0, 0, 0), (.iload_n 1, 1, 0, 0, 0)], some (.invokevirtual 195, 3, 6, 3, 0)),
  (72, [], some (.ifCond .eq 18, 3, 0, 0, 0)),
  (75, [(.iload_n 2, 1, 0, 0, 0), (.iconst 1, 1, 1, 0, 0), (.aload_n 0, 1, 0, 0, 0), (.getfield 10, 3, 2, 0, 0), (.getfield 120, 3, 0, 4, 0), (.iload 4, 2, 0, 0, 0), (.iaload, 1, 0, 0, 0), (.ishl, 1, 0, 0, 0), (.ior, 1, 0, 0, 0), (.istore_n 2, 1, 0, 0, 0)], none),
  (90, [(.iinc 3 1, 3, 1, 0, 0)], some (.goto (-80), 3, 0, 0, 0)),
  (96, [(.iload_n 2, 1, 0, 0, 0)], some (.ireturn, 1, 0, 0, 0))]
def iX3_danger : MI := (yX3_danger, cX3_danger, 5, (some .int), 2, 2, bX3_danger)
abbrev jX3_placeInMind : Nat := 67
def bX3_placeInMind : List Blk := [(0, [(.aload_n 0, 1, 0, 0, 0), (.getfield 33, 3, 2, 5, 0), (.aload_n 0, 1, 0, 0, 0), (.getfield 10, 3, 2, 0, 0)], some (.invokevirtual 66, 3, 0, 2, 0)),
  (11, [(.aload_n 0, 1, 0, 0, 0), (.getfield 33, 3, 2, 5, 0), (.iload_n 1, 1, 0, 0, 0), (.iload_n 2, 1, 0, 0, 0)], some (.invokevirtual 137, 3, 13, 3, 0)),
  (20, [], some (.ireturn, 1, 1, 0, 0))]
def iX3_placeInMind : MI := (yX3_placeInMind, cX3_placeInMind, 3, (some .boolean), 2, 3, bX3_placeInMind)
abbrev jX3_stand : Nat := 68
def bX3_stand : List Blk := [(0, [(.aload_n 0, 1, 0, 0, 0), (.getfield 10, 3, 2, 0, 0), (.iload_n 1, 1, 0, 0, 0)], some (.invokevirtual 87, 3, 1, 2, 0)),
  (8, [], some (.ifCond .eq 22, 3, 0, 0, 0)),
  (11, [(.iload_n 2, 1, 0, 0, 0)], some (.ifCond .lt 18, 3, 0, 0, 0)),
  (15, [(.iload_n 2, 1, 0, 0, 0), (.bipush 20, 2, 20, 0, 0)], some (.if_icmp .gt 12, 3, 0, 0, 0)),
  (21, [(.iload_n 3, 1, 0, 0, 0)], some (.ifCond .lt 8, 3, 0, 0, 0)),
  (25, [(.iload_n 3, 1, 0, 0, 0), (.iconst 1, 1, 1, 0, 0)], some (.if_icmp .le 5, 3, 0, 0, 0)),
  (30, [(.iconst (-1), 1, 1, 1, 0)], some (.ireturn, 1, 0, 0, 0)),
  (32, [(.aload_n 0, 1, 0, 0, 0), (.getfield 10, 3, 2, 0, 0), (.iload_n 1, 1, 0, 0, 0)], some (.invokevirtual 172, 3, 2, 2, 0)),
  (40, [], some (.ifCond .ne 6, 3, 0, 0, 0)),
  (43, [(.bipush (-3), 2, 3, 1, 0)], some (.ireturn, 1, 0, 0, 0)),
  (46, [(.bipush (-4), 2, 4, 1, 0), (.istore 4, 2, 0, 0, 0), (.iconst 0, 1, 0, 0, 0), (.istore 5, 2, 0, 0, 0), (.iconst 0, 1, 0, 0, 0), (.istore 6, 2, 0, 0, 0)], none),
  (56, [(.iload 6, 2, 0, 0, 0), (.bipush 36, 2, 36, 0, 0)], some (.if_icmp .ge 86, 3, 0, 0, 0)),
  (63, [(.aload_n 0, 1, 0, 0, 0), (.iload_n 1, 1, 0, 0, 0), (.iload 6, 2, 0, 0, 0)], some (.invokevirtual 198, 3, 67, 3, 2)),
  (70, [], some (.ifCond .eq 70, 3, 0, 0, 0)),
  (73, [(.aload_n 0, 1, 0, 0, 0), (.getfield 33, 3, 2, 5, 0), (.iload_n 2, 1, 0, 0, 0)], some (.invokevirtual 201, 3, 31, 2, 0)),
  (81, [(.aload_n 0, 1, 0, 0, 0), (.getfield 33, 3, 2, 5, 0), (.aload_n 0, 1, 0, 0, 0), (.getfield 10, 3, 2, 0, 0), (.getfield 97, 3, 0, 2, 0), (.iload_n 1, 1, 0, 0, 0), (.iaload, 1, 0, 0, 0)], some (.invokevirtual 166, 3, 35, 2, 0)),
  (97, [(.aload_n 0, 1, 0, 0, 0), (.getfield 33, 3, 2, 5, 0), (.iconst 1, 1, 1, 0, 0), (.aload_n 0, 1, 0, 0, 0), (.getfield 10, 3, 2, 0, 0), (.getfield 97, 3, 0, 2, 0), (.iload_n 1, 1, 0, 0, 0), (.iaload, 1, 0, 0, 0), (.isub, 1, 0, 0, 0)], some (.invokevirtual 166, 3, 35, 2, 0)),
  (115, [(.isub, 1, 0, 0, 0), (.istore 7, 2, 0, 0, 0), (.iload 4, 2, 0, 0, 0), (.bipush (-4), 2, 4, 1, 0)], some (.if_icmp .eq 10, 3, 0, 0, 0)),
  (125, [(.iload 7, 2, 0, 0, 0), (.iload 5, 2, 0, 0, 0)], some (.if_icmp .le 11, 3, 0, 0, 0)),
  (132, [(.iload 6, 2, 0, 0, 0), (.istore 4, 2, 0, 0, 0), (.iload 7, 2, 0, 0, 0), (.istore 5, 2, 0, 0, 0)], none),
  (140, [(.iinc 6 1, 3, 1, 0, 0)], some (.goto (-87), 3, 0, 0, 0)),
  (146, [(.iload_n 3, 1, 0, 0, 0)], some (.ifCond .ne 8, 3, 0, 0, 0)),
  (150, [(.iload 4, 2, 0, 0, 0)], some (.goto 8, 3, 0, 0, 0)),
  (155, [(.iload 5, 2, 0, 0, 0), (.bipush 100, 2, 100, 0, 0), (.iadd, 1, 0, 0, 0)], none),
  (160, [], some (.ireturn, 1, 0, 0, 0))]
def iX3_stand : MI := (yX3_stand, cX3_stand, 8, (some .int), 2, 4, bX3_stand)
abbrev jX3_off : Nat := 69
def bX3_off : List Blk := [(0, [(.iload_n 1, 1, 0, 0, 0)], some (.ifCond .lt 9, 3, 0, 0, 0)),
  (4, [(.iload_n 1, 1, 0, 0, 0), (.bipush 30, 2, 30, 0, 0)], some (.if_icmp .le 5, 3, 0, 0, 0)),
  (10, [(.iconst (-1), 1, 1, 1, 0)], some (.ireturn, 1, 0, 0, 0)),
  (12, [(.aload_n 0, 1, 0, 0, 0), (.getfield 36, 3, 2, 6, 0), (.aload_n 0, 1, 0, 0, 0), (.getfield 10, 3, 2, 0, 0)], some (.invokevirtual 66, 3, 0, 2, 0)),
  (23, [(.aload_n 0, 1, 0, 0, 0), (.getfield 36, 3, 2, 6, 0), (.iload_n 1, 1, 0, 0, 0)], some (.invokevirtual 201, 3, 31, 2, 0)),
  (31, [(.bipush (-4), 2, 4, 1, 0), (.istore_n 2, 1, 0, 0, 0), (.iconst 0, 1, 0, 0, 0), (.istore_n 3, 1, 0, 0, 0), (.iconst 0, 1, 0, 0, 0), (.istore 4, 2, 0, 0, 0)], none),
  (39, [(.iload 4, 2, 0, 0, 0), (.aload_n 0, 1, 0, 0, 0), (.getfield 10, 3, 2, 0, 0), (.getfield 126, 3, 0, 5, 0)], some (.if_icmp .ge 77, 3, 0, 0, 0)),
  (51, [(.aload_n 0, 1, 0, 0, 0), (.getfield 33, 3, 2, 5, 0), (.aload_n 0, 1, 0, 0, 0), (.getfield 10, 3, 2, 0, 0)], some (.invokevirtual 66, 3, 0, 2, 0)),
  (62, [(.aload_n 0, 1, 0, 0, 0), (.getfield 33, 3, 2, 5, 0), (.iload 4, 2, 0, 0, 0)], some (.invokevirtual 141, 3, 12, 2, 0)),
  (71, [], some (.ifCond .eq 48, 3, 0, 0, 0)),
  (74, [(.aload_n 0, 1, 0, 0, 0), (.getfield 33, 3, 2, 5, 0), (.iload_n 1, 1, 0, 0, 0)], some (.invokevirtual 201, 3, 31, 2, 0)),
  (82, [(.aload_n 0, 1, 0, 0, 0), (.getfield 33, 3, 2, 5, 0), (.iload 4, 2, 0, 0, 0)], some (.invokevirtual 204, 3, 36, 2, 0)),
  (91, [(.istore 5, 2, 0, 0, 0), (.iload 5, 2, 0, 0, 0), (.aload_n 0, 1, 0, 0, 0), (.getfield 36, 3, 2, 6, 0), (.iload 4, 2, 0, 0, 0)], some (.invokevirtual 204, 3, 36, 2, 0)),
  (104, [], some (.if_icmp .le 15, 3, 0, 0, 0)),
  (107, [(.iload 5, 2, 0, 0, 0), (.iload_n 3, 1, 0, 0, 0)], some (.if_icmp .le 9, 3, 0, 0, 0)),
  (113, [(.iload 4, 2, 0, 0, 0), (.istore_n 2, 1, 0, 0, 0), (.iload 5, 2, 0, 0, 0), (.istore_n 3, 1, 0, 0, 0)], none),
  (119, [(.iinc 4 1, 3, 1, 0, 0)], some (.goto (-83), 3, 0, 0, 0)),
  (125, [(.iload_n 2, 1, 0, 0, 0)], some (.ireturn, 1, 0, 0, 0))]
def iX3_off : MI := (yX3_off, cX3_off, 6, (some .int), 2, 2, bX3_off)
abbrev jX3_side : Nat := 70
def bX3_side : List Blk := [(0, [(.iload_n 1, 1, 0, 0, 0)], some (.invokestatic 123, 3, 9, 1, 0)),
  (4, [], some (.ifCond .ne 5, 3, 0, 0, 0)),
  (7, [(.iconst (-1), 1, 1, 1, 0)], some (.ireturn, 1, 0, 0, 0)),
  (9, [(.iload_n 2, 1, 0, 0, 0)], some (.tableswitch 66 0 3 #[30, 39, 48, 57], 30, 0, 0, 0)),
  (40, [(.aload_n 0, 1, 0, 0, 0), (.getfield 10, 3, 2, 0, 0), (.iload_n 1, 1, 0, 0, 0)], some (.invokevirtual 213, 3, 38, 2, 0)),
  (48, [], some (.ireturn, 1, 0, 0, 0)),
  (49, [(.aload_n 0, 1, 0, 0, 0), (.getfield 10, 3, 2, 0, 0), (.iload_n 1, 1, 0, 0, 0)], some (.invokevirtual 166, 3, 35, 2, 0)),
  (57, [], some (.ireturn, 1, 0, 0, 0)),
  (58, [(.aload_n 0, 1, 0, 0, 0), (.getfield 10, 3, 2, 0, 0), (.iload_n 1, 1, 0, 0, 0)], some (.invokevirtual 216, 3, 39, 2, 0)),
  (66, [], some (.ireturn, 1, 0, 0, 0)),
  (67, [(.aload_n 0, 1, 0, 0, 0), (.getfield 10, 3, 2, 0, 0), (.iload_n 1, 1, 0, 0, 0)], some (.invokevirtual 219, 3, 27, 2, 0)),
  (75, [], some (.ireturn, 1, 0, 0, 0)),
  (76, [(.iconst (-1), 1, 1, 1, 0)], some (.ireturn, 1, 0, 0, 0))]
def iX3_side : MI := (yX3_side, cX3_side, 3, (some .int), 2, 3, bX3_side)
abbrev jX3_free : Nat := 71
def bX3_free : List Blk := [(0, [(.iload_n 1, 1, 0, 0, 0)], some (.tableswitch 63 0 2 #[27, 38, 46], 27, 0, 0, 0)),
  (28, [(.bipush 36, 2, 36, 0, 0), (.aload_n 0, 1, 0, 0, 0), (.getfield 10, 3, 2, 0, 0)], some (.invokevirtual 153, 3, 32, 1, 0)),
  (37, [(.isub, 1, 0, 0, 0)], some (.ireturn, 1, 0, 0, 0)),
  (39, [(.aload_n 0, 1, 0, 0, 0), (.getfield 10, 3, 2, 0, 0)], some (.invokevirtual 222, 3, 40, 1, 0)),
  (46, [], some (.ireturn, 1, 0, 0, 0)),
  (47, [(.aload_n 0, 1, 0, 0, 0), (.getfield 10, 3, 2, 0, 0), (.aload_n 0, 1, 0, 0, 0), (.getfield 10, 3, 2, 0, 0), (.getfield 111, 3, 0, 8, 0), (.iconst 1, 1, 1, 0, 0), (.iadd, 1, 0, 0, 0)], some (.invokevirtual 225, 3, 41, 2, 0)),
  (63, [], some (.ireturn, 1, 0, 0, 0)),
  (64, [(.iconst (-1), 1, 1, 1, 0)], some (.ireturn, 1, 0, 0, 0))]
def iX3_free : MI := (yX3_free, cX3_free, 2, (some .int), 2, 2, bX3_free)
abbrev jX3_image : Nat := 72
def bX3_image : List Blk := [(0, [(.aload_n 0, 1, 0, 0, 0), (.getfield 16, 3, 2, 1, 0), (.aload_n 0, 1, 0, 0, 0), (.getfield 10, 3, 2, 0, 0)], some (.invokevirtual 66, 3, 0, 2, 0)),
  (11, [(.aload_n 0, 1, 0, 0, 0), (.iconst 1, 1, 1, 0, 0), (.putfield 19, 3, 2, 2, 0), (.aload_n 0, 1, 0, 0, 0), (.getfield 10, 3, 2, 0, 0), (.getfield 111, 3, 0, 8, 0)], some (.ireturn, 1, 0, 0, 0))]
def iX3_image : MI := (yX3_image, cX3_image, 1, (some .int), 2, 1, bX3_image)
abbrev jX3_restore : Nat := 73
def bX3_restore : List Blk := [(0, [(.aload_n 0, 1, 0, 0, 0), (.getfield 19, 3, 2, 2, 0)], some (.ifCond .ne 6, 3, 0, 0, 0)),
  (7, [(.bipush (-3), 2, 3, 1, 0)], some (.ireturn, 1, 0, 0, 0)),
  (10, [(.aload_n 0, 1, 0, 0, 0), (.getfield 10, 3, 2, 0, 0), (.aload_n 0, 1, 0, 0, 0), (.getfield 16, 3, 2, 1, 0)], some (.invokevirtual 66, 3, 0, 2, 0)),
  (21, [(.aload_n 0, 1, 0, 0, 0), (.getfield 10, 3, 2, 0, 0), (.getfield 111, 3, 0, 8, 0)], some (.ireturn, 1, 0, 0, 0))]
def iX3_restore : MI := (yX3_restore, cX3_restore, 1, (some .int), 2, 1, bX3_restore)
abbrev jX3_count : Nat := 74
def bX3_count : List Blk := [(0, [(.iload_n 1, 1, 0, 0, 0)], some (.tableswitch 75 0 4 #[35, 43, 51, 59, 67], 35, 0, 0, 0)),
  (36, [(.aload_n 0, 1, 0, 0, 0), (.getfield 10, 3, 2, 0, 0), (.getfield 126, 3, 0, 5, 0)], some (.ireturn, 1, 0, 0, 0)),
  (44, [(.aload_n 0, 1, 0, 0, 0), (.getfield 10, 3, 2, 0, 0), (.getfield 111, 3, 0, 8, 0)], some (.ireturn, 1, 0, 0, 0)),
  (52, [(.aload_n 0, 1, 0, 0, 0), (.getfield 10, 3, 2, 0, 0), (.getfield 144, 3, 0, 6, 0)], some (.ireturn, 1, 0, 0, 0)),
  (60, [(.aload_n 0, 1, 0, 0, 0), (.getfield 10, 3, 2, 0, 0), (.getfield 163, 3, 0, 7, 0)], some (.ireturn, 1, 0, 0, 0)),
  (68, [(.aload_n 0, 1, 0, 0, 0), (.getfield 10, 3, 2, 0, 0)], some (.invokevirtual 160, 3, 33, 1, 0)),
  (75, [], some (.ireturn, 1, 0, 0, 0)),
  (76, [(.iconst (-1), 1, 1, 1, 0)], some (.ireturn, 1, 0, 0, 0))]
def iX3_count : MI := (yX3_count, cX3_count, 2, (some .int), 2, 2, bX3_count)
abbrev jX3_keep : Nat := 75
def bX3_keep : List Blk := [(0, [(.aload_n 0, 1, 0, 0, 0), (.iload_n 1, 1, 0, 0, 0)], some (.invokevirtual 51, 3, 48, 2, 2)),
  (5, [(.astore 5, 2, 0, 0, 0), (.aload 5, 2, 0, 0, 0)], some (.ifnull 12, 3, 0, 0, 0)),
  (12, [(.iload_n 2, 1, 0, 0, 0)], some (.ifCond .lt 8, 3, 0, 0, 0)),
  (16, [(.iload_n 2, 1, 0, 0, 0), (.iconst 1, 1, 1, 0, 0)], some (.if_icmp .le 5, 3, 0, 0, 0)),
  (21, [(.iconst (-1), 1, 1, 1, 0)], some (.ireturn, 1, 0, 0, 0)),
  (23, [(.iload_n 2, 1, 0, 0, 0)], some (.ifCond .ne 11, 3, 0, 0, 0)),
  (27, [(.aload 5, 2, 0, 0, 0), (.iconst 0, 1, 0, 0, 0), (.putfield 261, 3, 1, 0, 0), (.iconst 0, 1, 0, 0, 0)], some (.ireturn, 1, 0, 0, 0)),
  (35, [(.iload_n 3, 1, 0, 0, 0)], some (.invokestatic 264, 3, 7, 1, 0)),
  (39, [], some (.ifCond .eq 11, 3, 0, 0, 0)),
  (42, [(.iload 4, 2, 0, 0, 0)], some (.invokestatic 267, 3, 8, 1, 0)),
  (47, [], some (.ifCond .ne 5, 3, 0, 0, 0)),
  (50, [(.iconst (-1), 1, 1, 1, 0)], some (.ireturn, 1, 0, 0, 0)),
  (52, [(.aload 5, 2, 0, 0, 0), (.iconst 1, 1, 1, 0, 0), (.putfield 261, 3, 1, 0, 0), (.aload 5, 2, 0, 0, 0), (.iload_n 3, 1, 0, 0, 0), (.putfield 129, 3, 1, 1, 0), (.aload 5, 2, 0, 0, 0), (.iload 4, 2, 0, 0, 0), (.putfield 131, 3, 1, 2, 0), (.iconst 0, 1, 0, 0, 0)], some (.ireturn, 1, 0, 0, 0))]
def iX3_keep : MI := (yX3_keep, cX3_keep, 6, (some .int), 2, 5, bX3_keep)
abbrev jJ7_fill_53178 : Nat := 76
def bJ7_fill_53178 : List Blk := [(0, [(.iconst 0, 1, 0, 0, 0), (.istore_n 2, 1, 0, 0, 0), (.aload_n 0, 1, 0, 0, 0), (.arraylength, 1, 0, 0, 0), (.istore_n 3, 1, 0, 0, 0)], none),
  (5, [(.iload_n 2, 1, 0, 0, 0), (.iload_n 3, 1, 0, 0, 0)], some (.if_icmp .ge 13, 3, 0, 0, 0)),
  (10, [(.aload_n 0, 1, 0, 0, 0), (.iload_n 2, 1, 0, 0, 0), (.iload_n 1, 1, 0, 0, 0), (.iastore, 1, 0, 0, 0), (.iinc 2 1, 3, 1, 0, 0)], some (.goto (-12), 3, 0, 0, 0)),
  (20, [], some (.return_, 1, 0, 0, 0))]
def iJ7_fill_53178 : MI := (yJ7_fill_53178, cJ7_fill_53178, 4, none, 7, 2, bJ7_fill_53178)
abbrev jL_cell : Nat := 77
def bL_cell : List Blk := [(0, [(.ldc 7, 2, 69069, 0, 0), (.iload_n 1, 1, 0, 0, 0), (.aload_n 0, 1, 0, 0, 0), (.arraylength, 1, 0, 0, 0)], some (.if_icmp .ge 9, 3, 0, 0, 0)),
  (8, [(.aload_n 0, 1, 0, 0, 0), (.iload_n 1, 1, 0, 0, 0), (.iaload, 1, 0, 0, 0)], some (.goto 4, 3, 0, 0, 0)),
  (14, [(.iconst 0, 1, 0, 0, 0)], none),
  (15, [(.sipush 1009, 3, 1009, 0, 0), (.iload_n 1, 1, 0, 0, 0), (.imul, 1, 0, 0, 0), (.iadd, 1, 0, 0, 0), (.imul, 1, 0, 0, 0), (.sipush 12345, 3, 12345, 0, 0), (.iadd, 1, 0, 0, 0), (.istore_n 2, 1, 0, 0, 0), (.iload_n 2, 1, 0, 0, 0), (.iload_n 2, 1, 0, 0, 0), (.bipush 13, 2, 13, 0, 0), (.iushr, 1, 0, 0, 0), (.ixor, 1, 0, 0, 0), (.ldc 8, 2, 1103515245, 0, 0), (.imul, 1, 0, 0, 0), (.istore_n 2, 1, 0, 0, 0), (.iload_n 2, 1, 0, 0, 0), (.iload_n 2, 1, 0, 0, 0), (.bipush 16, 2, 16, 0, 0), (.iushr, 1, 0, 0, 0), (.ixor, 1, 0, 0, 0)], some (.ireturn, 1, 0, 0, 0))]
def iL_cell : MI := (yL_cell, cL_cell, 3, (some .int), 8, 2, bL_cell)
abbrev jL_at : Nat := 78
def bL_at : List Blk := [(0, [(.iconst (-1), 1, 1, 1, 0), (.istore_n 2, 1, 0, 0, 0), (.iconst 0, 1, 0, 0, 0), (.istore_n 3, 1, 0, 0, 0)], none),
  (4, [(.iload_n 3, 1, 0, 0, 0), (.aload_n 0, 1, 0, 0, 0), (.bipush 20, 2, 20, 0, 0), (.iaload, 1, 0, 0, 0)], some (.if_icmp .ge 25, 3, 0, 0, 0)),
  (12, [(.aload_n 0, 1, 0, 0, 0), (.bipush 10, 2, 10, 0, 0), (.iload_n 3, 1, 0, 0, 0), (.iadd, 1, 0, 0, 0), (.iaload, 1, 0, 0, 0), (.iload_n 1, 1, 0, 0, 0)], some (.if_icmp .ne 7, 3, 0, 0, 0)),
  (22, [(.iload_n 3, 1, 0, 0, 0)], some (.goto 4, 3, 0, 0, 0)),
  (26, [(.iload_n 2, 1, 0, 0, 0)], none),
  (27, [(.istore_n 2, 1, 0, 0, 0), (.iinc 3 1, 3, 1, 0, 0)], some (.goto (-27), 3, 0, 0, 0)),
  (34, [(.iload_n 2, 1, 0, 0, 0)], some (.ireturn, 1, 0, 0, 0))]
def iL_at : MI := (yL_at, cL_at, 4, (some .int), 8, 2, bL_at)
abbrev jL_on : Nat := 79
def bL_on : List Blk := [(0, [(.iload_n 0, 1, 0, 0, 0), (.bipush 6, 2, 6, 0, 0), (.idiv, 1, 0, 0, 0), (.iload_n 1, 1, 0, 0, 0), (.iadd, 1, 0, 0, 0), (.istore_n 3, 1, 0, 0, 0), (.iload_n 0, 1, 0, 0, 0), (.bipush 6, 2, 6, 0, 0), (.irem, 1, 0, 0, 0), (.iload_n 2, 1, 0, 0, 0), (.iadd, 1, 0, 0, 0), (.istore 4, 2, 0, 0, 0), (.iload_n 3, 1, 0, 0, 0)], some (.ifCond .lt 19, 3, 0, 0, 0)),
  (19, [(.iload_n 3, 1, 0, 0, 0), (.iconst 5, 1, 5, 0, 0)], some (.if_icmp .gt 14, 3, 0, 0, 0)),
  (24, [(.iload 4, 2, 0, 0, 0)], some (.ifCond .lt 9, 3, 0, 0, 0)),
  (29, [(.iload 4, 2, 0, 0, 0), (.iconst 5, 1, 5, 0, 0)], some (.if_icmp .le 8, 3, 0, 0, 0)),
  (35, [(.bipush (-9), 2, 9, 1, 0)], some (.goto 10, 3, 0, 0, 0)),
  (40, [(.bipush 6, 2, 6, 0, 0), (.iload_n 3, 1, 0, 0, 0), (.imul, 1, 0, 0, 0), (.iload 4, 2, 0, 0, 0), (.iadd, 1, 0, 0, 0)], none),
  (47, [], some (.ireturn, 1, 0, 0, 0))]
def iL_on : MI := (yL_on, cL_on, 5, (some .int), 8, 3, bL_on)
abbrev jL_what : Nat := 80
def bL_what : List Blk := [(0, [(.iload_n 1, 1, 0, 0, 0)], some (.ifCond .ge 7, 3, 0, 0, 0)),
  (4, [(.iconst (-1), 1, 1, 1, 0)], some (.goto 8, 3, 0, 0, 0)),
  (8, [(.aload_n 0, 1, 0, 0, 0), (.iload_n 1, 1, 0, 0, 0)], some (.invokestatic 9, 3, 78, 2, 0)),
  (13, [(.istore_n 3, 1, 0, 0, 0), (.iload_n 1, 1, 0, 0, 0)], some (.ifCond .ge 7, 3, 0, 0, 0)),
  (18, [(.iconst 3, 1, 3, 0, 0)], some (.goto 26, 3, 0, 0, 0)),
  (22, [(.iload_n 3, 1, 0, 0, 0)], some (.ifCond .ge 7, 3, 0, 0, 0)),
  (26, [(.iconst 0, 1, 0, 0, 0)], some (.goto 18, 3, 0, 0, 0)),
  (30, [(.aload_n 0, 1, 0, 0, 0), (.iload_n 3, 1, 0, 0, 0), (.iaload, 1, 0, 0, 0), (.bipush 100, 2, 100, 0, 0), (.idiv, 1, 0, 0, 0), (.iload_n 2, 1, 0, 0, 0)], some (.if_icmp .ne 7, 3, 0, 0, 0)),
  (40, [(.iconst 1, 1, 1, 0, 0)], some (.goto 4, 3, 0, 0, 0)),
  (44, [(.iconst 2, 1, 2, 0, 0)], none),
  (45, [], some (.ireturn, 1, 0, 0, 0))]
def iL_what : MI := (yL_what, cL_what, 4, (some .int), 8, 3, bL_what)
abbrev jL_far : Nat := 81
def bL_far : List Blk := [(0, [(.iload_n 0, 1, 0, 0, 0), (.bipush 6, 2, 6, 0, 0), (.idiv, 1, 0, 0, 0), (.iload_n 1, 1, 0, 0, 0), (.bipush 6, 2, 6, 0, 0), (.idiv, 1, 0, 0, 0)], some (.if_icmp .ge 15, 3, 0, 0, 0)),
  (11, [(.iload_n 1, 1, 0, 0, 0), (.bipush 6, 2, 6, 0, 0), (.idiv, 1, 0, 0, 0), (.iload_n 0, 1, 0, 0, 0), (.bipush 6, 2, 6, 0, 0), (.idiv, 1, 0, 0, 0), (.isub, 1, 0, 0, 0)], some (.goto 12, 3, 0, 0, 0)),
  (23, [(.iload_n 0, 1, 0, 0, 0), (.bipush 6, 2, 6, 0, 0), (.idiv, 1, 0, 0, 0), (.iload_n 1, 1, 0, 0, 0), (.bipush 6, 2, 6, 0, 0), (.idiv, 1, 0, 0, 0), (.isub, 1, 0, 0, 0)], none),
  (32, [(.istore_n 2, 1, 0, 0, 0), (.iload_n 0, 1, 0, 0, 0), (.bipush 6, 2, 6, 0, 0), (.irem, 1, 0, 0, 0), (.iload_n 1, 1, 0, 0, 0), (.bipush 6, 2, 6, 0, 0), (.irem, 1, 0, 0, 0)], some (.if_icmp .ge 15, 3, 0, 0, 0)),
  (44, [(.iload_n 1, 1, 0, 0, 0), (.bipush 6, 2, 6, 0, 0), (.irem, 1, 0, 0, 0), (.iload_n 0, 1, 0, 0, 0), (.bipush 6, 2, 6, 0, 0), (.irem, 1, 0, 0, 0), (.isub, 1, 0, 0, 0)], some (.goto 12, 3, 0, 0, 0)),
  (56, [(.iload_n 0, 1, 0, 0, 0), (.bipush 6, 2, 6, 0, 0), (.irem, 1, 0, 0, 0), (.iload_n 1, 1, 0, 0, 0), (.bipush 6, 2, 6, 0, 0), (.irem, 1, 0, 0, 0), (.isub, 1, 0, 0, 0)], none),
  (65, [(.istore_n 3, 1, 0, 0, 0), (.iload_n 2, 1, 0, 0, 0), (.iload_n 3, 1, 0, 0, 0)], some (.if_icmp .ge 7, 3, 0, 0, 0)),
  (71, [(.iload_n 3, 1, 0, 0, 0)], some (.goto 4, 3, 0, 0, 0)),
  (75, [(.iload_n 2, 1, 0, 0, 0)], none),
  (76, [], some (.ireturn, 1, 0, 0, 0))]
def iL_far : MI := (yL_far, cL_far, 4, (some .int), 8, 2, bL_far)
abbrev jL_slide : Nat := 82
def bL_slide : List Blk := [(0, [(.aload_n 0, 1, 0, 0, 0), (.iload_n 1, 1, 0, 0, 0), (.iaload, 1, 0, 0, 0), (.bipush 100, 2, 100, 0, 0), (.idiv, 1, 0, 0, 0), (.istore 4, 2, 0, 0, 0), (.bipush (-4), 2, 4, 1, 0), (.istore 5, 2, 0, 0, 0), (.aload_n 0, 1, 0, 0, 0), (.bipush 10, 2, 10, 0, 0), (.iload_n 1, 1, 0, 0, 0), (.iadd, 1, 0, 0, 0), (.iaload, 1, 0, 0, 0), (.iload_n 2, 1, 0, 0, 0), (.iload_n 3, 1, 0, 0, 0)], some (.invokestatic 15, 3, 79, 3, 0)),
  (23, [(.istore 6, 2, 0, 0, 0)], none),
  (25, [(.aload_n 0, 1, 0, 0, 0), (.iload 6, 2, 0, 0, 0), (.iload 4, 2, 0, 0, 0)], some (.invokestatic 19, 3, 80, 3, 0)),
  (33, [], some (.ifCond .ne 19, 3, 0, 0, 0)),
  (36, [(.iload 6, 2, 0, 0, 0), (.istore 5, 2, 0, 0, 0), (.iload 6, 2, 0, 0, 0), (.iload_n 2, 1, 0, 0, 0), (.iload_n 3, 1, 0, 0, 0)], some (.invokestatic 15, 3, 79, 3, 0)),
  (47, [(.istore 6, 2, 0, 0, 0)], some (.goto (-24), 3, 0, 0, 0)),
  (52, [(.aload_n 0, 1, 0, 0, 0), (.iload 6, 2, 0, 0, 0), (.iload 4, 2, 0, 0, 0)], some (.invokestatic 19, 3, 80, 3, 0)),
  (60, [(.iconst 2, 1, 2, 0, 0)], some (.if_icmp .ne 8, 3, 0, 0, 0)),
  (64, [(.iload 6, 2, 0, 0, 0)], some (.goto 5, 3, 0, 0, 0)),
  (69, [(.iload 5, 2, 0, 0, 0)], none),
  (71, [], some (.ireturn, 1, 0, 0, 0))]
def iL_slide : MI := (yL_slide, cL_slide, 7, (some .int), 8, 4, bL_slide)
abbrev jL_idea : Nat := 83
def bL_idea : List Blk := [(0, [(.aload_n 0, 1, 0, 0, 0), (.bipush 10, 2, 10, 0, 0), (.iload_n 1, 1, 0, 0, 0), (.iadd, 1, 0, 0, 0), (.iaload, 1, 0, 0, 0), (.istore_n 3, 1, 0, 0, 0), (.aload_n 0, 1, 0, 0, 0), (.iload_n 1, 1, 0, 0, 0), (.iaload, 1, 0, 0, 0), (.bipush 10, 2, 10, 0, 0), (.irem, 1, 0, 0, 0), (.istore 4, 2, 0, 0, 0), (.aload_n 0, 1, 0, 0, 0), (.iload_n 1, 1, 0, 0, 0), (.iaload, 1, 0, 0, 0), (.bipush 100, 2, 100, 0, 0), (.idiv, 1, 0, 0, 0), (.istore 5, 2, 0, 0, 0), (.iload 5, 2, 0, 0, 0)], some (.ifCond .ne 7, 3, 0, 0, 0)),
  (28, [(.iconst 1, 1, 1, 0, 0)], some (.goto 4, 3, 0, 0, 0)),
  (32, [(.iconst (-1), 1, 1, 1, 0)], none),
  (33, [(.istore 6, 2, 0, 0, 0), (.iload_n 3, 1, 0, 0, 0)], some (.ifCond .lt 15, 3, 0, 0, 0)),
  (39, [(.aload_n 0, 1, 0, 0, 0), (.bipush 24, 2, 24, 0, 0), (.iaload, 1, 0, 0, 0), (.iload_n 1, 1, 0, 0, 0), (.ishr, 1, 0, 0, 0), (.iconst 1, 1, 1, 0, 0), (.iand, 1, 0, 0, 0), (.iconst 1, 1, 1, 0, 0)], some (.if_icmp .ne 6, 3, 0, 0, 0)),
  (51, [(.bipush (-4), 2, 4, 1, 0)], some (.ireturn, 1, 0, 0, 0)),
  (54, [(.iload 4, 2, 0, 0, 0), (.iconst 2, 1, 2, 0, 0)], some (.if_icmp .eq 16, 3, 0, 0, 0)),
  (60, [(.iload 4, 2, 0, 0, 0), (.iconst 4, 1, 4, 0, 0)], some (.if_icmp .eq 10, 3, 0, 0, 0)),
  (66, [(.iload 4, 2, 0, 0, 0), (.bipush 6, 2, 6, 0, 0)], some (.if_icmp .ne 37, 3, 0, 0, 0)),
  (73, [(.aload_n 0, 1, 0, 0, 0), (.iload_n 1, 1, 0, 0, 0), (.iload 6, 2, 0, 0, 0), (.iconst 0, 1, 0, 0, 0)], some (.invokestatic 23, 3, 82, 4, 0)),
  (81, [(.istore 7, 2, 0, 0, 0), (.iload 4, 2, 0, 0, 0), (.iconst 4, 1, 4, 0, 0)], some (.if_icmp .ne 18, 3, 0, 0, 0)),
  (89, [(.iload 7, 2, 0, 0, 0)], some (.ifCond .ge 13, 3, 0, 0, 0)),
  (94, [(.aload_n 0, 1, 0, 0, 0), (.iload_n 1, 1, 0, 0, 0), (.iconst 0, 1, 0, 0, 0), (.iconst 1, 1, 1, 0, 0)], some (.invokestatic 23, 3, 82, 4, 0)),
  (101, [], some (.goto 5, 3, 0, 0, 0)),
  (104, [(.iload 7, 2, 0, 0, 0)], none),
  (106, [], some (.ireturn, 1, 0, 0, 0)),
  (107, [(.iload_n 3, 1, 0, 0, 0), (.iload 4, 2, 0, 0, 0), (.iconst 1, 1, 1, 0, 0)], some (.if_icmp .ne 10, 3, 0, 0, 0)),
  (114, [(.iconst 2, 1, 2, 0, 0), (.iload 6, 2, 0, 0, 0), (.imul, 1, 0, 0, 0)], some (.goto 28, 3, 0, 0, 0)),
  (121, [(.iload 4, 2, 0, 0, 0), (.iconst 5, 1, 5, 0, 0)], some (.if_icmp .ne 9, 3, 0, 0, 0)),
  (127, [(.iload 6, 2, 0, 0, 0), (.ineg, 1, 0, 0, 0)], some (.goto 16, 3, 0, 0, 0)),
  (133, [(.iload 4, 2, 0, 0, 0), (.bipush 7, 2, 7, 0, 0)], some (.if_icmp .ne 7, 3, 0, 0, 0)),
  (140, [(.iconst 0, 1, 0, 0, 0)], some (.goto 5, 3, 0, 0, 0)),
  (144, [(.iload 6, 2, 0, 0, 0)], none),
  (146, [(.iload 4, 2, 0, 0, 0), (.iconst 1, 1, 1, 0, 0)], some (.if_icmp .ne 7, 3, 0, 0, 0)),
  (152, [(.iconst 1, 1, 1, 0, 0)], some (.goto 15, 3, 0, 0, 0)),
  (156, [(.iload 4, 2, 0, 0, 0), (.bipush 7, 2, 7, 0, 0)], some (.if_icmp .ne 7, 3, 0, 0, 0)),
  (163, [(.iconst (-1), 1, 1, 1, 0)], some (.goto 4, 3, 0, 0, 0)),
  (167, [(.iconst 0, 1, 0, 0, 0)], none),
  (168, [], some (.invokestatic 15, 3, 79, 3, 0)),
  (171, [(.istore 7, 2, 0, 0, 0), (.iload_n 3, 1, 0, 0, 0), (.iload 4, 2, 0, 0, 0), (.iconst 1, 1, 1, 0, 0)], some (.if_icmp .ne 10, 3, 0, 0, 0)),
  (180, [(.iconst 2, 1, 2, 0, 0), (.iload 6, 2, 0, 0, 0), (.imul, 1, 0, 0, 0)], some (.goto 5, 3, 0, 0, 0)),
  (187, [(.iload 6, 2, 0, 0, 0)], none),
  (189, [(.iload 4, 2, 0, 0, 0), (.iconst 1, 1, 1, 0, 0)], some (.if_icmp .ne 7, 3, 0, 0, 0)),
  (195, [(.iconst (-1), 1, 1, 1, 0)], some (.goto 4, 3, 0, 0, 0)),
  (199, [(.iconst 1, 1, 1, 0, 0)], none),
  (200, [], some (.invokestatic 15, 3, 79, 3, 0)),
  (203, [(.istore 8, 2, 0, 0, 0), (.aload_n 0, 1, 0, 0, 0), (.iload 7, 2, 0, 0, 0), (.iload 5, 2, 0, 0, 0)], some (.invokestatic 19, 3, 80, 3, 0)),
  (213, [(.istore 9, 2, 0, 0, 0), (.aload_n 0, 1, 0, 0, 0), (.iload 8, 2, 0, 0, 0), (.iload 5, 2, 0, 0, 0)], some (.invokestatic 19, 3, 80, 3, 0)),
  (223, [(.istore 10, 2, 0, 0, 0), (.iload 4, 2, 0, 0, 0)], some (.ifCond .ne 27, 3, 0, 0, 0)),
  (230, [(.iload 9, 2, 0, 0, 0)], some (.ifCond .ne 8, 3, 0, 0, 0)),
  (235, [(.iload 7, 2, 0, 0, 0)], some (.goto 16, 3, 0, 0, 0)),
  (240, [(.iload 10, 2, 0, 0, 0), (.iconst 2, 1, 2, 0, 0)], some (.if_icmp .ne 8, 3, 0, 0, 0)),
  (246, [(.iload 8, 2, 0, 0, 0)], some (.goto 5, 3, 0, 0, 0)),
  (251, [(.bipush (-4), 2, 4, 1, 0)], none),
  (253, [], some (.ireturn, 1, 0, 0, 0)),
  (254, [(.iload 4, 2, 0, 0, 0), (.iconst 1, 1, 1, 0, 0)], some (.if_icmp .ne 30, 3, 0, 0, 0)),
  (260, [(.iload 9, 2, 0, 0, 0), (.iconst 2, 1, 2, 0, 0), (.irem, 1, 0, 0, 0)], some (.ifCond .ne 8, 3, 0, 0, 0)),
  (267, [(.iload 7, 2, 0, 0, 0)], some (.goto 17, 3, 0, 0, 0)),
  (272, [(.iload 10, 2, 0, 0, 0), (.iconst 2, 1, 2, 0, 0), (.irem, 1, 0, 0, 0)], some (.ifCond .ne 8, 3, 0, 0, 0)),
  (279, [(.iload 8, 2, 0, 0, 0)], some (.goto 5, 3, 0, 0, 0)),
  (284, [(.bipush (-4), 2, 4, 1, 0)], none),
  (286, [], some (.ireturn, 1, 0, 0, 0)),
  (287, [(.iload 4, 2, 0, 0, 0), (.iconst 5, 1, 5, 0, 0)], some (.if_icmp .ne 89, 3, 0, 0, 0)),
  (293, [(.iconst 0, 1, 0, 0, 0), (.istore 11, 2, 0, 0, 0), (.iconst 0, 1, 0, 0, 0), (.istore 12, 2, 0, 0, 0)], none),
  (299, [(.iload 12, 2, 0, 0, 0), (.aload_n 0, 1, 0, 0, 0), (.bipush 20, 2, 20, 0, 0), (.iaload, 1, 0, 0, 0)], some (.if_icmp .ge 56, 3, 0, 0, 0)),
  (308, [(.iload 11, 2, 0, 0, 0), (.aload_n 0, 1, 0, 0, 0), (.bipush 10, 2, 10, 0, 0), (.iload 12, 2, 0, 0, 0), (.iadd, 1, 0, 0, 0), (.iaload, 1, 0, 0, 0)], some (.ifCond .lt 34, 3, 0, 0, 0)),
  (320, [(.aload_n 0, 1, 0, 0, 0), (.iload 12, 2, 0, 0, 0), (.iaload, 1, 0, 0, 0), (.bipush 100, 2, 100, 0, 0), (.idiv, 1, 0, 0, 0), (.iload 5, 2, 0, 0, 0)], some (.if_icmp .eq 22, 3, 0, 0, 0)),
  (332, [(.aload_n 0, 1, 0, 0, 0), (.bipush 10, 2, 10, 0, 0), (.iload 12, 2, 0, 0, 0), (.iadd, 1, 0, 0, 0), (.iaload, 1, 0, 0, 0), (.iload_n 3, 1, 0, 0, 0)], some (.invokestatic 27, 3, 81, 2, 0)),
  (343, [(.iconst 2, 1, 2, 0, 0)], some (.if_icmp .ge 7, 3, 0, 0, 0)),
  (347, [(.iconst 1, 1, 1, 0, 0)], some (.goto 4, 3, 0, 0, 0)),
  (351, [(.iconst 0, 1, 0, 0, 0)], none),
  (352, [(.ior, 1, 0, 0, 0), (.istore 11, 2, 0, 0, 0), (.iinc 12 1, 3, 1, 0, 0)], some (.goto (-59), 3, 0, 0, 0)),
  (361, [(.iload 11, 2, 0, 0, 0)], some (.ifCond .eq 13, 3, 0, 0, 0)),
  (366, [(.iload 9, 2, 0, 0, 0)], some (.ifCond .ne 8, 3, 0, 0, 0)),
  (371, [(.iload 7, 2, 0, 0, 0)], some (.goto 5, 3, 0, 0, 0)),
  (376, [(.bipush (-4), 2, 4, 1, 0)], none),
  (378, [], some (.ireturn, 1, 0, 0, 0)),
  (379, [(.iload 4, 2, 0, 0, 0), (.bipush 7, 2, 7, 0, 0)], some (.if_icmp .ne 13, 3, 0, 0, 0)),
  (386, [(.iload 9, 2, 0, 0, 0)], some (.ifCond .ne 8, 3, 0, 0, 0)),
  (391, [(.iload 7, 2, 0, 0, 0)], some (.goto 33, 3, 0, 0, 0)),
  (396, [(.iload 10, 2, 0, 0, 0), (.iconst 2, 1, 2, 0, 0), (.irem, 1, 0, 0, 0)], some (.ifCond .ne 24, 3, 0, 0, 0)),
  (403, [(.iload_n 2, 1, 0, 0, 0), (.aload_n 0, 1, 0, 0, 0), (.iload_n 1, 1, 0, 0, 0), (.iaload, 1, 0, 0, 0), (.bipush 10, 2, 10, 0, 0), (.idiv, 1, 0, 0, 0), (.bipush 10, 2, 10, 0, 0), (.irem, 1, 0, 0, 0), (.iconst 2, 1, 2, 0, 0), (.iadd, 1, 0, 0, 0), (.irem, 1, 0, 0, 0)], some (.ifCond .ne 8, 3, 0, 0, 0)),
  (419, [(.iload 8, 2, 0, 0, 0)], some (.goto 5, 3, 0, 0, 0)),
  (424, [(.bipush (-4), 2, 4, 1, 0)], none),
  (426, [], some (.ireturn, 1, 0, 0, 0))]
def iL_idea : MI := (yL_idea, cL_idea, 13, (some .int), 8, 3, bL_idea)
abbrev jL_ears : Nat := 84
def bL_ears : List Blk := [(0, [(.iload_n 0, 1, 0, 0, 0), (.bipush 10, 2, 10, 0, 0), (.irem, 1, 0, 0, 0), (.istore_n 1, 1, 0, 0, 0), (.iload_n 0, 1, 0, 0, 0), (.bipush 10, 2, 10, 0, 0), (.idiv, 1, 0, 0, 0), (.bipush 10, 2, 10, 0, 0), (.irem, 1, 0, 0, 0), (.istore_n 2, 1, 0, 0, 0), (.iload_n 1, 1, 0, 0, 0)], some (.ifCond .ne 7, 3, 0, 0, 0)),
  (17, [(.iconst 2, 1, 2, 0, 0)], some (.goto 52, 3, 0, 0, 0)),
  (21, [(.iload_n 1, 1, 0, 0, 0), (.iconst 1, 1, 1, 0, 0)], some (.if_icmp .ne 7, 3, 0, 0, 0)),
  (26, [(.iconst 3, 1, 3, 0, 0)], some (.goto 43, 3, 0, 0, 0)),
  (30, [(.iload_n 1, 1, 0, 0, 0), (.iconst 2, 1, 2, 0, 0)], some (.if_icmp .ne 7, 3, 0, 0, 0)),
  (35, [(.iload_n 2, 1, 0, 0, 0)], some (.goto 34, 3, 0, 0, 0)),
  (39, [(.iload_n 1, 1, 0, 0, 0), (.iconst 4, 1, 4, 0, 0)], some (.if_icmp .ne 9, 3, 0, 0, 0)),
  (44, [(.iload_n 2, 1, 0, 0, 0), (.iconst 3, 1, 3, 0, 0), (.iadd, 1, 0, 0, 0)], some (.goto 23, 3, 0, 0, 0)),
  (50, [(.iload_n 1, 1, 0, 0, 0), (.iconst 5, 1, 5, 0, 0)], some (.if_icmp .ne 7, 3, 0, 0, 0)),
  (55, [(.iconst 5, 1, 5, 0, 0)], some (.goto 14, 3, 0, 0, 0)),
  (59, [(.iload_n 1, 1, 0, 0, 0), (.bipush 6, 2, 6, 0, 0)], some (.if_icmp .ne 7, 3, 0, 0, 0)),
  (65, [(.iconst 0, 1, 0, 0, 0)], some (.goto 4, 3, 0, 0, 0)),
  (69, [(.iconst 4, 1, 4, 0, 0)], none),
  (70, [], some (.ireturn, 1, 0, 0, 0))]
def iL_ears : MI := (yL_ears, cL_ears, 3, (some .int), 8, 1, bL_ears)
abbrev jL_hears : Nat := 85
def bL_hears : List Blk := [(0, [(.aload_n 0, 1, 0, 0, 0), (.bipush 10, 2, 10, 0, 0), (.iload_n 1, 1, 0, 0, 0), (.iadd, 1, 0, 0, 0), (.iaload, 1, 0, 0, 0)], some (.ifCond .lt 31, 3, 0, 0, 0)),
  (9, [(.aload_n 0, 1, 0, 0, 0), (.bipush 10, 2, 10, 0, 0), (.iload_n 2, 1, 0, 0, 0), (.iadd, 1, 0, 0, 0), (.iaload, 1, 0, 0, 0)], some (.ifCond .lt 22, 3, 0, 0, 0)),
  (18, [(.aload_n 0, 1, 0, 0, 0), (.iload_n 1, 1, 0, 0, 0), (.iaload, 1, 0, 0, 0), (.bipush 100, 2, 100, 0, 0), (.idiv, 1, 0, 0, 0), (.aload_n 0, 1, 0, 0, 0), (.iload_n 2, 1, 0, 0, 0), (.iaload, 1, 0, 0, 0), (.bipush 100, 2, 100, 0, 0), (.idiv, 1, 0, 0, 0)], some (.if_icmp .ne 7, 3, 0, 0, 0)),
  (33, [(.iconst 1, 1, 1, 0, 0)], some (.goto 4, 3, 0, 0, 0)),
  (37, [(.iconst 0, 1, 0, 0, 0)], none),
  (38, [(.istore_n 3, 1, 0, 0, 0), (.iload_n 1, 1, 0, 0, 0), (.iload_n 2, 1, 0, 0, 0)], some (.if_icmp .eq 43, 3, 0, 0, 0)),
  (44, [(.iload_n 3, 1, 0, 0, 0)], some (.ifCond .eq 43, 3, 0, 0, 0)),
  (48, [(.aload_n 0, 1, 0, 0, 0), (.bipush 10, 2, 10, 0, 0), (.iload_n 1, 1, 0, 0, 0), (.iadd, 1, 0, 0, 0), (.iaload, 1, 0, 0, 0), (.aload_n 0, 1, 0, 0, 0), (.bipush 10, 2, 10, 0, 0), (.iload_n 2, 1, 0, 0, 0), (.iadd, 1, 0, 0, 0), (.iaload, 1, 0, 0, 0)], some (.invokestatic 27, 3, 81, 2, 0)),
  (63, [(.aload_n 0, 1, 0, 0, 0), (.bipush 25, 2, 25, 0, 0), (.iaload, 1, 0, 0, 0), (.iconst 1, 1, 1, 0, 0)], some (.if_icmp .ne 7, 3, 0, 0, 0)),
  (71, [(.iconst 1, 1, 1, 0, 0)], some (.goto 9, 3, 0, 0, 0)),
  (75, [(.aload_n 0, 1, 0, 0, 0), (.iload_n 1, 1, 0, 0, 0), (.iaload, 1, 0, 0, 0)], some (.invokestatic 31, 3, 84, 1, 0)),
  (81, [], some (.if_icmp .gt 7, 3, 0, 0, 0)),
  (84, [(.iconst 1, 1, 1, 0, 0)], some (.goto 4, 3, 0, 0, 0)),
  (88, [(.iconst 0, 1, 0, 0, 0)], none),
  (89, [], some (.ireturn, 1, 1, 0, 0))]
def iL_hears : MI := (yL_hears, cL_hears, 4, (some .boolean), 8, 3, bL_hears)
abbrev jL_heard : Nat := 86
def bL_heard : List Blk := [(0, [(.iconst 0, 1, 0, 0, 0), (.istore_n 2, 1, 0, 0, 0), (.iconst 0, 1, 0, 0, 0), (.istore_n 3, 1, 0, 0, 0)], none),
  (4, [(.iload_n 3, 1, 0, 0, 0), (.aload_n 0, 1, 0, 0, 0), (.bipush 20, 2, 20, 0, 0), (.iaload, 1, 0, 0, 0)], some (.if_icmp .ge 28, 3, 0, 0, 0)),
  (12, [(.iload_n 2, 1, 0, 0, 0), (.aload_n 0, 1, 0, 0, 0), (.iload_n 3, 1, 0, 0, 0), (.iload_n 1, 1, 0, 0, 0)], some (.invokestatic 35, 3, 85, 3, 0)),
  (19, [], some (.ifCond .eq 9, 3, 0, 0, 0)),
  (22, [(.iconst 1, 1, 1, 0, 0), (.iload_n 3, 1, 0, 0, 0), (.ishl, 1, 0, 0, 0)], some (.goto 4, 3, 0, 0, 0)),
  (28, [(.iconst 0, 1, 0, 0, 0)], none),
  (29, [(.ior, 1, 0, 0, 0), (.istore_n 2, 1, 0, 0, 0), (.iinc 3 1, 3, 1, 0, 0)], some (.goto (-30), 3, 0, 0, 0)),
  (37, [(.iload_n 2, 1, 0, 0, 0)], some (.ireturn, 1, 0, 0, 0))]
def iL_heard : MI := (yL_heard, cL_heard, 4, (some .int), 8, 2, bL_heard)
abbrev jL_bits : Nat := 87
def bL_bits : List Blk := [(0, [(.iconst 0, 1, 0, 0, 0), (.istore_n 1, 1, 0, 0, 0), (.iload_n 0, 1, 0, 0, 0), (.istore_n 2, 1, 0, 0, 0)], none),
  (4, [(.iload_n 2, 1, 0, 0, 0)], some (.ifCond .eq 15, 3, 0, 0, 0)),
  (8, [(.iinc 1 1, 3, 1, 0, 0), (.iload_n 2, 1, 0, 0, 0), (.iload_n 2, 1, 0, 0, 0), (.iconst 1, 1, 1, 0, 0), (.isub, 1, 0, 0, 0), (.iand, 1, 0, 0, 0), (.istore_n 2, 1, 0, 0, 0)], some (.goto (-13), 3, 0, 0, 0)),
  (20, [(.iload_n 1, 1, 0, 0, 0)], some (.ireturn, 1, 0, 0, 0))]
def iL_bits : MI := (yL_bits, cL_bits, 3, (some .int), 8, 1, bL_bits)
abbrev jL_goes : Nat := 88
def bL_goes : List Blk := [(0, [(.bipush (-4), 2, 4, 1, 0), (.istore_n 2, 1, 0, 0, 0), (.iconst 0, 1, 0, 0, 0), (.istore_n 3, 1, 0, 0, 0), (.iconst 0, 1, 0, 0, 0), (.istore 4, 2, 0, 0, 0), (.iconst 0, 1, 0, 0, 0), (.istore 5, 2, 0, 0, 0)], none),
  (11, [(.iload 5, 2, 0, 0, 0), (.aload_n 0, 1, 0, 0, 0), (.bipush 20, 2, 20, 0, 0), (.iaload, 1, 0, 0, 0)], some (.if_icmp .ge 111, 3, 0, 0, 0)),
  (20, [(.aload_n 0, 1, 0, 0, 0), (.bipush 10, 2, 10, 0, 0), (.iload 5, 2, 0, 0, 0), (.iadd, 1, 0, 0, 0), (.iaload, 1, 0, 0, 0)], some (.ifCond .lt 21, 3, 0, 0, 0)),
  (30, [(.aload_n 0, 1, 0, 0, 0), (.iload 5, 2, 0, 0, 0), (.iaload, 1, 0, 0, 0), (.bipush 100, 2, 100, 0, 0), (.idiv, 1, 0, 0, 0), (.aload_n 0, 1, 0, 0, 0), (.bipush 22, 2, 22, 0, 0), (.iaload, 1, 0, 0, 0)], some (.if_icmp .ne 7, 3, 0, 0, 0)),
  (44, [(.iconst 1, 1, 1, 0, 0)], some (.goto 4, 3, 0, 0, 0)),
  (48, [(.iconst 0, 1, 0, 0, 0)], none),
  (49, [(.istore 6, 2, 0, 0, 0), (.iload 6, 2, 0, 0, 0)], some (.ifCond .eq 25, 3, 0, 0, 0)),
  (56, [(.aload_n 0, 1, 0, 0, 0), (.iload 5, 2, 0, 0, 0), (.iload_n 1, 1, 0, 0, 0)], some (.invokestatic 39, 3, 83, 3, 0)),
  (63, [], some (.ifCond .lt 15, 3, 0, 0, 0)),
  (66, [(.aload_n 0, 1, 0, 0, 0), (.iload 5, 2, 0, 0, 0)], some (.invokestatic 42, 3, 86, 2, 0)),
  (72, [], some (.invokestatic 45, 3, 87, 1, 0)),
  (75, [], some (.goto 4, 3, 0, 0, 0)),
  (78, [(.iconst 0, 1, 0, 0, 0)], none),
  (79, [(.istore 7, 2, 0, 0, 0), (.iload 4, 2, 0, 0, 0), (.iload 6, 2, 0, 0, 0)], some (.ifCond .eq 7, 3, 0, 0, 0)),
  (88, [(.iconst 1, 1, 1, 0, 0)], some (.goto 4, 3, 0, 0, 0)),
  (92, [(.iconst 0, 1, 0, 0, 0)], none),
  (93, [(.iadd, 1, 0, 0, 0), (.istore 4, 2, 0, 0, 0), (.iload 7, 2, 0, 0, 0), (.iload_n 3, 1, 0, 0, 0)], some (.if_icmp .le 8, 3, 0, 0, 0)),
  (102, [(.iload 5, 2, 0, 0, 0)], some (.goto 4, 3, 0, 0, 0)),
  (107, [(.iload_n 2, 1, 0, 0, 0)], none),
  (108, [(.istore_n 2, 1, 0, 0, 0), (.iload 7, 2, 0, 0, 0), (.iload_n 3, 1, 0, 0, 0)], some (.if_icmp .le 8, 3, 0, 0, 0)),
  (115, [(.iload 7, 2, 0, 0, 0)], some (.goto 4, 3, 0, 0, 0)),
  (120, [(.iload_n 3, 1, 0, 0, 0)], none),
  (121, [(.istore_n 3, 1, 0, 0, 0), (.iinc 5 1, 3, 1, 0, 0)], some (.goto (-114), 3, 0, 0, 0)),
  (128, [(.iconst 2, 1, 2, 0, 0), (.iload_n 3, 1, 0, 0, 0), (.imul, 1, 0, 0, 0), (.iload 4, 2, 0, 0, 0)], some (.if_icmp .le 7, 3, 0, 0, 0)),
  (136, [(.iload_n 2, 1, 0, 0, 0)], some (.goto 5, 3, 0, 0, 0)),
  (140, [(.bipush (-4), 2, 4, 1, 0)], none),
  (142, [], some (.ireturn, 1, 0, 0, 0))]
def iL_goes : MI := (yL_goes, cL_goes, 8, (some .int), 8, 2, bL_goes)
abbrev jL_day : Nat := 89
def bL_day : List Blk := [(0, [(.aload_n 0, 1, 0, 0, 0), (.bipush 21, 2, 21, 0, 0), (.dup2, 1, 0, 0, 0), (.iaload, 1, 0, 0, 0), (.iconst 1, 1, 1, 0, 0), (.iadd, 1, 0, 0, 0), (.iastore, 1, 0, 0, 0), (.aload_n 0, 1, 0, 0, 0), (.aload_n 0, 1, 0, 0, 0), (.bipush 21, 2, 21, 0, 0), (.iaload, 1, 0, 0, 0)], some (.invokestatic 48, 3, 88, 2, 0)),
  (16, [(.istore_n 1, 1, 0, 0, 0), (.iload_n 1, 1, 0, 0, 0)], some (.ifCond .ge 8, 3, 0, 0, 0)),
  (21, [(.bipush (-9), 2, 9, 1, 0)], some (.goto 12, 3, 0, 0, 0)),
  (26, [(.aload_n 0, 1, 0, 0, 0), (.iload_n 1, 1, 0, 0, 0), (.aload_n 0, 1, 0, 0, 0), (.bipush 21, 2, 21, 0, 0), (.iaload, 1, 0, 0, 0)], some (.invokestatic 39, 3, 83, 3, 0)),
  (35, [(.istore_n 2, 1, 0, 0, 0), (.iload_n 1, 1, 0, 0, 0)], some (.ifCond .ge 7, 3, 0, 0, 0)),
  (40, [(.iconst (-1), 1, 1, 1, 0)], some (.goto 8, 3, 0, 0, 0)),
  (44, [(.aload_n 0, 1, 0, 0, 0), (.iload_n 2, 1, 0, 0, 0)], some (.invokestatic 9, 3, 78, 2, 0)),
  (49, [(.istore_n 3, 1, 0, 0, 0), (.aload_n 0, 1, 0, 0, 0), (.bipush 23, 2, 23, 0, 0), (.dup2, 1, 0, 0, 0), (.iaload, 1, 0, 0, 0), (.iload_n 1, 1, 0, 0, 0)], some (.ifCond .ge 17, 3, 0, 0, 0)),
  (59, [(.aload_n 0, 1, 0, 0, 0), (.bipush 23, 2, 23, 0, 0), (.iaload, 1, 0, 0, 0), (.sipush 9999, 3, 9999, 0, 0)], some (.if_icmp .ge 7, 3, 0, 0, 0)),
  (69, [(.iconst 1, 1, 1, 0, 0)], some (.goto 4, 3, 0, 0, 0)),
  (73, [(.iconst 0, 1, 0, 0, 0)], none),
  (74, [(.iadd, 1, 0, 0, 0), (.iastore, 1, 0, 0, 0), (.iload_n 3, 1, 0, 0, 0)], some (.ifCond .lt 11, 3, 0, 0, 0)),
  (80, [(.aload_n 0, 1, 0, 0, 0), (.bipush 10, 2, 10, 0, 0), (.iload_n 3, 1, 0, 0, 0), (.iadd, 1, 0, 0, 0), (.bipush (-4), 2, 4, 1, 0), (.iastore, 1, 0, 0, 0)], none),
  (88, [(.iload_n 1, 1, 0, 0, 0)], some (.ifCond .lt 10, 3, 0, 0, 0)),
  (92, [(.aload_n 0, 1, 0, 0, 0), (.bipush 10, 2, 10, 0, 0), (.iload_n 1, 1, 0, 0, 0), (.iadd, 1, 0, 0, 0), (.iload_n 2, 1, 0, 0, 0), (.iastore, 1, 0, 0, 0)], none),
  (99, [(.aload_n 0, 1, 0, 0, 0), (.bipush 22, 2, 22, 0, 0), (.iconst 1, 1, 1, 0, 0), (.aload_n 0, 1, 0, 0, 0), (.bipush 22, 2, 22, 0, 0), (.iaload, 1, 0, 0, 0), (.isub, 1, 0, 0, 0), (.iastore, 1, 0, 0, 0)], some (.return_, 1, 0, 0, 0))]
def iL_day : MI := (yL_day, cL_day, 4, none, 8, 1, bL_day)
abbrev jL_days : Nat := 90
def bL_days : List Blk := [(0, [(.iconst 0, 1, 0, 0, 0), (.istore_n 2, 1, 0, 0, 0)], none),
  (2, [(.iload_n 2, 1, 0, 0, 0), (.iload_n 1, 1, 0, 0, 0)], some (.if_icmp .ge 13, 3, 0, 0, 0)),
  (7, [(.aload_n 0, 1, 0, 0, 0)], some (.invokestatic 51, 3, 89, 1, 0)),
  (11, [(.iinc 2 1, 3, 1, 0, 0)], some (.goto (-12), 3, 0, 0, 0)),
  (17, [], some (.return_, 1, 0, 0, 0))]
def iL_days : MI := (yL_days, cL_days, 3, none, 8, 2, bL_days)
abbrev jL_there : Nat := 91
def bL_there : List Blk := [(0, [(.iconst 0, 1, 0, 0, 0), (.istore_n 2, 1, 0, 0, 0), (.iconst 0, 1, 0, 0, 0), (.istore_n 3, 1, 0, 0, 0)], none),
  (4, [(.iload_n 3, 1, 0, 0, 0), (.aload_n 0, 1, 0, 0, 0), (.bipush 20, 2, 20, 0, 0), (.iaload, 1, 0, 0, 0)], some (.if_icmp .ge 42, 3, 0, 0, 0)),
  (12, [(.iload_n 2, 1, 0, 0, 0), (.aload_n 0, 1, 0, 0, 0), (.bipush 10, 2, 10, 0, 0), (.iload_n 3, 1, 0, 0, 0), (.iadd, 1, 0, 0, 0), (.iaload, 1, 0, 0, 0)], some (.ifCond .lt 23, 3, 0, 0, 0)),
  (22, [(.iload_n 1, 1, 0, 0, 0)], some (.ifCond .lt 13, 3, 0, 0, 0)),
  (26, [(.aload_n 0, 1, 0, 0, 0), (.iload_n 3, 1, 0, 0, 0), (.iaload, 1, 0, 0, 0), (.bipush 100, 2, 100, 0, 0), (.idiv, 1, 0, 0, 0), (.iload_n 1, 1, 0, 0, 0)], some (.if_icmp .ne 9, 3, 0, 0, 0)),
  (36, [(.iconst 1, 1, 1, 0, 0), (.iload_n 3, 1, 0, 0, 0), (.ishl, 1, 0, 0, 0)], some (.goto 4, 3, 0, 0, 0)),
  (42, [(.iconst 0, 1, 0, 0, 0)], none),
  (43, [(.ior, 1, 0, 0, 0), (.istore_n 2, 1, 0, 0, 0), (.iinc 3 1, 3, 1, 0, 0)], some (.goto (-44), 3, 0, 0, 0)),
  (51, [(.iload_n 2, 1, 0, 0, 0)], some (.ireturn, 1, 0, 0, 0))]
def iL_there : MI := (yL_there, cL_there, 4, (some .int), 8, 2, bL_there)
abbrev jL_board : Nat := 92
def bL_board : List Blk := [(0, [(.aload_n 2, 1, 0, 0, 0), (.iload_n 3, 1, 0, 0, 0)], some (.invokestatic 58, 3, 77, 2, 0)),
  (5, [(.istore 4, 2, 0, 0, 0), (.iconst 1, 1, 1, 0, 0), (.istore 5, 2, 0, 0, 0), (.iconst 0, 1, 0, 0, 0), (.istore 6, 2, 0, 0, 0)], none),
  (13, [(.iload 6, 2, 0, 0, 0), (.iload 4, 2, 0, 0, 0), (.bipush 15, 2, 15, 0, 0), (.iand, 1, 0, 0, 0), (.bipush 11, 2, 11, 0, 0), (.irem, 1, 0, 0, 0)], some (.if_icmp .ge 171, 3, 0, 0, 0)),
  (26, [(.aload_n 2, 1, 0, 0, 0), (.iload_n 3, 1, 0, 0, 0), (.iconst 1, 1, 1, 0, 0), (.iadd, 1, 0, 0, 0), (.iload 6, 2, 0, 0, 0), (.iadd, 1, 0, 0, 0)], some (.invokestatic 58, 3, 77, 2, 0)),
  (36, [(.istore 7, 2, 0, 0, 0), (.iload 7, 2, 0, 0, 0), (.bipush 7, 2, 7, 0, 0), (.iand, 1, 0, 0, 0), (.istore 8, 2, 0, 0, 0), (.iload 7, 2, 0, 0, 0), (.iconst 3, 1, 3, 0, 0), (.ishr, 1, 0, 0, 0), (.bipush 15, 2, 15, 0, 0), (.iand, 1, 0, 0, 0), (.bipush 10, 2, 10, 0, 0), (.irem, 1, 0, 0, 0), (.istore 9, 2, 0, 0, 0), (.iload 7, 2, 0, 0, 0), (.bipush 7, 2, 7, 0, 0), (.ishr, 1, 0, 0, 0), (.iconst 1, 1, 1, 0, 0), (.iand, 1, 0, 0, 0), (.istore 10, 2, 0, 0, 0), (.iload 7, 2, 0, 0, 0), (.bipush 8, 2, 8, 0, 0), (.ishr, 1, 0, 0, 0), (.bipush 63, 2, 63, 0, 0), (.iand, 1, 0, 0, 0), (.bipush 36, 2, 36, 0, 0), (.irem, 1, 0, 0, 0), (.istore 11, 2, 0, 0, 0), (.aload_n 1, 1, 0, 0, 0), (.iload 11, 2, 0, 0, 0)], some (.invokestatic 9, 3, 78, 2, 0)),
  (85, [], some (.ifCond .ge 7, 3, 0, 0, 0)),
  (88, [(.iconst 1, 1, 1, 0, 0)], some (.goto 4, 3, 0, 0, 0)),
  (92, [(.iconst 0, 1, 0, 0, 0)], none),
  (93, [(.istore 12, 2, 0, 0, 0), (.iload 5, 2, 0, 0, 0), (.aload_n 0, 1, 0, 0, 0), (.iconst 1, 1, 1, 0, 0), (.iconst 1, 1, 1, 0, 0), (.iload 8, 2, 0, 0, 0), (.iload 9, 2, 0, 0, 0)], some (.invokevirtual 61, 3, 75, 5, 2)),
  (107, [], some (.ifCond .ne 33, 3, 0, 0, 0)),
  (110, [(.aload_n 0, 1, 0, 0, 0), (.iconst 1, 1, 1, 0, 0), (.iload 10, 2, 0, 0, 0), (.iload 11, 2, 0, 0, 0)], some (.invokevirtual 67, 3, 54, 4, 2)),
  (119, [(.iload 12, 2, 0, 0, 0)], some (.ifCond .eq 10, 3, 0, 0, 0)),
  (124, [(.aload_n 1, 1, 0, 0, 0), (.bipush 20, 2, 20, 0, 0), (.iaload, 1, 0, 0, 0)], some (.goto 5, 3, 0, 0, 0)),
  (131, [(.bipush (-3), 2, 3, 1, 0)], none),
  (133, [], some (.if_icmp .ne 7, 3, 0, 0, 0)),
  (136, [(.iconst 1, 1, 1, 0, 0)], some (.goto 4, 3, 0, 0, 0)),
  (140, [(.iconst 0, 1, 0, 0, 0)], none),
  (141, [(.iand, 1, 0, 0, 0), (.istore 5, 2, 0, 0, 0), (.iload 12, 2, 0, 0, 0)], some (.ifCond .eq 42, 3, 0, 0, 0)),
  (149, [(.aload_n 1, 1, 0, 0, 0), (.aload_n 1, 1, 0, 0, 0), (.bipush 20, 2, 20, 0, 0), (.iaload, 1, 0, 0, 0), (.iload 8, 2, 0, 0, 0), (.bipush 10, 2, 10, 0, 0), (.iload 9, 2, 0, 0, 0), (.imul, 1, 0, 0, 0), (.iadd, 1, 0, 0, 0), (.bipush 100, 2, 100, 0, 0), (.iload 10, 2, 0, 0, 0), (.imul, 1, 0, 0, 0), (.iadd, 1, 0, 0, 0), (.iastore, 1, 0, 0, 0), (.aload_n 1, 1, 0, 0, 0), (.bipush 10, 2, 10, 0, 0), (.aload_n 1, 1, 0, 0, 0), (.bipush 20, 2, 20, 0, 0), (.iaload, 1, 0, 0, 0), (.iadd, 1, 0, 0, 0), (.iload 11, 2, 0, 0, 0), (.iastore, 1, 0, 0, 0), (.aload_n 1, 1, 0, 0, 0), (.bipush 20, 2, 20, 0, 0), (.dup2, 1, 0, 0, 0), (.iaload, 1, 0, 0, 0), (.iconst 1, 1, 1, 0, 0), (.iadd, 1, 0, 0, 0), (.iastore, 1, 0, 0, 0)], none),
  (188, [(.iinc 6 1, 3, 1, 0, 0)], some (.goto (-178), 3, 0, 0, 0)),
  (194, [(.iload 4, 2, 0, 0, 0), (.iconst 4, 1, 4, 0, 0), (.ishr, 1, 0, 0, 0), (.iconst 3, 1, 3, 0, 0), (.iand, 1, 0, 0, 0)], some (.ifCond .ne 60, 3, 0, 0, 0)),
  (203, [(.aload_n 1, 1, 0, 0, 0), (.bipush 20, 2, 20, 0, 0), (.iaload, 1, 0, 0, 0)], some (.ifCond .le 53, 3, 0, 0, 0)),
  (210, [(.iload 4, 2, 0, 0, 0), (.bipush 6, 2, 6, 0, 0), (.ishr, 1, 0, 0, 0), (.bipush 15, 2, 15, 0, 0), (.iand, 1, 0, 0, 0), (.aload_n 1, 1, 0, 0, 0), (.bipush 20, 2, 20, 0, 0), (.iaload, 1, 0, 0, 0), (.irem, 1, 0, 0, 0), (.istore 6, 2, 0, 0, 0), (.iload 5, 2, 0, 0, 0), (.aload_n 0, 1, 0, 0, 0), (.iload 6, 2, 0, 0, 0)], some (.invokevirtual 70, 3, 56, 2, 2)),
  (233, [(.aload_n 1, 1, 0, 0, 0), (.bipush 10, 2, 10, 0, 0), (.iload 6, 2, 0, 0, 0), (.iadd, 1, 0, 0, 0), (.iaload, 1, 0, 0, 0)], some (.if_icmp .ne 7, 3, 0, 0, 0)),
  (243, [(.iconst 1, 1, 1, 0, 0)], some (.goto 4, 3, 0, 0, 0)),
  (247, [(.iconst 0, 1, 0, 0, 0)], none),
  (248, [(.iand, 1, 0, 0, 0), (.istore 5, 2, 0, 0, 0), (.aload_n 1, 1, 0, 0, 0), (.bipush 10, 2, 10, 0, 0), (.iload 6, 2, 0, 0, 0), (.iadd, 1, 0, 0, 0), (.bipush (-4), 2, 4, 1, 0), (.iastore, 1, 0, 0, 0)], none),
  (260, [(.aload_n 1, 1, 0, 0, 0), (.bipush 22, 2, 22, 0, 0), (.iload 4, 2, 0, 0, 0), (.bipush 10, 2, 10, 0, 0), (.ishr, 1, 0, 0, 0), (.iconst 1, 1, 1, 0, 0), (.iand, 1, 0, 0, 0), (.iastore, 1, 0, 0, 0), (.iload 5, 2, 0, 0, 0), (.aload_n 0, 1, 0, 0, 0), (.aload_n 1, 1, 0, 0, 0), (.bipush 22, 2, 22, 0, 0), (.iaload, 1, 0, 0, 0)], some (.invokevirtual 73, 3, 57, 2, 2)),
  (281, [], some (.ifCond .ne 7, 3, 0, 0, 0)),
  (284, [(.iconst 1, 1, 1, 0, 0)], some (.goto 4, 3, 0, 0, 0)),
  (288, [(.iconst 0, 1, 0, 0, 0)], none),
  (289, [(.iand, 1, 0, 0, 0), (.istore 5, 2, 0, 0, 0), (.iload 4, 2, 0, 0, 0), (.bipush 11, 2, 11, 0, 0), (.ishr, 1, 0, 0, 0), (.iconst 1, 1, 1, 0, 0), (.iand, 1, 0, 0, 0)], some (.ifCond .ne 7, 3, 0, 0, 0)),
  (302, [(.iconst 0, 1, 0, 0, 0)], some (.goto 13, 3, 0, 0, 0)),
  (306, [(.iconst 1, 1, 1, 0, 0), (.iload 4, 2, 0, 0, 0), (.bipush 12, 2, 12, 0, 0), (.ishr, 1, 0, 0, 0), (.bipush 7, 2, 7, 0, 0), (.iand, 1, 0, 0, 0), (.iadd, 1, 0, 0, 0)], none),
  (316, [(.istore 6, 2, 0, 0, 0), (.aload_n 1, 1, 0, 0, 0), (.iload 6, 2, 0, 0, 0)], some (.invokestatic 76, 3, 90, 2, 0)),
  (324, [(.iload 5, 2, 0, 0, 0)], some (.ifCond .eq 29, 3, 0, 0, 0)),
  (329, [(.iload 6, 2, 0, 0, 0)], some (.ifCond .eq 20, 3, 0, 0, 0)),
  (334, [(.aload_n 0, 1, 0, 0, 0), (.iload 6, 2, 0, 0, 0)], some (.invokevirtual 80, 3, 58, 2, 2)),
  (340, [(.aload_n 1, 1, 0, 0, 0), (.iconst (-1), 1, 1, 1, 0)], some (.invokestatic 82, 3, 91, 2, 0)),
  (345, [], some (.invokestatic 45, 3, 87, 1, 0)),
  (348, [], some (.if_icmp .ne 7, 3, 0, 0, 0)),
  (351, [(.iconst 1, 1, 1, 0, 0)], some (.goto 4, 3, 0, 0, 0)),
  (355, [(.iconst 0, 1, 0, 0, 0)], none),
  (356, [], some (.ireturn, 1, 1, 0, 0))]
def iL_board : MI := (yL_board, cL_board, 13, (some .boolean), 8, 4, bL_board)
abbrev jL_sight : Nat := 93
def bL_sight : List Blk := [(0, [(.ldc2_w 85, 3, 7, 0, 0), (.lstore_n 1, 1, 0, 0, 0), (.iconst 0, 1, 0, 0, 0), (.istore_n 3, 1, 0, 0, 0)], none),
  (6, [(.iload_n 3, 1, 0, 0, 0), (.iconst 5, 1, 5, 0, 0)], some (.if_icmp .ge 22, 3, 0, 0, 0)),
  (11, [(.ldc2_w 87, 3, 31, 0, 0), (.lload_n 1, 1, 0, 0, 0), (.lmul, 1, 0, 0, 0), (.aload_n 0, 1, 0, 0, 0), (.iload_n 3, 1, 0, 0, 0)], some (.invokevirtual 89, 3, 74, 2, 2)),
  (21, [(.i2l, 1, 0, 0, 0), (.ladd, 1, 0, 0, 0), (.lstore_n 1, 1, 0, 0, 0), (.iinc 3 1, 3, 1, 0, 0)], some (.goto (-21), 3, 0, 0, 0)),
  (30, [(.iconst 0, 1, 0, 0, 0), (.istore_n 3, 1, 0, 0, 0)], none),
  (32, [(.iload_n 3, 1, 0, 0, 0), (.aload_n 0, 1, 0, 0, 0), (.iconst 0, 1, 0, 0, 0)], some (.invokevirtual 89, 3, 74, 2, 2)),
  (38, [], some (.if_icmp .ge 40, 3, 0, 0, 0)),
  (41, [(.iconst 0, 1, 0, 0, 0), (.istore 4, 2, 0, 0, 0)], none),
  (44, [(.iload 4, 2, 0, 0, 0), (.bipush 7, 2, 7, 0, 0)], some (.if_icmp .ge 24, 3, 0, 0, 0)),
  (51, [(.ldc2_w 87, 3, 31, 0, 0), (.lload_n 1, 1, 0, 0, 0), (.lmul, 1, 0, 0, 0), (.aload_n 0, 1, 0, 0, 0), (.iload_n 3, 1, 0, 0, 0), (.iload 4, 2, 0, 0, 0)], some (.invokevirtual 92, 3, 52, 3, 2)),
  (63, [(.i2l, 1, 0, 0, 0), (.ladd, 1, 0, 0, 0), (.lstore_n 1, 1, 0, 0, 0), (.iinc 4 1, 3, 1, 0, 0)], some (.goto (-25), 3, 0, 0, 0)),
  (72, [(.iinc 3 1, 3, 1, 0, 0)], some (.goto (-43), 3, 0, 0, 0)),
  (78, [(.lload_n 1, 1, 0, 0, 0)], some (.lreturn, 1, 0, 0, 0))]
def iL_sight : MI := (yL_sight, cL_sight, 5, (some .long), 8, 1, bL_sight)
def mt_0 : List MI := [iX0_becomes, iX0_has, iX0_isThere, iX0_isThereOf, iX0_squareOrNone, iX0_isFree, iX0_isHeldBy, iX3_isKind, iX3_isFigure, iX3_isSide, iX0_addPiece, iX3_isSquare, iX0_takeOff, iX0_movePiece, iX0_turnInto, iX0_giveTurn]
def mt_1 : List MI := [iX0_squareFrom, iX0_knightIdea, iX0_slideIdea, iX0_bishopIdea, iX3_far, iX0_kingIdea, iX0_pawnIdea, iX0_ideaOf, iX1_earsWith, iX0_hearersOf, iJ6_bitCount_0f7a4, iX0_howManyOf, iX0_goerOn, iX0_passDay, iX0_passWithinLast, iX0_passDays]
def mt_2 : List MI := [iX0_howManyThere, iX0_bitsThere, iX1_worthWith, iX0_worthOf, iX0_worthWithout, iX0_groupAround, iX0_groupsOf, iX0_farthestOf, iX0_pairsSideBySide, iX0_quietOn, iX2_hasPlace, iX2_elementAt, iX2_digitsBehind, iX2_wrongByte, iX2_digitAt, iX2_twoDigitsAt]
def mt_3 : List MI := [iX3_shelfAt, iX3_refusalUnless, iX3_isDone, iX3_game, iX3_piece, iX3_on, iX3_comes, iX3_stands, iX3_takes, iX3_turn, iX3_days, iX3_lookAhead, iX3_then, iX3_firstToFall, iX3_falls, iX3_still]
def mt_4 : List MI := [iX3_next, iX3_heard, iX3_danger, iX3_placeInMind, iX3_stand, iX3_off, iX3_side, iX3_free, iX3_image, iX3_restore, iX3_count, iX3_keep, iJ7_fill_53178, iL_cell, iL_at, iL_on]
def mt_5 : List MI := [iL_what, iL_far, iL_slide, iL_idea, iL_ears, iL_hears, iL_heard, iL_bits, iL_goes, iL_day, iL_days, iL_there, iL_board, iL_sight]
def mt : List MI := mt_0 ++ (mt_1 ++ (mt_2 ++ (mt_3 ++ (mt_4 ++ (mt_5)))))
def bL_law : List Blk := [(13, [(.aload_n 1, 1, 0, 0, 0), (.aload_n 2, 1, 0, 0, 0), (.aload_n 0, 1, 0, 0, 0), (.iconst 0, 1, 0, 0, 0)], some (.invokestatic 96, 3, 92, 4, 0)),
  (20, [], some (.ifCond .ne 5, 3, 0, 0, 0)),
  (23, [(.iconst 0, 1, 0, 0, 0)], some (.ireturn, 1, 1, 0, 0)),
  (25, [(.bipush 11, 2, 11, 0, 0), (.istore_n 3, 1, 0, 0, 0)], none),
  (28, [(.iload_n 3, 1, 0, 0, 0), (.aload_n 0, 1, 0, 0, 0), (.arraylength, 1, 0, 0, 0)], some (.if_icmp .ge 1314, 3, 0, 0, 0)),
  (34, [(.iload_n 3, 1, 0, 0, 0), (.bipush 40, 2, 40, 0, 0)], some (.if_icmp .ge 1308, 3, 0, 0, 0)),
  (40, [(.aload_n 0, 1, 0, 0, 0), (.iload_n 3, 1, 0, 0, 0)], some (.invokestatic 58, 3, 77, 2, 0)),
  (45, [(.istore 4, 2, 0, 0, 0), (.aload_n 1, 1, 0, 0, 0)], some (.invokestatic 100, 3, 93, 1, 0)),
  (51, [(.lstore 5, 2, 0, 0, 0), (.aload_n 1, 1, 0, 0, 0), (.iconst 0, 1, 0, 0, 0)], some (.invokevirtual 89, 3, 74, 2, 2)),
  (58, [(.istore 7, 2, 0, 0, 0), (.aload_n 1, 1, 0, 0, 0), (.iconst 4, 1, 4, 0, 0)], some (.invokevirtual 89, 3, 74, 2, 2)),
  (65, [(.istore 8, 2, 0, 0, 0), (.iconst 0, 1, 0, 0, 0), (.istore 9, 2, 0, 0, 0), (.iconst 0, 1, 0, 0, 0), (.istore 10, 2, 0, 0, 0)], none),
  (73, [(.iload 10, 2, 0, 0, 0), (.bipush 36, 2, 36, 0, 0)], some (.if_icmp .ge 65, 3, 0, 0, 0)),
  (80, [(.aload_n 1, 1, 0, 0, 0), (.iload 10, 2, 0, 0, 0)], some (.invokevirtual 104, 3, 53, 2, 2)),
  (86, [(.istore 11, 2, 0, 0, 0), (.iload 11, 2, 0, 0, 0)], some (.ifCond .lt 28, 3, 0, 0, 0)),
  (93, [(.aload_n 1, 1, 0, 0, 0), (.iload 11, 2, 0, 0, 0), (.iconst 3, 1, 3, 0, 0)], some (.invokevirtual 92, 3, 52, 3, 2)),
  (100, [(.iload 10, 2, 0, 0, 0)], some (.if_icmp .ne 14, 3, 0, 0, 0)),
  (105, [(.iload 9, 2, 0, 0, 0), (.iload 11, 2, 0, 0, 0), (.ishr, 1, 0, 0, 0), (.iconst 1, 1, 1, 0, 0), (.iand, 1, 0, 0, 0), (.iconst 1, 1, 1, 0, 0)], some (.if_icmp .ne 5, 3, 0, 0, 0)),
  (116, [(.iconst 0, 1, 0, 0, 0)], some (.ireturn, 1, 1, 0, 0)),
  (118, [(.iload 9, 2, 0, 0, 0), (.iload 11, 2, 0, 0, 0)], some (.ifCond .ge 7, 3, 0, 0, 0)),
  (125, [(.iconst 0, 1, 0, 0, 0)], some (.goto 7, 3, 0, 0, 0)),
  (129, [(.iconst 1, 1, 1, 0, 0), (.iload 11, 2, 0, 0, 0), (.ishl, 1, 0, 0, 0)], none),
  (133, [(.ior, 1, 0, 0, 0), (.istore 9, 2, 0, 0, 0), (.iinc 10 1, 3, 1, 0, 0)], some (.goto (-66), 3, 0, 0, 0)),
  (142, [(.aload_n 1, 1, 0, 0, 0), (.iconst 0, 1, 0, 0, 0), (.iconst 3, 1, 3, 0, 0)], some (.invokevirtual 106, 3, 70, 3, 2)),
  (148, [(.aload_n 1, 1, 0, 0, 0), (.iconst 1, 1, 1, 0, 0), (.iconst 3, 1, 3, 0, 0)], some (.invokevirtual 106, 3, 70, 3, 2)),
  (154, [(.iadd, 1, 0, 0, 0), (.istore 10, 2, 0, 0, 0), (.iload 9, 2, 0, 0, 0), (.iload 8, 2, 0, 0, 0)], some (.if_icmp .ne 102, 3, 0, 0, 0)),
  (164, [(.aload_n 1, 1, 0, 0, 0), (.iconst 0, 1, 0, 0, 0)], some (.invokevirtual 109, 3, 71, 2, 2)),
  (169, [(.bipush 36, 2, 36, 0, 0), (.iload 8, 2, 0, 0, 0)], some (.invokestatic 45, 3, 87, 1, 0)),
  (176, [(.isub, 1, 0, 0, 0)], some (.if_icmp .ne 86, 3, 0, 0, 0)),
  (180, [(.iload 10, 2, 0, 0, 0), (.iload 8, 2, 0, 0, 0)], some (.invokestatic 45, 3, 87, 1, 0)),
  (187, [], some (.if_icmp .ne 76, 3, 0, 0, 0)),
  (190, [(.aload_n 1, 1, 0, 0, 0), (.iconst 0, 1, 0, 0, 0), (.iconst 0, 1, 0, 0, 0)], some (.invokevirtual 106, 3, 70, 3, 2)),
  (196, [(.aload_n 1, 1, 0, 0, 0), (.iconst 0, 1, 0, 0, 0), (.iconst 3, 1, 3, 0, 0)], some (.invokevirtual 106, 3, 70, 3, 2)),
  (202, [], some (.if_icmp .gt 61, 3, 0, 0, 0)),
  (205, [(.aload_n 1, 1, 0, 0, 0), (.iconst 1, 1, 1, 0, 0), (.iconst 0, 1, 0, 0, 0)], some (.invokevirtual 106, 3, 70, 3, 2)),
  (211, [], some (.ifCond .ne 7, 3, 0, 0, 0)),
  (214, [(.iconst 1, 1, 1, 0, 0)], some (.goto 4, 3, 0, 0, 0)),
  (218, [(.iconst 0, 1, 0, 0, 0)], none),
  (219, [(.aload_n 1, 1, 0, 0, 0), (.iconst 1, 1, 1, 0, 0), (.iconst 3, 1, 3, 0, 0)], some (.invokevirtual 106, 3, 70, 3, 2)),
  (225, [], some (.ifCond .ne 7, 3, 0, 0, 0)),
  (228, [(.iconst 1, 1, 1, 0, 0)], some (.goto 4, 3, 0, 0, 0)),
  (232, [(.iconst 0, 1, 0, 0, 0)], none),
  (233, [], some (.if_icmp .ne 30, 3, 0, 0, 0)),
  (236, [(.aload_n 1, 1, 0, 0, 0), (.iconst 0, 1, 0, 0, 0)], some (.invokevirtual 112, 3, 66, 2, 2)),
  (241, [(.aload_n 1, 1, 0, 0, 0), (.iconst 1, 1, 1, 0, 0)], some (.invokevirtual 112, 3, 66, 2, 2)),
  (246, [(.iand, 1, 0, 0, 0)], some (.ifCond .ne 16, 3, 0, 0, 0)),
  (250, [(.aload_n 1, 1, 0, 0, 0), (.iconst 2, 1, 2, 0, 0)], some (.invokevirtual 109, 3, 71, 2, 2)),
  (255, [(.iload 8, 2, 0, 0, 0), (.iconst (-1), 1, 1, 1, 0), (.ixor, 1, 0, 0, 0), (.iand, 1, 0, 0, 0)], some (.ifCond .eq 5, 3, 0, 0, 0)),
  (263, [(.iconst 0, 1, 0, 0, 0)], some (.ireturn, 1, 1, 0, 0)),
  (265, [(.iload 7, 2, 0, 0, 0)], some (.ifCond .ne 7, 3, 0, 0, 0)),
  (270, [(.iconst 0, 1, 0, 0, 0)], some (.goto 13, 3, 0, 0, 0)),
  (274, [(.iload 4, 2, 0, 0, 0), (.iconst 3, 1, 3, 0, 0), (.ishr, 1, 0, 0, 0), (.bipush 15, 2, 15, 0, 0), (.iand, 1, 0, 0, 0), (.iload 7, 2, 0, 0, 0), (.irem, 1, 0, 0, 0)], none),
  (284, [(.istore 11, 2, 0, 0, 0), (.iload 4, 2, 0, 0, 0), (.bipush 7, 2, 7, 0, 0), (.ishr, 1, 0, 0, 0), (.bipush 63, 2, 63, 0, 0), (.iand, 1, 0, 0, 0), (.bipush 36, 2, 36, 0, 0), (.irem, 1, 0, 0, 0), (.istore 12, 2, 0, 0, 0), (.iload 4, 2, 0, 0, 0), (.bipush 7, 2, 7, 0, 0), (.iand, 1, 0, 0, 0)], some (.tableswitch 875 0 6 #[44, 44, 44, 411, 525, 600, 726], 44, 0, 0, 0)),
  (348, [(.aload_n 1, 1, 0, 0, 0), (.iconst 0, 1, 0, 0, 0)], some (.invokevirtual 115, 3, 64, 2, 2)),
  (353, [(.istore 13, 2, 0, 0, 0), (.aload_n 1, 1, 0, 0, 0), (.iconst 1, 1, 1, 0, 0)], some (.invokevirtual 115, 3, 64, 2, 2)),
  (360, [(.istore 14, 2, 0, 0, 0), (.aload_n 1, 1, 0, 0, 0), (.iconst 2, 1, 2, 0, 0)], some (.invokevirtual 115, 3, 64, 2, 2)),
  (367, [(.istore 15, 2, 0, 0, 0), (.aload_n 1, 1, 0, 0, 0), (.iconst 2, 1, 2, 0, 0)], some (.invokevirtual 89, 3, 74, 2, 2)),
  (374, [(.istore 16, 2, 0, 0, 0), (.aload_n 1, 1, 0, 0, 0), (.iconst 3, 1, 3, 0, 0)], some (.invokevirtual 89, 3, 74, 2, 2)),
  (381, [(.istore 17, 2, 0, 0, 0), (.aload_n 1, 1, 0, 0, 0), (.iconst 1, 1, 1, 0, 0)], some (.invokevirtual 89, 3, 74, 2, 2)),
  (388, [(.istore 18, 2, 0, 0, 0), (.aload_n 1, 1, 0, 0, 0), (.iload 16, 2, 0, 0, 0), (.iconst 3, 1, 3, 0, 0)], some (.invokevirtual 106, 3, 70, 3, 2)),
  (397, [(.istore 19, 2, 0, 0, 0), (.iload 13, 2, 0, 0, 0)], some (.ifCond .ge 8, 3, 0, 0, 0)),
  (404, [(.bipush (-4), 2, 4, 1, 0)], some (.goto 9, 3, 0, 0, 0)),
  (409, [(.aload_n 1, 1, 0, 0, 0), (.iload 14, 2, 0, 0, 0)], some (.invokevirtual 104, 3, 53, 2, 2)),
  (415, [(.istore 20, 2, 0, 0, 0), (.iload 7, 2, 0, 0, 0)], some (.ifCond .ne 7, 3, 0, 0, 0)),
  (422, [(.iconst 0, 1, 0, 0, 0)], some (.goto 10, 3, 0, 0, 0)),
  (426, [(.aload_n 1, 1, 0, 0, 0), (.iload 11, 2, 0, 0, 0), (.iconst 3, 1, 3, 0, 0)], some (.invokevirtual 92, 3, 52, 3, 2)),
  (433, [(.istore 21, 2, 0, 0, 0), (.aload_n 1, 1, 0, 0, 0), (.iconst 1, 1, 1, 0, 0)], some (.invokevirtual 80, 3, 58, 2, 2)),
  (440, [(.istore 22, 2, 0, 0, 0), (.iload 18, 2, 0, 0, 0), (.sipush 999, 3, 999, 0, 0)], some (.if_icmp .ne 22, 3, 0, 0, 0)),
  (450, [(.iload 22, 2, 0, 0, 0), (.bipush (-3), 2, 3, 1, 0)], some (.if_icmp .ne 13, 3, 0, 0, 0)),
  (457, [(.aload_n 1, 1, 0, 0, 0)], some (.invokestatic 100, 3, 93, 1, 0)),
  (461, [(.lload 5, 2, 0, 0, 0), (.lcmp, 1, 0, 0, 0)], some (.ifCond .eq 204, 3, 0, 0, 0)),
  (467, [(.iconst 0, 1, 0, 0, 0)], some (.ireturn, 1, 1, 0, 0)),
  (469, [(.iload 13, 2, 0, 0, 0)], some (.ifCond .ge 70, 3, 0, 0, 0)),
  (474, [(.iload 14, 2, 0, 0, 0), (.bipush (-4), 2, 4, 1, 0)], some (.if_icmp .ne 61, 3, 0, 0, 0)),
  (481, [(.iload 15, 2, 0, 0, 0)], some (.ifCond .ne 56, 3, 0, 0, 0)),
  (486, [(.aload_n 1, 1, 0, 0, 0), (.iconst 4, 1, 4, 0, 0)], some (.invokevirtual 89, 3, 74, 2, 2)),
  (491, [(.iload 8, 2, 0, 0, 0)], some (.if_icmp .ne 46, 3, 0, 0, 0)),
  (496, [(.aload_n 1, 1, 0, 0, 0), (.iconst 3, 1, 3, 0, 0)], some (.invokevirtual 89, 3, 74, 2, 2)),
  (501, [(.iload 17, 2, 0, 0, 0), (.sipush 9999, 3, 9999, 0, 0)], some (.if_icmp .ge 10, 3, 0, 0, 0)),
  (509, [(.iload 17, 2, 0, 0, 0), (.iconst 1, 1, 1, 0, 0), (.iadd, 1, 0, 0, 0)], some (.goto 6, 3, 0, 0, 0)),
  (516, [(.sipush 9999, 3, 9999, 0, 0)], none),
  (519, [], some (.if_icmp .ne 20, 3, 0, 0, 0)),
  (522, [(.iload 7, 2, 0, 0, 0)], some (.ifCond .le 144, 3, 0, 0, 0)),
  (527, [(.aload_n 1, 1, 0, 0, 0), (.iload 11, 2, 0, 0, 0), (.iconst 3, 1, 3, 0, 0)], some (.invokevirtual 92, 3, 52, 3, 2)),
  (534, [(.iload 21, 2, 0, 0, 0)], some (.if_icmp .eq 132, 3, 0, 0, 0)),
  (539, [(.iconst 0, 1, 0, 0, 0)], some (.ireturn, 1, 1, 0, 0)),
  (541, [(.iconst 2, 1, 2, 0, 0), (.iload 15, 2, 0, 0, 0), (.imul, 1, 0, 0, 0), (.iload 19, 2, 0, 0, 0)], some (.if_icmp .le 119, 3, 0, 0, 0)),
  (550, [(.aload_n 1, 1, 0, 0, 0), (.iload 13, 2, 0, 0, 0), (.iconst 2, 1, 2, 0, 0)], some (.invokevirtual 92, 3, 52, 3, 2)),
  (557, [(.iload 16, 2, 0, 0, 0)], some (.if_icmp .ne 107, 3, 0, 0, 0)),
  (562, [(.aload_n 1, 1, 0, 0, 0), (.iload 13, 2, 0, 0, 0), (.iconst 3, 1, 3, 0, 0)], some (.invokevirtual 92, 3, 52, 3, 2)),
  (569, [(.iload 14, 2, 0, 0, 0)], some (.if_icmp .ne 95, 3, 0, 0, 0)),
  (574, [(.aload_n 1, 1, 0, 0, 0), (.iconst 3, 1, 3, 0, 0)], some (.invokevirtual 89, 3, 74, 2, 2)),
  (579, [(.iload 17, 2, 0, 0, 0)], some (.if_icmp .ne 85, 3, 0, 0, 0)),
  (584, [(.iload 20, 2, 0, 0, 0)], some (.ifCond .lt 27, 3, 0, 0, 0)),
  (589, [(.aload_n 1, 1, 0, 0, 0), (.iload 20, 2, 0, 0, 0), (.iconst 2, 1, 2, 0, 0)], some (.invokevirtual 92, 3, 52, 3, 2)),
  (596, [(.iload 16, 2, 0, 0, 0)], some (.if_icmp .eq 68, 3, 0, 0, 0)),
  (601, [(.aload_n 1, 1, 0, 0, 0), (.iload 20, 2, 0, 0, 0), (.iconst 3, 1, 3, 0, 0)], some (.invokevirtual 92, 3, 52, 3, 2)),
  (608, [(.bipush (-4), 2, 4, 1, 0)], some (.if_icmp .ne 56, 3, 0, 0, 0)),
  (613, [(.aload_n 1, 1, 0, 0, 0), (.iconst 4, 1, 4, 0, 0)], some (.invokevirtual 89, 3, 74, 2, 2)),
  (618, [(.iload 20, 2, 0, 0, 0)], some (.ifCond .ge 8, 3, 0, 0, 0)),
  (623, [(.iload 8, 2, 0, 0, 0)], some (.goto 12, 3, 0, 0, 0)),
  (628, [(.iload 8, 2, 0, 0, 0), (.iconst 1, 1, 1, 0, 0), (.iload 20, 2, 0, 0, 0), (.ishl, 1, 0, 0, 0), (.iconst (-1), 1, 1, 1, 0), (.ixor, 1, 0, 0, 0), (.iand, 1, 0, 0, 0)], none),
  (637, [], some (.if_icmp .ne 29, 3, 0, 0, 0)),
  (640, [(.iload 11, 2, 0, 0, 0), (.iload 13, 2, 0, 0, 0)], some (.if_icmp .eq 24, 3, 0, 0, 0)),
  (647, [(.iload 11, 2, 0, 0, 0), (.iload 20, 2, 0, 0, 0)], some (.if_icmp .eq 17, 3, 0, 0, 0)),
  (654, [(.aload_n 1, 1, 0, 0, 0), (.iload 11, 2, 0, 0, 0), (.iconst 3, 1, 3, 0, 0)], some (.invokevirtual 92, 3, 52, 3, 2)),
  (661, [(.iload 21, 2, 0, 0, 0)], some (.if_icmp .eq 5, 3, 0, 0, 0)),
  (666, [(.iconst 0, 1, 0, 0, 0)], some (.ireturn, 1, 1, 0, 0)),
  (668, [(.iload 18, 2, 0, 0, 0), (.sipush 999, 3, 999, 0, 0)], some (.if_icmp .ge 666, 3, 0, 0, 0)),
  (676, [(.iload 22, 2, 0, 0, 0), (.aload_n 1, 1, 0, 0, 0), (.iconst 4, 1, 4, 0, 0)], some (.invokevirtual 89, 3, 74, 2, 2)),
  (683, [], some (.invokestatic 45, 3, 87, 1, 0)),
  (686, [], some (.if_icmp .ne 27, 3, 0, 0, 0)),
  (689, [(.aload_n 1, 1, 0, 0, 0), (.iconst 1, 1, 1, 0, 0)], some (.invokevirtual 89, 3, 74, 2, 2)),
  (694, [(.iload 18, 2, 0, 0, 0), (.iconst 1, 1, 1, 0, 0), (.iadd, 1, 0, 0, 0)], some (.if_icmp .ne 15, 3, 0, 0, 0)),
  (701, [(.aload_n 1, 1, 0, 0, 0), (.iconst 2, 1, 2, 0, 0)], some (.invokevirtual 89, 3, 74, 2, 2)),
  (706, [(.iconst 1, 1, 1, 0, 0), (.iload 16, 2, 0, 0, 0), (.isub, 1, 0, 0, 0)], some (.if_icmp .eq 629, 3, 0, 0, 0)),
  (713, [(.iconst 0, 1, 0, 0, 0)], some (.ireturn, 1, 1, 0, 0)),
  (715, [(.aload_n 1, 1, 0, 0, 0), (.iload 12, 2, 0, 0, 0)], some (.invokevirtual 104, 3, 53, 2, 2)),
  (721, [(.istore 13, 2, 0, 0, 0), (.iload 7, 2, 0, 0, 0)], some (.ifCond .ne 7, 3, 0, 0, 0)),
  (728, [(.iconst 0, 1, 0, 0, 0)], some (.goto 10, 3, 0, 0, 0)),
  (732, [(.aload_n 1, 1, 0, 0, 0), (.iload 11, 2, 0, 0, 0), (.iconst 3, 1, 3, 0, 0)], some (.invokevirtual 92, 3, 52, 3, 2)),
  (739, [(.istore 14, 2, 0, 0, 0), (.aload_n 1, 1, 0, 0, 0), (.iload 11, 2, 0, 0, 0), (.iload 12, 2, 0, 0, 0)], some (.invokevirtual 118, 3, 55, 3, 2)),
  (749, [(.istore 15, 2, 0, 0, 0), (.iload 7, 2, 0, 0, 0)], some (.ifCond .le 19, 3, 0, 0, 0)),
  (756, [(.iload 13, 2, 0, 0, 0)], some (.ifCond .lt 10, 3, 0, 0, 0)),
  (761, [(.iload 13, 2, 0, 0, 0), (.iload 11, 2, 0, 0, 0)], some (.if_icmp .ne 7, 3, 0, 0, 0)),
  (768, [(.iconst 1, 1, 1, 0, 0)], some (.goto 4, 3, 0, 0, 0)),
  (772, [(.iconst 0, 1, 0, 0, 0)], none),
  (773, [(.istore 16, 2, 0, 0, 0), (.iload 16, 2, 0, 0, 0)], some (.ifCond .eq 24, 3, 0, 0, 0)),
  (780, [(.iload 15, 2, 0, 0, 0), (.iload 14, 2, 0, 0, 0)], some (.if_icmp .ne 43, 3, 0, 0, 0)),
  (787, [(.aload_n 1, 1, 0, 0, 0), (.iload 12, 2, 0, 0, 0)], some (.invokevirtual 104, 3, 53, 2, 2)),
  (793, [(.iload 11, 2, 0, 0, 0)], some (.if_icmp .eq 544, 3, 0, 0, 0)),
  (798, [], some (.goto 29, 3, 0, 0, 0)),
  (801, [(.iload 15, 2, 0, 0, 0), (.iload 7, 2, 0, 0, 0)], some (.ifCond .ne 7, 3, 0, 0, 0)),
  (808, [(.iconst (-1), 1, 1, 1, 0)], some (.goto 5, 3, 0, 0, 0)),
  (812, [(.bipush (-3), 2, 3, 1, 0)], none),
  (814, [], some (.if_icmp .ne 13, 3, 0, 0, 0)),
  (817, [(.aload_n 1, 1, 0, 0, 0)], some (.invokestatic 100, 3, 93, 1, 0)),
  (821, [(.lload 5, 2, 0, 0, 0), (.lcmp, 1, 0, 0, 0)], some (.ifCond .eq 515, 3, 0, 0, 0)),
  (827, [(.iconst 0, 1, 0, 0, 0)], some (.ireturn, 1, 1, 0, 0)),
  (829, [(.aload_n 1, 1, 0, 0, 0)], some (.invokevirtual 121, 3, 72, 1, 2)),
  (833, [(.istore 13, 2, 0, 0, 0), (.aload_n 1, 1, 0, 0, 0), (.bipush 9, 2, 9, 0, 0)], some (.invokevirtual 80, 3, 58, 2, 2)),
  (841, [(.aload_n 1, 1, 0, 0, 0), (.iload 11, 2, 0, 0, 0), (.iload 12, 2, 0, 0, 0)], some (.invokevirtual 118, 3, 55, 3, 2)),
  (849, [(.iadd, 1, 0, 0, 0), (.aload_n 1, 1, 0, 0, 0), (.iload 11, 2, 0, 0, 0)], some (.invokevirtual 70, 3, 56, 2, 2)),
  (856, [(.iadd, 1, 0, 0, 0), (.aload_n 1, 1, 0, 0, 0), (.iconst 1, 1, 1, 0, 0)], some (.invokevirtual 73, 3, 57, 2, 2)),
  (862, [(.iadd, 1, 0, 0, 0), (.aload_n 1, 1, 0, 0, 0), (.iconst 1, 1, 1, 0, 0), (.iconst 1, 1, 1, 0, 0), (.iconst 4, 1, 4, 0, 0), (.iconst 2, 1, 2, 0, 0)], some (.invokevirtual 61, 3, 75, 5, 2)),
  (871, [(.iadd, 1, 0, 0, 0), (.aload_n 1, 1, 0, 0, 0), (.iconst 1, 1, 1, 0, 0), (.iconst 0, 1, 0, 0, 0), (.iload 12, 2, 0, 0, 0)], some (.invokevirtual 67, 3, 54, 4, 2)),
  (880, [(.iadd, 1, 0, 0, 0), (.istore 14, 2, 0, 0, 0), (.aload_n 1, 1, 0, 0, 0)], some (.invokevirtual 125, 3, 73, 1, 2)),
  (887, [(.iload 13, 2, 0, 0, 0)], some (.if_icmp .ne 13, 3, 0, 0, 0)),
  (892, [(.aload_n 1, 1, 0, 0, 0)], some (.invokestatic 100, 3, 93, 1, 0)),
  (896, [(.lload 5, 2, 0, 0, 0), (.lcmp, 1, 0, 0, 0)], some (.ifCond .eq 440, 3, 0, 0, 0)),
  (902, [(.iconst 0, 1, 0, 0, 0)], some (.ireturn, 1, 1, 0, 0)),
  (904, [(.aload_n 1, 1, 0, 0, 0), (.bipush 10, 2, 10, 0, 0), (.iconst 0, 1, 0, 0, 0)], some (.invokevirtual 92, 3, 52, 3, 2)),
  (911, [(.aload_n 1, 1, 0, 0, 0), (.iconst 0, 1, 0, 0, 0)], some (.invokevirtual 80, 3, 58, 2, 2)),
  (916, [(.iadd, 1, 0, 0, 0), (.aload_n 1, 1, 0, 0, 0), (.iconst 2, 1, 2, 0, 0)], some (.invokevirtual 73, 3, 57, 2, 2)),
  (922, [(.iadd, 1, 0, 0, 0), (.aload_n 1, 1, 0, 0, 0), (.iconst 3, 1, 3, 0, 0)], some (.invokevirtual 115, 3, 64, 2, 2)),
  (928, [(.iadd, 1, 0, 0, 0), (.aload_n 1, 1, 0, 0, 0), (.iconst 3, 1, 3, 0, 0)], some (.invokevirtual 109, 3, 71, 2, 2)),
  (934, [(.iadd, 1, 0, 0, 0), (.aload_n 1, 1, 0, 0, 0), (.bipush 9, 2, 9, 0, 0)], some (.invokevirtual 128, 3, 51, 2, 2)),
  (941, [(.iadd, 1, 0, 0, 0), (.istore 13, 2, 0, 0, 0), (.aload_n 1, 1, 0, 0, 0), (.bipush 20, 2, 20, 0, 0), (.iconst 0, 1, 0, 0, 0)], some (.invokevirtual 131, 3, 60, 3, 2)),
  (951, [(.aload_n 1, 1, 0, 0, 0)], some (.invokevirtual 134, 3, 63, 1, 2)),
  (955, [(.iadd, 1, 0, 0, 0), (.aload_n 1, 1, 0, 0, 0), (.iconst 3, 1, 3, 0, 0)], some (.invokevirtual 137, 3, 69, 2, 2)),
  (961, [(.iadd, 1, 0, 0, 0), (.aload_n 1, 1, 0, 0, 0), (.iconst (-1), 1, 1, 1, 0)], some (.invokevirtual 140, 3, 62, 2, 2)),
  (967, [(.iadd, 1, 0, 0, 0), (.istore 14, 2, 0, 0, 0), (.iload 13, 2, 0, 0, 0), (.bipush (-6), 2, 6, 1, 0)], some (.if_icmp .ne 54, 3, 0, 0, 0)),
  (977, [(.aload_n 1, 1, 0, 0, 0)], some (.invokestatic 100, 3, 93, 1, 0)),
  (981, [(.lload 5, 2, 0, 0, 0), (.lcmp, 1, 0, 0, 0)], some (.ifCond .ne 44, 3, 0, 0, 0)),
  (987, [(.aload_n 1, 1, 0, 0, 0), (.iconst 0, 1, 0, 0, 0), (.iconst 0, 1, 0, 0, 0)], some (.invokevirtual 131, 3, 60, 3, 2)),
  (993, [(.iload 8, 2, 0, 0, 0)], some (.if_icmp .ne 33, 3, 0, 0, 0)),
  (998, [(.aload_n 1, 1, 0, 0, 0), (.bipush 20, 2, 20, 0, 0), (.iconst 0, 1, 0, 0, 0)], some (.invokevirtual 131, 3, 60, 3, 2)),
  (1005, [(.iload 8, 2, 0, 0, 0), (.iconst (-1), 1, 1, 1, 0), (.ixor, 1, 0, 0, 0), (.iand, 1, 0, 0, 0)], some (.ifCond .ne 18, 3, 0, 0, 0)),
  (1013, [(.aload_n 1, 1, 0, 0, 0), (.bipush 20, 2, 20, 0, 0), (.iconst 1, 1, 1, 0, 0)], some (.invokevirtual 131, 3, 60, 3, 2)),
  (1020, [(.aload_n 1, 1, 0, 0, 0), (.iconst 3, 1, 3, 0, 0)], some (.invokevirtual 89, 3, 74, 2, 2)),
  (1025, [], some (.if_icmp .ge 314, 3, 0, 0, 0)),
  (1028, [(.iconst 0, 1, 0, 0, 0)], some (.ireturn, 1, 1, 0, 0)),
  (1030, [(.iload 7, 2, 0, 0, 0)], some (.ifCond .le 307, 3, 0, 0, 0)),
  (1035, [(.iload 8, 2, 0, 0, 0), (.iload 11, 2, 0, 0, 0), (.ishr, 1, 0, 0, 0), (.iconst 1, 1, 1, 0, 0), (.iand, 1, 0, 0, 0), (.iconst 1, 1, 1, 0, 0)], some (.if_icmp .ne 7, 3, 0, 0, 0)),
  (1046, [(.iconst 1, 1, 1, 0, 0)], some (.goto 4, 3, 0, 0, 0)),
  (1050, [(.iconst 0, 1, 0, 0, 0)], none),
  (1051, [(.istore 13, 2, 0, 0, 0), (.aload_n 1, 1, 0, 0, 0), (.iload 11, 2, 0, 0, 0), (.iconst 3, 1, 3, 0, 0)], some (.invokevirtual 92, 3, 52, 3, 2)),
  (1060, [(.istore 14, 2, 0, 0, 0), (.aload_n 1, 1, 0, 0, 0), (.iload 11, 2, 0, 0, 0), (.iconst 5, 1, 5, 0, 0)], some (.invokevirtual 92, 3, 52, 3, 2)),
  (1069, [(.istore 15, 2, 0, 0, 0), (.aload_n 1, 1, 0, 0, 0), (.iload 11, 2, 0, 0, 0), (.iconst 2, 1, 2, 0, 0)], some (.invokevirtual 92, 3, 52, 3, 2)),
  (1078, [(.istore 16, 2, 0, 0, 0), (.aload_n 1, 1, 0, 0, 0), (.iload 16, 2, 0, 0, 0), (.iconst 1, 1, 1, 0, 0)], some (.invokevirtual 106, 3, 70, 3, 2)),
  (1087, [(.istore 17, 2, 0, 0, 0), (.aload_n 1, 1, 0, 0, 0), (.iload 11, 2, 0, 0, 0)], some (.invokevirtual 70, 3, 56, 2, 2)),
  (1095, [(.iload 13, 2, 0, 0, 0)], some (.ifCond .eq 8, 3, 0, 0, 0)),
  (1100, [(.iload 14, 2, 0, 0, 0)], some (.goto 5, 3, 0, 0, 0)),
  (1105, [(.bipush (-3), 2, 3, 1, 0)], none),
  (1107, [], some (.if_icmp .ne 67, 3, 0, 0, 0)),
  (1110, [(.aload_n 1, 1, 0, 0, 0), (.iload 11, 2, 0, 0, 0)], some (.invokevirtual 140, 3, 62, 2, 2)),
  (1116, [], some (.ifCond .ne 58, 3, 0, 0, 0)),
  (1119, [(.aload_n 1, 1, 0, 0, 0), (.iload 16, 2, 0, 0, 0), (.iconst 1, 1, 1, 0, 0)], some (.invokevirtual 106, 3, 70, 3, 2)),
  (1126, [(.iload 13, 2, 0, 0, 0)], some (.ifCond .eq 11, 3, 0, 0, 0)),
  (1131, [(.iload 17, 2, 0, 0, 0), (.iload 15, 2, 0, 0, 0), (.isub, 1, 0, 0, 0)], some (.goto 5, 3, 0, 0, 0)),
  (1139, [(.iload 17, 2, 0, 0, 0)], none),
  (1141, [], some (.if_icmp .ne 33, 3, 0, 0, 0)),
  (1144, [(.aload_n 1, 1, 0, 0, 0), (.iconst 4, 1, 4, 0, 0)], some (.invokevirtual 89, 3, 74, 2, 2)),
  (1149, [(.iload 8, 2, 0, 0, 0), (.iconst 1, 1, 1, 0, 0), (.iload 11, 2, 0, 0, 0), (.ishl, 1, 0, 0, 0), (.iconst (-1), 1, 1, 1, 0), (.ixor, 1, 0, 0, 0), (.iand, 1, 0, 0, 0)], some (.if_icmp .ne 16, 3, 0, 0, 0)),
  (1161, [(.aload_n 1, 1, 0, 0, 0), (.iload 11, 2, 0, 0, 0), (.bipush 6, 2, 6, 0, 0)], some (.invokevirtual 92, 3, 52, 3, 2)),
  (1169, [(.bipush (-4), 2, 4, 1, 0)], some (.if_icmp .eq 5, 3, 0, 0, 0)),
  (1174, [(.iconst 0, 1, 0, 0, 0)], some (.ireturn, 1, 1, 0, 0)),
  (1176, [], some (.goto 163, 3, 0, 0, 0)),
  (1179, [(.iload 7, 2, 0, 0, 0)], some (.ifCond .le 158, 3, 0, 0, 0)),
  (1184, [(.iload 8, 2, 0, 0, 0), (.iload 11, 2, 0, 0, 0), (.ishr, 1, 0, 0, 0), (.iconst 1, 1, 1, 0, 0), (.iand, 1, 0, 0, 0), (.iconst 1, 1, 1, 0, 0)], some (.if_icmp .ne 147, 3, 0, 0, 0)),
  (1195, [(.aload_n 1, 1, 0, 0, 0), (.iload 11, 2, 0, 0, 0)], some (.invokevirtual 143, 3, 65, 2, 2)),
  (1201, [(.istore 13, 2, 0, 0, 0), (.aload_n 1, 1, 0, 0, 0), (.iload 11, 2, 0, 0, 0), (.iconst 3, 1, 3, 0, 0), (.iconst 0, 1, 0, 0, 0)], some (.invokevirtual 145, 3, 68, 4, 2)),
  (1211, [(.istore 14, 2, 0, 0, 0), (.aload_n 1, 1, 0, 0, 0), (.iload 11, 2, 0, 0, 0), (.iconst 3, 1, 3, 0, 0), (.iconst 1, 1, 1, 0, 0)], some (.invokevirtual 145, 3, 68, 4, 2)),
  (1221, [(.istore 15, 2, 0, 0, 0), (.aload_n 1, 1, 0, 0, 0), (.iload 11, 2, 0, 0, 0), (.iconst 2, 1, 2, 0, 0)], some (.invokevirtual 92, 3, 52, 3, 2)),
  (1230, [(.istore 16, 2, 0, 0, 0), (.iload 13, 2, 0, 0, 0), (.iload 11, 2, 0, 0, 0), (.ishr, 1, 0, 0, 0), (.iconst 1, 1, 1, 0, 0), (.iand, 1, 0, 0, 0)], some (.ifCond .eq 98, 3, 0, 0, 0)),
  (1242, [(.iload 13, 2, 0, 0, 0), (.iload 8, 2, 0, 0, 0), (.iconst (-1), 1, 1, 1, 0), (.ixor, 1, 0, 0, 0), (.iand, 1, 0, 0, 0)], some (.ifCond .ne 88, 3, 0, 0, 0)),
  (1252, [(.aload_n 1, 1, 0, 0, 0), (.iload 14, 2, 0, 0, 0)], some (.invokevirtual 104, 3, 53, 2, 2)),
  (1258, [], some (.ifCond .lt 14, 3, 0, 0, 0)),
  (1261, [(.aload_n 1, 1, 0, 0, 0), (.iload 14, 2, 0, 0, 0)], some (.invokevirtual 104, 3, 53, 2, 2)),
  (1267, [(.iload 11, 2, 0, 0, 0)], some (.if_icmp .ne 68, 3, 0, 0, 0)),
  (1272, [(.aload_n 1, 1, 0, 0, 0), (.iconst 3, 1, 3, 0, 0), (.iconst 2, 1, 2, 0, 0), (.iload 16, 2, 0, 0, 0), (.iadd, 1, 0, 0, 0)], some (.invokevirtual 131, 3, 60, 3, 2)),
  (1281, [(.aload_n 1, 1, 0, 0, 0), (.iconst 3, 1, 3, 0, 0), (.iconst 3, 1, 3, 0, 0), (.iload 16, 2, 0, 0, 0), (.isub, 1, 0, 0, 0)], some (.invokevirtual 131, 3, 60, 3, 2)),
  (1290, [(.isub, 1, 0, 0, 0), (.bipush 100, 2, 100, 0, 0), (.iadd, 1, 0, 0, 0), (.iload 15, 2, 0, 0, 0)], some (.if_icmp .gt 41, 3, 0, 0, 0)),
  (1299, [(.aload_n 1, 1, 0, 0, 0), (.iload 11, 2, 0, 0, 0), (.iload 14, 2, 0, 0, 0)], some (.invokevirtual 118, 3, 55, 3, 2)),
  (1307, [], some (.ifCond .lt 30, 3, 0, 0, 0)),
  (1310, [(.aload_n 1, 1, 0, 0, 0), (.iconst 3, 1, 3, 0, 0), (.iconst 2, 1, 2, 0, 0), (.iload 16, 2, 0, 0, 0), (.iadd, 1, 0, 0, 0)], some (.invokevirtual 131, 3, 60, 3, 2)),
  (1319, [(.aload_n 1, 1, 0, 0, 0), (.iconst 3, 1, 3, 0, 0), (.iconst 3, 1, 3, 0, 0), (.iload 16, 2, 0, 0, 0), (.isub, 1, 0, 0, 0)], some (.invokevirtual 131, 3, 60, 3, 2)),
  (1328, [(.isub, 1, 0, 0, 0), (.bipush 100, 2, 100, 0, 0), (.iadd, 1, 0, 0, 0), (.iload 15, 2, 0, 0, 0)], some (.if_icmp .eq 5, 3, 0, 0, 0)),
  (1337, [(.iconst 0, 1, 0, 0, 0)], some (.ireturn, 1, 1, 0, 0)),
  (1339, [(.iinc 3 1, 3, 1, 0, 0)], some (.goto (-1314), 3, 0, 0, 0)),
  (1345, [(.iconst 1, 1, 1, 0, 0)], some (.ireturn, 1, 1, 0, 0))]
def gfT : List (Nat × Nat × Nat × Nat) := [(0, 9, 0, 0), (0, 15, 0, 1), (0, 18, 0, 2), (0, 21, 0, 3), (0, 24, 0, 4), (0, 27, 0, 5), (0, 31, 0, 6), (0, 34, 0, 7), (0, 37, 0, 8), (1, 24, 1, 4), (1, 27, 1, 5), (2, 10, 2, 0), (2, 16, 2, 1), (2, 19, 2, 2), (2, 25, 2, 3), (2, 33, 2, 5), (2, 36, 2, 6), (2, 59, 1, 3), (2, 70, 1, 4), (2, 91, 0, 0), (2, 94, 0, 1), (2, 97, 0, 2), (2, 111, 0, 8), (2, 120, 0, 4), (2, 126, 0, 5), (2, 129, 1, 1), (2, 131, 1, 2), (2, 144, 0, 6), (2, 163, 0, 7), (2, 261, 1, 0)]
def csT : List (Nat × Nat × Nat × Nat) := [(0, 100, 26, 1), (0, 109, 24, 2), (0, 139, 34, 2), (2, 55, 49, 2), (2, 103, 24, 2), (2, 108, 34, 2), (2, 117, 11, 1), (2, 123, 9, 1), (2, 187, 26, 1), (2, 264, 7, 1), (2, 267, 8, 1), (8, 9, 78, 2), (8, 15, 79, 3), (8, 19, 80, 3), (8, 23, 82, 4), (8, 27, 81, 2), (8, 31, 84, 1), (8, 35, 85, 3), (8, 39, 83, 3), (8, 42, 86, 2), (8, 45, 87, 1), (8, 48, 88, 2), (8, 51, 89, 1), (8, 58, 77, 2), (8, 76, 90, 2), (8, 82, 91, 2), (8, 96, 92, 4), (8, 100, 93, 1)]
def cnT : List (Nat × Nat × Nat × Nat) := [(0, 59, 7, 1), (0, 62, 8, 1), (0, 65, 9, 1), (0, 71, 11, 1), (0, 114, 20, 2)]
def cvT : List (Nat × Nat × Nat × Nat) := [(0, 52, 1, 2), (0, 56, 2, 2), (0, 68, 5, 2), (0, 74, 12, 2), (0, 77, 29, 3), (0, 81, 28, 4), (0, 85, 23, 3), (0, 89, 13, 3), (0, 93, 3, 3), (0, 96, 25, 3), (0, 106, 27, 2), (0, 117, 17, 2), (0, 120, 18, 4), (0, 124, 19, 3), (0, 127, 21, 2), (0, 130, 16, 4), (0, 133, 22, 2), (0, 136, 6, 3), (0, 142, 35, 2), (0, 145, 37, 2), (1, 37, 42, 2), (1, 42, 43, 2), (1, 46, 44, 2), (1, 49, 46, 2), (2, 51, 48, 2), (2, 62, 45, 1), (2, 66, 0, 2), (2, 73, 50, 3), (2, 77, 44, 2), (2, 87, 1, 2), (2, 100, 4, 2), (2, 114, 23, 3), (2, 133, 10, 5), (2, 137, 13, 3), (2, 141, 12, 2), (2, 147, 15, 2), (2, 150, 30, 2), (2, 153, 32, 1), (2, 156, 59, 2), (2, 160, 33, 1), (2, 166, 35, 2), (2, 169, 61, 1), (2, 172, 2, 2), (2, 175, 29, 3), (2, 179, 28, 4), (2, 183, 25, 3), (2, 192, 3, 3), (2, 195, 6, 3), (2, 198, 67, 3), (2, 201, 31, 2), (2, 204, 36, 2), (2, 213, 38, 2), (2, 216, 39, 2), (2, 219, 27, 2), (2, 222, 40, 1), (2, 225, 41, 2), (2, 228, 14, 4), (2, 252, 43, 2), (2, 316, 46, 2), (2, 319, 47, 2), (8, 61, 75, 5), (8, 67, 54, 4), (8, 70, 56, 2), (8, 73, 57, 2), (8, 80, 58, 2), (8, 89, 74, 2), (8, 92, 52, 3), (8, 104, 53, 2), (8, 106, 70, 3), (8, 109, 71, 2), (8, 112, 66, 2), (8, 115, 64, 2), (8, 118, 55, 3), (8, 121, 72, 1), (8, 125, 73, 1), (8, 128, 51, 2), (8, 131, 60, 3), (8, 134, 63, 1), (8, 137, 69, 2), (8, 140, 62, 2), (8, 143, 65, 2), (8, 145, 68, 4)]
def ldT : List (Nat × Nat × Nat × Nat) := [(5, 265, 1431655765, 0), (5, 266, 858993459, 0), (5, 267, 252645135, 0), (8, 7, 69069, 0), (8, 8, 1103515245, 0)]
def llT : List (Nat × Nat × Nat) := [(8, 85, 7), (8, 87, 31)]
def acT : List (Nat × Nat) := [(0, 46)]
def mxT : List (Nat × Nat) := [(2, 81)]
def cnm : Nat → String
  | 0 => RX0
  | 1 => RX2
  | 2 => RX3
  | 3 => RX4
  | 4 => RX1
  | 5 => RJ6
  | 6 => RJ9
  | 7 => RJ7
  | _ => RL
