/-! THE METHODS AS BLOCKS, by program out of the printed decode rows (wip/whole/gen03.py) -/
abbrev jX0_becomes : Nat := 0
def bX0_becomes : List Blk := [(0, [(.aload_n 1, 1, 0, 0, 0), (.getfield 9, 3, 0, 0, 0), (.iconst 0, 1, 0, 0, 0), (.aload_n 0, 1, 0, 0, 0), (.getfield 9, 3, 0, 0, 0), (.iconst 0, 1, 0, 0, 0), (.bipush 10, 2, 10, 0, 0), (.invokestatic 46, 3, 0, 0, 0), (.aload_n 1, 1, 0, 0, 0), (.getfield 15, 3, 0, 1, 0), (.iconst 0, 1, 0, 0, 0), (.aload_n 0, 1, 0, 0, 0), (.getfield 15, 3, 0, 1, 0), (.iconst 0, 1, 0, 0, 0), (.bipush 10, 2, 10, 0, 0), (.invokestatic 46, 3, 0, 0, 0), (.aload_n 1, 1, 0, 0, 0), (.getfield 18, 3, 0, 2, 0), (.iconst 0, 1, 0, 0, 0), (.aload_n 0, 1, 0, 0, 0), (.getfield 18, 3, 0, 2, 0), (.iconst 0, 1, 0, 0, 0), (.bipush 10, 2, 10, 0, 0), (.invokestatic 46, 3, 0, 0, 0), (.aload_n 1, 1, 0, 0, 0), (.getfield 21, 3, 0, 3, 0), (.iconst 0, 1, 0, 0, 0), (.aload_n 0, 1, 0, 0, 0), (.getfield 21, 3, 0, 3, 0), (.iconst 0, 1, 0, 0, 0), (.bipush 10, 2, 10, 0, 0), (.invokestatic 46, 3, 0, 0, 0), (.aload_n 1, 1, 0, 0, 0), (.getfield 24, 3, 0, 4, 0), (.iconst 0, 1, 0, 0, 0), (.aload_n 0, 1, 0, 0, 0), (.getfield 24, 3, 0, 4, 0), (.iconst 0, 1, 0, 0, 0), (.bipush 36, 2, 36, 0, 0), (.invokestatic 46, 3, 0, 0, 0), (.aload_n 0, 1, 0, 0, 0), (.aload_n 1, 1, 0, 0, 0), (.getfield 27, 3, 0, 5, 0), (.putfield 27, 3, 0, 5, 0), (.aload_n 0, 1, 0, 0, 0), (.aload_n 1, 1, 0, 0, 0), (.getfield 31, 3, 0, 6, 0), (.putfield 31, 3, 0, 6, 0), (.aload_n 0, 1, 0, 0, 0), (.aload_n 1, 1, 0, 0, 0), (.getfield 34, 3, 0, 7, 0), (.putfield 34, 3, 0, 7, 0), (.aload_n 0, 1, 0, 0, 0), (.aload_n 1, 1, 0, 0, 0), (.getfield 37, 3, 0, 8, 0), (.putfield 37, 3, 0, 8, 0)], some (.return_, 1, 0, 0, 0))]
def iX0_becomes : MI := (yX0_becomes, cX0_becomes, 2, none, 0, 2, bX0_becomes)
abbrev jX0_has : Nat := 1
def bX0_has : List Blk := [(0, [(.iload_n 1, 1, 0, 0, 0)], some (.ifCond .lt 21, 3, 0, 0, 0)),
  (4, [(.iload_n 1, 1, 0, 0, 0), (.aload_n 0, 1, 0, 0, 0), (.getfield 27, 3, 0, 5, 0)], some (.if_icmp .ge 13, 3, 0, 0, 0)),
  (12, [(.iload_n 1, 1, 0, 0, 0), (.bipush 10, 2, 10, 0, 0)], some (.if_icmp .ge 7, 3, 0, 0, 0)),
  (18, [(.iconst 1, 1, 1, 0, 0)], some (.goto 4, 3, 0, 0, 0)),
  (22, [(.iconst 0, 1, 0, 0, 0)], none),
  (23, [], some (.ireturn, 1, 1, 0, 0))]
def iX0_has : MI := (yX0_has, cX0_has, 2, (some .boolean), 0, 2, bX0_has)
abbrev jX0_isThere : Nat := 2
def bX0_isThere : List Blk := [(0, [(.aload_n 0, 1, 0, 0, 0), (.iload_n 1, 1, 0, 0, 0)], some (.invokevirtual 52, 3, 1, 2, 0)),
  (5, [], some (.ifCond .eq 18, 3, 0, 0, 0)),
  (8, [(.aload_n 0, 1, 0, 0, 0), (.getfield 21, 3, 0, 3, 0), (.iload_n 1, 1, 0, 0, 0), (.iaload, 1, 0, 0, 0), (.bipush 36, 2, 36, 0, 0)], some (.if_icmp .eq 7, 3, 0, 0, 0)),
  (19, [(.iconst 1, 1, 1, 0, 0)], some (.goto 4, 3, 0, 0, 0)),
  (23, [(.iconst 0, 1, 0, 0, 0)], none),
  (24, [], some (.ireturn, 1, 1, 0, 0))]
def iX0_isThere : MI := (yX0_isThere, cX0_isThere, 2, (some .boolean), 0, 2, bX0_isThere)
abbrev jX0_isThereOf : Nat := 3
def bX0_isThereOf : List Blk := [(0, [(.iload_n 1, 1, 0, 0, 0)], some (.ifCond .lt 42, 3, 0, 0, 0)),
  (4, [(.iload_n 1, 1, 0, 0, 0), (.aload_n 0, 1, 0, 0, 0), (.getfield 27, 3, 0, 5, 0)], some (.if_icmp .ge 34, 3, 0, 0, 0)),
  (12, [(.iload_n 1, 1, 0, 0, 0), (.bipush 10, 2, 10, 0, 0)], some (.if_icmp .ge 28, 3, 0, 0, 0)),
  (18, [(.aload_n 0, 1, 0, 0, 0), (.getfield 18, 3, 0, 2, 0), (.iload_n 1, 1, 0, 0, 0), (.iaload, 1, 0, 0, 0), (.iload_n 2, 1, 0, 0, 0)], some (.if_icmp .ne 18, 3, 0, 0, 0)),
  (28, [(.aload_n 0, 1, 0, 0, 0), (.getfield 21, 3, 0, 3, 0), (.iload_n 1, 1, 0, 0, 0), (.iaload, 1, 0, 0, 0), (.bipush 36, 2, 36, 0, 0)], some (.if_icmp .eq 7, 3, 0, 0, 0)),
  (39, [(.iconst 1, 1, 1, 0, 0)], some (.goto 4, 3, 0, 0, 0)),
  (43, [(.iconst 0, 1, 0, 0, 0)], none),
  (44, [], some (.ireturn, 1, 1, 0, 0))]
def iX0_isThereOf : MI := (yX0_isThereOf, cX0_isThereOf, 3, (some .boolean), 0, 3, bX0_isThereOf)
abbrev jX0_squareOf : Nat := 4
def bX0_squareOf : List Blk := [(0, [(.aload_n 0, 1, 0, 0, 0), (.iload_n 1, 1, 0, 0, 0)], some (.invokevirtual 52, 3, 1, 2, 0)),
  (5, [], some (.ifCond .eq 12, 3, 0, 0, 0)),
  (8, [(.aload_n 0, 1, 0, 0, 0), (.getfield 21, 3, 0, 3, 0), (.iload_n 1, 1, 0, 0, 0), (.iaload, 1, 0, 0, 0)], some (.goto 5, 3, 0, 0, 0)),
  (17, [(.bipush 36, 2, 36, 0, 0)], none),
  (19, [], some (.ireturn, 1, 0, 0, 0))]
def iX0_squareOf : MI := (yX0_squareOf, cX0_squareOf, 2, (some .int), 0, 2, bX0_squareOf)
abbrev jX0_squareOrNone : Nat := 5
def bX0_squareOrNone : List Blk := [(0, [(.aload_n 0, 1, 0, 0, 0), (.iload_n 1, 1, 0, 0, 0)], some (.invokevirtual 56, 3, 2, 2, 0)),
  (5, [], some (.ifCond .eq 12, 3, 0, 0, 0)),
  (8, [(.aload_n 0, 1, 0, 0, 0), (.getfield 21, 3, 0, 3, 0), (.iload_n 1, 1, 0, 0, 0), (.iaload, 1, 0, 0, 0)], some (.goto 5, 3, 0, 0, 0)),
  (17, [(.bipush (-4), 2, 4, 1, 0)], none),
  (19, [], some (.ireturn, 1, 0, 0, 0))]
def iX0_squareOrNone : MI := (yX0_squareOrNone, cX0_squareOrNone, 2, (some .int), 0, 2, bX0_squareOrNone)
abbrev jX0_isFree : Nat := 6
def bX0_isFree : List Blk := [(0, [(.iload_n 1, 1, 0, 0, 0)], some (.ifCond .lt 24, 3, 0, 0, 0)),
  (4, [(.iload_n 1, 1, 0, 0, 0), (.bipush 36, 2, 36, 0, 0)], some (.if_icmp .ge 18, 3, 0, 0, 0)),
  (10, [(.aload_n 0, 1, 0, 0, 0), (.getfield 24, 3, 0, 4, 0), (.iload_n 1, 1, 0, 0, 0), (.iaload, 1, 0, 0, 0), (.bipush (-4), 2, 4, 1, 0)], some (.if_icmp .ne 7, 3, 0, 0, 0)),
  (21, [(.iconst 1, 1, 1, 0, 0)], some (.goto 4, 3, 0, 0, 0)),
  (25, [(.iconst 0, 1, 0, 0, 0)], none),
  (26, [], some (.ireturn, 1, 1, 0, 0))]
def iX0_isFree : MI := (yX0_isFree, cX0_isFree, 2, (some .boolean), 0, 2, bX0_isFree)
abbrev jX0_isHeldBy : Nat := 7
def bX0_isHeldBy : List Blk := [(0, [(.iload_n 1, 1, 0, 0, 0)], some (.ifCond .lt 18, 3, 0, 0, 0)),
  (4, [(.iload_n 1, 1, 0, 0, 0), (.bipush 36, 2, 36, 0, 0)], some (.if_icmp .ge 12, 3, 0, 0, 0)),
  (10, [(.aload_n 0, 1, 0, 0, 0), (.getfield 24, 3, 0, 4, 0), (.iload_n 1, 1, 0, 0, 0), (.iaload, 1, 0, 0, 0)], some (.goto 5, 3, 0, 0, 0)),
  (19, [(.bipush (-4), 2, 4, 1, 0)], none),
  (21, [(.istore_n 3, 1, 0, 0, 0), (.iload_n 3, 1, 0, 0, 0)], some (.ifCond .lt 31, 3, 0, 0, 0)),
  (26, [(.iload_n 3, 1, 0, 0, 0), (.aload_n 0, 1, 0, 0, 0), (.getfield 27, 3, 0, 5, 0)], some (.if_icmp .ge 23, 3, 0, 0, 0)),
  (34, [(.iload_n 3, 1, 0, 0, 0), (.bipush 10, 2, 10, 0, 0)], some (.if_icmp .ge 17, 3, 0, 0, 0)),
  (40, [(.aload_n 0, 1, 0, 0, 0), (.getfield 18, 3, 0, 2, 0), (.iload_n 3, 1, 0, 0, 0), (.iaload, 1, 0, 0, 0), (.iload_n 2, 1, 0, 0, 0)], some (.if_icmp .ne 7, 3, 0, 0, 0)),
  (50, [(.iconst 1, 1, 1, 0, 0)], some (.goto 4, 3, 0, 0, 0)),
  (54, [(.iconst 0, 1, 0, 0, 0)], none),
  (55, [], some (.ireturn, 1, 1, 0, 0))]
def iX0_isHeldBy : MI := (yX0_isHeldBy, cX0_isHeldBy, 4, (some .boolean), 0, 3, bX0_isHeldBy)
abbrev jX3_isKind : Nat := 8
def bX3_isKind : List Blk := [(0, [(.iload_n 0, 1, 0, 0, 0)], some (.ifCond .lt 13, 3, 0, 0, 0)),
  (4, [(.iload_n 0, 1, 0, 0, 0), (.bipush 8, 2, 8, 0, 0)], some (.if_icmp .ge 7, 3, 0, 0, 0)),
  (10, [(.iconst 1, 1, 1, 0, 0)], some (.goto 4, 3, 0, 0, 0)),
  (14, [(.iconst 0, 1, 0, 0, 0)], none),
  (15, [], some (.ireturn, 1, 1, 0, 0))]
def iX3_isKind : MI := (yX3_isKind, cX3_isKind, 1, (some .boolean), 2, 1, bX3_isKind)
abbrev jX3_isFigure : Nat := 9
def bX3_isFigure : List Blk := [(0, [(.iload_n 0, 1, 0, 0, 0)], some (.ifCond .lt 13, 3, 0, 0, 0)),
  (4, [(.iload_n 0, 1, 0, 0, 0), (.bipush 10, 2, 10, 0, 0)], some (.if_icmp .ge 7, 3, 0, 0, 0)),
  (10, [(.iconst 1, 1, 1, 0, 0)], some (.goto 4, 3, 0, 0, 0)),
  (14, [(.iconst 0, 1, 0, 0, 0)], none),
  (15, [], some (.ireturn, 1, 1, 0, 0))]
def iX3_isFigure : MI := (yX3_isFigure, cX3_isFigure, 1, (some .boolean), 2, 1, bX3_isFigure)
abbrev jX3_isSide : Nat := 10
def bX3_isSide : List Blk := [(0, [(.iload_n 0, 1, 0, 0, 0)], some (.ifCond .eq 8, 3, 0, 0, 0)),
  (4, [(.iload_n 0, 1, 0, 0, 0), (.iconst 1, 1, 1, 0, 0)], some (.if_icmp .ne 7, 3, 0, 0, 0)),
  (9, [(.iconst 1, 1, 1, 0, 0)], some (.goto 4, 3, 0, 0, 0)),
  (13, [(.iconst 0, 1, 0, 0, 0)], none),
  (14, [], some (.ireturn, 1, 1, 0, 0))]
def iX3_isSide : MI := (yX3_isSide, cX3_isSide, 1, (some .boolean), 2, 1, bX3_isSide)
abbrev jX0_addPiece : Nat := 11
def bX0_addPiece : List Blk := [(0, [(.aload_n 0, 1, 0, 0, 0), (.getfield 27, 3, 0, 5, 0)], some (.ifCond .lt 42, 3, 0, 0, 0)),
  (7, [(.aload_n 0, 1, 0, 0, 0), (.getfield 27, 3, 0, 5, 0), (.bipush 10, 2, 10, 0, 0)], some (.if_icmp .ge 33, 3, 0, 0, 0)),
  (16, [(.iload_n 1, 1, 0, 0, 0)], some (.invokestatic 59, 3, 8, 1, 0)),
  (20, [], some (.ifCond .eq 26, 3, 0, 0, 0)),
  (23, [(.iload_n 2, 1, 0, 0, 0)], some (.invokestatic 62, 3, 9, 1, 0)),
  (27, [], some (.ifCond .eq 19, 3, 0, 0, 0)),
  (30, [(.iload_n 3, 1, 0, 0, 0)], some (.invokestatic 65, 3, 10, 1, 0)),
  (34, [], some (.ifCond .eq 12, 3, 0, 0, 0)),
  (37, [(.aload_n 0, 1, 0, 0, 0), (.iload 4, 2, 0, 0, 0)], some (.invokevirtual 68, 3, 6, 2, 0)),
  (43, [], some (.ifCond .ne 5, 3, 0, 0, 0)),
  (46, [(.iconst 0, 1, 0, 0, 0)], some (.ireturn, 1, 1, 0, 0)),
  (48, [(.aload_n 0, 1, 0, 0, 0), (.getfield 9, 3, 0, 0, 0), (.aload_n 0, 1, 0, 0, 0), (.getfield 27, 3, 0, 5, 0), (.iload_n 1, 1, 0, 0, 0), (.iastore, 1, 0, 0, 0), (.aload_n 0, 1, 0, 0, 0), (.getfield 15, 3, 0, 1, 0), (.aload_n 0, 1, 0, 0, 0), (.getfield 27, 3, 0, 5, 0), (.iload_n 2, 1, 0, 0, 0), (.iastore, 1, 0, 0, 0), (.aload_n 0, 1, 0, 0, 0), (.getfield 18, 3, 0, 2, 0), (.aload_n 0, 1, 0, 0, 0), (.getfield 27, 3, 0, 5, 0), (.iload_n 3, 1, 0, 0, 0), (.iastore, 1, 0, 0, 0), (.aload_n 0, 1, 0, 0, 0), (.getfield 21, 3, 0, 3, 0), (.aload_n 0, 1, 0, 0, 0), (.getfield 27, 3, 0, 5, 0), (.iload 4, 2, 0, 0, 0), (.iastore, 1, 0, 0, 0), (.aload_n 0, 1, 0, 0, 0), (.getfield 24, 3, 0, 4, 0), (.iload 4, 2, 0, 0, 0), (.aload_n 0, 1, 0, 0, 0), (.getfield 27, 3, 0, 5, 0), (.iastore, 1, 0, 0, 0), (.aload_n 0, 1, 0, 0, 0), (.dup, 1, 0, 0, 0), (.getfield 27, 3, 0, 5, 0), (.iconst 1, 1, 1, 0, 0), (.iadd, 1, 0, 0, 0), (.putfield 27, 3, 0, 5, 0), (.iconst 1, 1, 1, 0, 0)], some (.ireturn, 1, 1, 0, 0))]
def iX0_addPiece : MI := (yX0_addPiece, cX0_addPiece, 5, (some .boolean), 0, 5, bX0_addPiece)
abbrev jX3_isSquare : Nat := 12
def bX3_isSquare : List Blk := [(0, [(.iload_n 0, 1, 0, 0, 0)], some (.ifCond .lt 13, 3, 0, 0, 0)),
  (4, [(.iload_n 0, 1, 0, 0, 0), (.bipush 36, 2, 36, 0, 0)], some (.if_icmp .ge 7, 3, 0, 0, 0)),
  (10, [(.iconst 1, 1, 1, 0, 0)], some (.goto 4, 3, 0, 0, 0)),
  (14, [(.iconst 0, 1, 0, 0, 0)], none),
  (15, [], some (.ireturn, 1, 1, 0, 0))]
def iX3_isSquare : MI := (yX3_isSquare, cX3_isSquare, 1, (some .boolean), 2, 1, bX3_isSquare)
abbrev jX0_takeOff : Nat := 13
def bX0_takeOff : List Blk := [(0, [(.aload_n 0, 1, 0, 0, 0), (.iload_n 1, 1, 0, 0, 0)], some (.invokevirtual 52, 3, 1, 2, 0)),
  (5, [], some (.ifCond .eq 15, 3, 0, 0, 0)),
  (8, [(.aload_n 0, 1, 0, 0, 0), (.getfield 21, 3, 0, 3, 0), (.iload_n 1, 1, 0, 0, 0), (.iaload, 1, 0, 0, 0)], some (.invokestatic 71, 3, 12, 1, 0)),
  (17, [], some (.ifCond .ne 5, 3, 0, 0, 0)),
  (20, [(.iconst 0, 1, 0, 0, 0)], some (.ireturn, 1, 1, 0, 0)),
  (22, [(.aload_n 0, 1, 0, 0, 0), (.getfield 24, 3, 0, 4, 0), (.aload_n 0, 1, 0, 0, 0), (.getfield 21, 3, 0, 3, 0), (.iload_n 1, 1, 0, 0, 0), (.iaload, 1, 0, 0, 0), (.bipush (-4), 2, 4, 1, 0), (.iastore, 1, 0, 0, 0), (.aload_n 0, 1, 0, 0, 0), (.getfield 21, 3, 0, 3, 0), (.iload_n 1, 1, 0, 0, 0), (.bipush 36, 2, 36, 0, 0), (.iastore, 1, 0, 0, 0), (.iconst 1, 1, 1, 0, 0)], some (.ireturn, 1, 1, 0, 0))]
def iX0_takeOff : MI := (yX0_takeOff, cX0_takeOff, 2, (some .boolean), 0, 2, bX0_takeOff)
abbrev jX0_movePiece : Nat := 14
def bX0_movePiece : List Blk := [(0, [(.aload_n 0, 1, 0, 0, 0), (.iload_n 1, 1, 0, 0, 0)], some (.invokevirtual 52, 3, 1, 2, 0)),
  (5, [], some (.ifCond .eq 31, 3, 0, 0, 0)),
  (8, [(.iload_n 2, 1, 0, 0, 0)], some (.invokestatic 71, 3, 12, 1, 0)),
  (12, [], some (.ifCond .eq 24, 3, 0, 0, 0)),
  (15, [(.aload_n 0, 1, 0, 0, 0), (.getfield 24, 3, 0, 4, 0), (.iload_n 2, 1, 0, 0, 0), (.iaload, 1, 0, 0, 0), (.bipush (-4), 2, 4, 1, 0)], some (.if_icmp .eq 15, 3, 0, 0, 0)),
  (26, [(.aload_n 0, 1, 0, 0, 0), (.getfield 24, 3, 0, 4, 0), (.iload_n 2, 1, 0, 0, 0), (.iaload, 1, 0, 0, 0), (.iload_n 1, 1, 0, 0, 0)], some (.if_icmp .eq 5, 3, 0, 0, 0)),
  (36, [(.iconst 0, 1, 0, 0, 0)], some (.ireturn, 1, 1, 0, 0)),
  (38, [(.aload_n 0, 1, 0, 0, 0), (.iload_n 1, 1, 0, 0, 0)], some (.invokevirtual 74, 3, 13, 2, 0)),
  (43, [(.pop, 1, 0, 0, 0), (.aload_n 0, 1, 0, 0, 0), (.getfield 21, 3, 0, 3, 0), (.iload_n 1, 1, 0, 0, 0), (.iload_n 2, 1, 0, 0, 0), (.iastore, 1, 0, 0, 0), (.aload_n 0, 1, 0, 0, 0), (.getfield 24, 3, 0, 4, 0), (.iload_n 2, 1, 0, 0, 0), (.iload_n 1, 1, 0, 0, 0), (.iastore, 1, 0, 0, 0), (.iconst 1, 1, 1, 0, 0)], some (.ireturn, 1, 1, 0, 0))]
def iX0_movePiece : MI := (yX0_movePiece, cX0_movePiece, 3, (some .boolean), 0, 3, bX0_movePiece)
abbrev jX0_takeAllOff : Nat := 15
def bX0_takeAllOff : List Blk := [(0, [(.iconst 0, 1, 0, 0, 0), (.istore_n 1, 1, 0, 0, 0)], none),
  (2, [(.iload_n 1, 1, 0, 0, 0), (.aload_n 0, 1, 0, 0, 0), (.getfield 27, 3, 0, 5, 0)], some (.if_icmp .ge 15, 3, 0, 0, 0)),
  (10, [(.aload_n 0, 1, 0, 0, 0), (.iload_n 1, 1, 0, 0, 0)], some (.invokevirtual 74, 3, 13, 2, 0)),
  (15, [(.pop, 1, 0, 0, 0), (.iinc 1 1, 3, 1, 0, 0)], some (.goto (-17), 3, 0, 0, 0)),
  (22, [], some (.return_, 1, 0, 0, 0))]
def iX0_takeAllOff : MI := (yX0_takeAllOff, cX0_takeAllOff, 2, none, 0, 1, bX0_takeAllOff)
abbrev jX0_turnInto : Nat := 16
def bX0_turnInto : List Blk := [(0, [(.aload_n 0, 1, 0, 0, 0), (.iload_n 1, 1, 0, 0, 0)], some (.invokevirtual 52, 3, 1, 2, 0)),
  (5, [], some (.ifCond .eq 17, 3, 0, 0, 0)),
  (8, [(.iload_n 2, 1, 0, 0, 0)], some (.invokestatic 59, 3, 8, 1, 0)),
  (12, [], some (.ifCond .eq 10, 3, 0, 0, 0)),
  (15, [(.iload_n 3, 1, 0, 0, 0)], some (.invokestatic 62, 3, 9, 1, 0)),
  (19, [], some (.ifCond .ne 5, 3, 0, 0, 0)),
  (22, [(.iconst 0, 1, 0, 0, 0)], some (.ireturn, 1, 1, 0, 0)),
  (24, [(.aload_n 0, 1, 0, 0, 0), (.getfield 9, 3, 0, 0, 0), (.iload_n 1, 1, 0, 0, 0), (.iload_n 2, 1, 0, 0, 0), (.iastore, 1, 0, 0, 0), (.aload_n 0, 1, 0, 0, 0), (.getfield 15, 3, 0, 1, 0), (.iload_n 1, 1, 0, 0, 0), (.iload_n 3, 1, 0, 0, 0), (.iastore, 1, 0, 0, 0), (.iconst 1, 1, 1, 0, 0)], some (.ireturn, 1, 1, 0, 0))]
def iX0_turnInto : MI := (yX0_turnInto, cX0_turnInto, 4, (some .boolean), 0, 4, bX0_turnInto)
abbrev jX0_giveTurn : Nat := 17
def bX0_giveTurn : List Blk := [(0, [(.iload_n 1, 1, 0, 0, 0)], some (.invokestatic 65, 3, 10, 1, 0)),
  (4, [], some (.ifCond .ne 5, 3, 0, 0, 0)),
  (7, [(.iconst 0, 1, 0, 0, 0)], some (.ireturn, 1, 1, 0, 0)),
  (9, [(.aload_n 0, 1, 0, 0, 0), (.iload_n 1, 1, 0, 0, 0), (.putfield 31, 3, 0, 6, 0), (.iconst 1, 1, 1, 0, 0)], some (.ireturn, 1, 1, 0, 0))]
def iX0_giveTurn : MI := (yX0_giveTurn, cX0_giveTurn, 2, (some .boolean), 0, 2, bX0_giveTurn)
abbrev jX0_squareFrom : Nat := 18
def bX0_squareFrom : List Blk := [(0, [(.aload_n 0, 1, 0, 0, 0), (.getfield 21, 3, 0, 3, 0), (.iload_n 1, 1, 0, 0, 0), (.iaload, 1, 0, 0, 0), (.bipush 6, 2, 6, 0, 0), (.idiv, 1, 0, 0, 0), (.aload_n 0, 1, 0, 0, 0), (.getfield 18, 3, 0, 2, 0), (.iload_n 1, 1, 0, 0, 0), (.iaload, 1, 0, 0, 0)], some (.ifCond .ne 7, 3, 0, 0, 0)),
  (18, [(.iload_n 2, 1, 0, 0, 0)], some (.goto 5, 3, 0, 0, 0)),
  (22, [(.iload_n 2, 1, 0, 0, 0), (.ineg, 1, 0, 0, 0)], none),
  (24, [(.iadd, 1, 0, 0, 0), (.istore 4, 2, 0, 0, 0), (.aload_n 0, 1, 0, 0, 0), (.getfield 21, 3, 0, 3, 0), (.iload_n 1, 1, 0, 0, 0), (.iaload, 1, 0, 0, 0), (.bipush 6, 2, 6, 0, 0), (.irem, 1, 0, 0, 0), (.iload_n 3, 1, 0, 0, 0), (.iadd, 1, 0, 0, 0), (.istore 5, 2, 0, 0, 0), (.iload 4, 2, 0, 0, 0)], some (.ifCond .lt 26, 3, 0, 0, 0)),
  (45, [(.iload 4, 2, 0, 0, 0), (.bipush 6, 2, 6, 0, 0)], some (.if_icmp .ge 19, 3, 0, 0, 0)),
  (52, [(.iload 5, 2, 0, 0, 0)], some (.ifCond .lt 14, 3, 0, 0, 0)),
  (57, [(.iload 5, 2, 0, 0, 0), (.bipush 6, 2, 6, 0, 0)], some (.if_icmp .ge 7, 3, 0, 0, 0)),
  (64, [(.iconst 1, 1, 1, 0, 0)], some (.goto 4, 3, 0, 0, 0)),
  (68, [(.iconst 0, 1, 0, 0, 0)], none),
  (69, [(.istore 6, 2, 0, 0, 0), (.iload 6, 2, 0, 0, 0)], some (.ifCond .eq 14, 3, 0, 0, 0)),
  (76, [(.iload 4, 2, 0, 0, 0), (.bipush 6, 2, 6, 0, 0), (.imul, 1, 0, 0, 0), (.iload 5, 2, 0, 0, 0), (.iadd, 1, 0, 0, 0)], some (.goto 5, 3, 0, 0, 0)),
  (87, [(.bipush (-4), 2, 4, 1, 0)], none),
  (89, [], some (.ireturn, 1, 0, 0, 0))]
def iX0_squareFrom : MI := (yX0_squareFrom, cX0_squareFrom, 7, (some .int), 0, 4, bX0_squareFrom)
abbrev jX0_knightIdea : Nat := 19
def bX0_knightIdea : List Blk := [(0, [(.aload_n 0, 1, 0, 0, 0), (.iload_n 1, 1, 0, 0, 0), (.iconst 2, 1, 2, 0, 0), (.iconst 1, 1, 1, 0, 0)], some (.invokevirtual 130, 3, 18, 4, 0)),
  (7, [(.istore_n 2, 1, 0, 0, 0), (.iload_n 2, 1, 0, 0, 0), (.bipush (-4), 2, 4, 1, 0)], some (.if_icmp .eq 19, 3, 0, 0, 0)),
  (14, [(.aload_n 0, 1, 0, 0, 0), (.iload_n 2, 1, 0, 0, 0), (.aload_n 0, 1, 0, 0, 0), (.getfield 18, 3, 0, 2, 0), (.iload_n 1, 1, 0, 0, 0), (.iaload, 1, 0, 0, 0)], some (.invokevirtual 136, 3, 7, 3, 0)),
  (25, [], some (.ifCond .ne 5, 3, 0, 0, 0)),
  (28, [(.iload_n 2, 1, 0, 0, 0)], some (.ireturn, 1, 0, 0, 0)),
  (30, [(.aload_n 0, 1, 0, 0, 0), (.iload_n 1, 1, 0, 0, 0), (.iconst 2, 1, 2, 0, 0), (.iconst (-1), 1, 1, 1, 0)], some (.invokevirtual 130, 3, 18, 4, 0)),
  (37, [(.istore_n 3, 1, 0, 0, 0), (.iload_n 3, 1, 0, 0, 0), (.bipush (-4), 2, 4, 1, 0)], some (.if_icmp .eq 21, 3, 0, 0, 0)),
  (44, [(.aload_n 0, 1, 0, 0, 0), (.iload_n 3, 1, 0, 0, 0), (.aload_n 0, 1, 0, 0, 0), (.getfield 18, 3, 0, 2, 0), (.iload_n 1, 1, 0, 0, 0), (.iaload, 1, 0, 0, 0)], some (.invokevirtual 136, 3, 7, 3, 0)),
  (55, [], some (.ifCond .ne 7, 3, 0, 0, 0)),
  (58, [(.iload_n 3, 1, 0, 0, 0)], some (.goto 5, 3, 0, 0, 0)),
  (62, [(.bipush (-4), 2, 4, 1, 0)], none),
  (64, [], some (.ireturn, 1, 0, 0, 0))]
def iX0_knightIdea : MI := (yX0_knightIdea, cX0_knightIdea, 4, (some .int), 0, 2, bX0_knightIdea)
abbrev jX0_slideIdea : Nat := 20
def bX0_slideIdea : List Blk := [(0, [(.bipush (-4), 2, 4, 1, 0), (.istore 4, 2, 0, 0, 0), (.iconst 1, 1, 1, 0, 0), (.istore 5, 2, 0, 0, 0)], none),
  (7, [(.iload 5, 2, 0, 0, 0), (.bipush 6, 2, 6, 0, 0)], some (.if_icmp .ge 60, 3, 0, 0, 0)),
  (14, [(.aload_n 0, 1, 0, 0, 0), (.iload_n 1, 1, 0, 0, 0), (.iload 5, 2, 0, 0, 0), (.iload_n 2, 1, 0, 0, 0), (.imul, 1, 0, 0, 0), (.iload 5, 2, 0, 0, 0), (.iload_n 3, 1, 0, 0, 0), (.imul, 1, 0, 0, 0)], some (.invokevirtual 130, 3, 18, 4, 0)),
  (27, [(.istore 6, 2, 0, 0, 0), (.aload_n 0, 1, 0, 0, 0), (.iload 6, 2, 0, 0, 0), (.iconst 1, 1, 1, 0, 0), (.aload_n 0, 1, 0, 0, 0), (.getfield 18, 3, 0, 2, 0), (.iload_n 1, 1, 0, 0, 0), (.iaload, 1, 0, 0, 0), (.isub, 1, 0, 0, 0)], some (.invokevirtual 136, 3, 7, 3, 0)),
  (43, [], some (.ifCond .eq 6, 3, 0, 0, 0)),
  (46, [(.iload 6, 2, 0, 0, 0)], some (.ireturn, 1, 0, 0, 0)),
  (49, [(.aload_n 0, 1, 0, 0, 0), (.iload 6, 2, 0, 0, 0)], some (.invokevirtual 68, 3, 6, 2, 0)),
  (55, [], some (.ifCond .ne 6, 3, 0, 0, 0)),
  (58, [(.iload 4, 2, 0, 0, 0)], some (.ireturn, 1, 0, 0, 0)),
  (61, [(.iload 6, 2, 0, 0, 0), (.istore 4, 2, 0, 0, 0), (.iinc 5 1, 3, 1, 0, 0)], some (.goto (-61), 3, 0, 0, 0)),
  (71, [(.iload 4, 2, 0, 0, 0)], some (.ireturn, 1, 0, 0, 0))]
def iX0_slideIdea : MI := (yX0_slideIdea, cX0_slideIdea, 7, (some .int), 0, 4, bX0_slideIdea)
abbrev jX0_bishopIdea : Nat := 21
def bX0_bishopIdea : List Blk := [(0, [(.aload_n 0, 1, 0, 0, 0), (.iload_n 1, 1, 0, 0, 0), (.iconst 1, 1, 1, 0, 0), (.iconst 1, 1, 1, 0, 0)], some (.invokevirtual 130, 3, 18, 4, 0)),
  (7, [(.istore_n 3, 1, 0, 0, 0), (.aload_n 0, 1, 0, 0, 0), (.getfield 15, 3, 0, 1, 0), (.iload_n 1, 1, 0, 0, 0), (.iaload, 1, 0, 0, 0), (.iconst 2, 1, 2, 0, 0), (.iadd, 1, 0, 0, 0), (.istore 4, 2, 0, 0, 0), (.iload 4, 2, 0, 0, 0)], some (.ifCond .le 14, 3, 0, 0, 0)),
  (23, [(.iload_n 2, 1, 0, 0, 0), (.iload 4, 2, 0, 0, 0), (.irem, 1, 0, 0, 0)], some (.ifCond .ne 7, 3, 0, 0, 0)),
  (30, [(.iconst 1, 1, 1, 0, 0)], some (.goto 4, 3, 0, 0, 0)),
  (34, [(.iconst 0, 1, 0, 0, 0)], none),
  (35, [(.istore 5, 2, 0, 0, 0), (.iload 5, 2, 0, 0, 0)], some (.ifCond .eq 27, 3, 0, 0, 0)),
  (42, [(.iload_n 3, 1, 0, 0, 0), (.bipush (-4), 2, 4, 1, 0)], some (.if_icmp .eq 21, 3, 0, 0, 0)),
  (48, [(.aload_n 0, 1, 0, 0, 0), (.iload_n 3, 1, 0, 0, 0), (.aload_n 0, 1, 0, 0, 0), (.getfield 18, 3, 0, 2, 0), (.iload_n 1, 1, 0, 0, 0), (.iaload, 1, 0, 0, 0)], some (.invokevirtual 136, 3, 7, 3, 0)),
  (59, [], some (.ifCond .ne 7, 3, 0, 0, 0)),
  (62, [(.iload_n 3, 1, 0, 0, 0)], some (.goto 5, 3, 0, 0, 0)),
  (66, [(.bipush (-4), 2, 4, 1, 0)], none),
  (68, [], some (.ireturn, 1, 0, 0, 0))]
def iX0_bishopIdea : MI := (yX0_bishopIdea, cX0_bishopIdea, 6, (some .int), 0, 3, bX0_bishopIdea)
abbrev jX3_far : Nat := 22
def bX3_far : List Blk := [(0, [(.iload_n 0, 1, 0, 0, 0), (.bipush 6, 2, 6, 0, 0), (.idiv, 1, 0, 0, 0), (.iload_n 1, 1, 0, 0, 0), (.bipush 6, 2, 6, 0, 0), (.idiv, 1, 0, 0, 0), (.isub, 1, 0, 0, 0), (.istore_n 2, 1, 0, 0, 0), (.iload_n 0, 1, 0, 0, 0), (.bipush 6, 2, 6, 0, 0), (.irem, 1, 0, 0, 0), (.iload_n 1, 1, 0, 0, 0), (.bipush 6, 2, 6, 0, 0), (.irem, 1, 0, 0, 0), (.isub, 1, 0, 0, 0), (.istore_n 3, 1, 0, 0, 0), (.iload_n 2, 1, 0, 0, 0)], some (.ifCond .ge 8, 3, 0, 0, 0)),
  (24, [(.iload_n 2, 1, 0, 0, 0), (.ineg, 1, 0, 0, 0)], some (.goto 4, 3, 0, 0, 0)),
  (29, [(.iload_n 2, 1, 0, 0, 0)], none),
  (30, [(.istore_n 2, 1, 0, 0, 0), (.iload_n 3, 1, 0, 0, 0)], some (.ifCond .ge 8, 3, 0, 0, 0)),
  (35, [(.iload_n 3, 1, 0, 0, 0), (.ineg, 1, 0, 0, 0)], some (.goto 4, 3, 0, 0, 0)),
  (40, [(.iload_n 3, 1, 0, 0, 0)], none),
  (41, [(.istore_n 3, 1, 0, 0, 0), (.iload_n 2, 1, 0, 0, 0), (.iload_n 3, 1, 0, 0, 0)], some (.if_icmp .le 7, 3, 0, 0, 0)),
  (47, [(.iload_n 2, 1, 0, 0, 0)], some (.goto 4, 3, 0, 0, 0)),
  (51, [(.iload_n 3, 1, 0, 0, 0)], none),
  (52, [], some (.ireturn, 1, 0, 0, 0))]
def iX3_far : MI := (yX3_far, cX3_far, 4, (some .int), 2, 2, bX3_far)
abbrev jX0_kingIdea : Nat := 23
def bX0_kingIdea : List Blk := [(0, [(.aload_n 0, 1, 0, 0, 0), (.iload_n 1, 1, 0, 0, 0), (.iconst (-1), 1, 1, 1, 0), (.iconst 0, 1, 0, 0, 0)], some (.invokevirtual 130, 3, 18, 4, 0)),
  (7, [(.istore_n 2, 1, 0, 0, 0), (.aload_n 0, 1, 0, 0, 0), (.iload_n 2, 1, 0, 0, 0)], some (.invokevirtual 68, 3, 6, 2, 0)),
  (13, [], some (.ifCond .ne 6, 3, 0, 0, 0)),
  (16, [(.bipush (-4), 2, 4, 1, 0)], some (.ireturn, 1, 0, 0, 0)),
  (19, [(.iconst 0, 1, 0, 0, 0), (.istore_n 3, 1, 0, 0, 0)], none),
  (21, [(.iload_n 3, 1, 0, 0, 0), (.aload_n 0, 1, 0, 0, 0), (.getfield 27, 3, 0, 5, 0)], some (.if_icmp .ge 46, 3, 0, 0, 0)),
  (29, [(.aload_n 0, 1, 0, 0, 0), (.iload_n 3, 1, 0, 0, 0), (.iconst 1, 1, 1, 0, 0), (.aload_n 0, 1, 0, 0, 0), (.getfield 18, 3, 0, 2, 0), (.iload_n 1, 1, 0, 0, 0), (.iaload, 1, 0, 0, 0), (.isub, 1, 0, 0, 0)], some (.invokevirtual 93, 3, 3, 3, 0)),
  (42, [], some (.ifCond .eq 24, 3, 0, 0, 0)),
  (45, [(.aload_n 0, 1, 0, 0, 0), (.getfield 21, 3, 0, 3, 0), (.iload_n 3, 1, 0, 0, 0), (.iaload, 1, 0, 0, 0), (.aload_n 0, 1, 0, 0, 0), (.getfield 21, 3, 0, 3, 0), (.iload_n 1, 1, 0, 0, 0), (.iaload, 1, 0, 0, 0)], some (.invokestatic 114, 3, 22, 2, 0)),
  (60, [(.iconst 1, 1, 1, 0, 0)], some (.if_icmp .gt 5, 3, 0, 0, 0)),
  (64, [(.iload_n 2, 1, 0, 0, 0)], some (.ireturn, 1, 0, 0, 0)),
  (66, [(.iinc 3 1, 3, 1, 0, 0)], some (.goto (-48), 3, 0, 0, 0)),
  (72, [(.bipush (-4), 2, 4, 1, 0)], some (.ireturn, 1, 0, 0, 0))]
def iX0_kingIdea : MI := (yX0_kingIdea, cX0_kingIdea, 4, (some .int), 0, 2, bX0_kingIdea)
abbrev jX0_pawnIdea : Nat := 24
def bX0_pawnIdea : List Blk := [(0, [(.aload_n 0, 1, 0, 0, 0), (.iload_n 1, 1, 0, 0, 0), (.iconst 1, 1, 1, 0, 0), (.iconst 0, 1, 0, 0, 0)], some (.invokevirtual 130, 3, 18, 4, 0)),
  (7, [(.istore_n 2, 1, 0, 0, 0), (.aload_n 0, 1, 0, 0, 0), (.iload_n 2, 1, 0, 0, 0)], some (.invokevirtual 68, 3, 6, 2, 0)),
  (13, [], some (.ifCond .eq 5, 3, 0, 0, 0)),
  (16, [(.iload_n 2, 1, 0, 0, 0)], some (.ireturn, 1, 0, 0, 0)),
  (18, [(.aload_n 0, 1, 0, 0, 0), (.iload_n 1, 1, 0, 0, 0), (.iconst 1, 1, 1, 0, 0), (.iconst 1, 1, 1, 0, 0)], some (.invokevirtual 130, 3, 18, 4, 0)),
  (25, [(.istore_n 3, 1, 0, 0, 0), (.aload_n 0, 1, 0, 0, 0), (.iload_n 3, 1, 0, 0, 0), (.iconst 1, 1, 1, 0, 0), (.aload_n 0, 1, 0, 0, 0), (.getfield 18, 3, 0, 2, 0), (.iload_n 1, 1, 0, 0, 0), (.iaload, 1, 0, 0, 0), (.isub, 1, 0, 0, 0)], some (.invokevirtual 136, 3, 7, 3, 0)),
  (39, [], some (.ifCond .eq 7, 3, 0, 0, 0)),
  (42, [(.iload_n 3, 1, 0, 0, 0)], some (.goto 5, 3, 0, 0, 0)),
  (46, [(.bipush (-4), 2, 4, 1, 0)], none),
  (48, [], some (.ireturn, 1, 0, 0, 0))]
def iX0_pawnIdea : MI := (yX0_pawnIdea, cX0_pawnIdea, 4, (some .int), 0, 2, bX0_pawnIdea)
abbrev jX0_ideaOf : Nat := 25
def bX0_ideaOf : List Blk := [(0, [(.aload_n 0, 1, 0, 0, 0), (.iload_n 1, 1, 0, 0, 0)], some (.invokevirtual 56, 3, 2, 2, 0)),
  (5, [], some (.ifCond .ne 6, 3, 0, 0, 0)),
  (8, [(.bipush (-4), 2, 4, 1, 0)], some (.ireturn, 1, 0, 0, 0)),
  (11, [(.aload_n 0, 1, 0, 0, 0), (.getfield 9, 3, 0, 0, 0), (.iload_n 1, 1, 0, 0, 0), (.iaload, 1, 0, 0, 0)], some (.tableswitch 127 0 7 #[127, 47, 53, 61, 68, 94, 53, 100], 47, 0, 0, 0)),
  (64, [(.aload_n 0, 1, 0, 0, 0), (.iload_n 1, 1, 0, 0, 0)], some (.invokevirtual 117, 3, 19, 2, 0)),
  (69, [], some (.ireturn, 1, 0, 0, 0)),
  (70, [(.aload_n 0, 1, 0, 0, 0), (.iload_n 1, 1, 0, 0, 0), (.iconst 1, 1, 1, 0, 0), (.iconst 0, 1, 0, 0, 0)], some (.invokevirtual 120, 3, 20, 4, 0)),
  (77, [], some (.ireturn, 1, 0, 0, 0)),
  (78, [(.aload_n 0, 1, 0, 0, 0), (.iload_n 1, 1, 0, 0, 0), (.iload_n 2, 1, 0, 0, 0)], some (.invokevirtual 124, 3, 21, 3, 0)),
  (84, [], some (.ireturn, 1, 0, 0, 0)),
  (85, [(.aload_n 0, 1, 0, 0, 0), (.iload_n 1, 1, 0, 0, 0), (.iconst 1, 1, 1, 0, 0), (.iconst 0, 1, 0, 0, 0)], some (.invokevirtual 120, 3, 20, 4, 0)),
  (92, [(.istore_n 3, 1, 0, 0, 0), (.iload_n 3, 1, 0, 0, 0), (.bipush (-4), 2, 4, 1, 0)], some (.if_icmp .eq 7, 3, 0, 0, 0)),
  (99, [(.iload_n 3, 1, 0, 0, 0)], some (.goto 10, 3, 0, 0, 0)),
  (103, [(.aload_n 0, 1, 0, 0, 0), (.iload_n 1, 1, 0, 0, 0), (.iconst 0, 1, 0, 0, 0), (.iconst 1, 1, 1, 0, 0)], some (.invokevirtual 120, 3, 20, 4, 0)),
  (110, [], some (.ireturn, 1, 0, 0, 0)),
  (111, [(.aload_n 0, 1, 0, 0, 0), (.iload_n 1, 1, 0, 0, 0)], some (.invokevirtual 127, 3, 23, 2, 0)),
  (116, [], some (.ireturn, 1, 0, 0, 0)),
  (117, [(.aload_n 0, 1, 0, 0, 0), (.iload_n 1, 1, 0, 0, 0), (.iconst 0, 1, 0, 0, 0), (.iconst (-1), 1, 1, 1, 0)], some (.invokevirtual 130, 3, 18, 4, 0)),
  (124, [(.istore_n 3, 1, 0, 0, 0), (.aload_n 0, 1, 0, 0, 0), (.iload_n 3, 1, 0, 0, 0)], some (.invokevirtual 68, 3, 6, 2, 0)),
  (130, [], some (.ifCond .eq 7, 3, 0, 0, 0)),
  (133, [(.iload_n 3, 1, 0, 0, 0)], some (.goto 9, 3, 0, 0, 0)),
  (137, [(.aload_n 0, 1, 0, 0, 0), (.iload_n 1, 1, 0, 0, 0), (.iload_n 2, 1, 0, 0, 0)], some (.invokevirtual 124, 3, 21, 3, 0)),
  (143, [], some (.ireturn, 1, 0, 0, 0)),
  (144, [(.aload_n 0, 1, 0, 0, 0), (.iload_n 1, 1, 0, 0, 0)], some (.invokevirtual 133, 3, 24, 2, 0)),
  (149, [], some (.ireturn, 1, 0, 0, 0))]
def iX0_ideaOf : MI := (yX0_ideaOf, cX0_ideaOf, 4, (some .int), 0, 3, bX0_ideaOf)
abbrev jX1_earsWith : Nat := 26
def bX1_earsWith : List Blk := [(0, [(.iload_n 0, 1, 0, 0, 0)], some (.tableswitch 61 0 7 #[61, 47, 49, 51, 53, 57, 59, 51], 47, 0, 0, 0)),
  (48, [(.iconst 3, 1, 3, 0, 0)], some (.ireturn, 1, 0, 0, 0)),
  (50, [(.iload_n 1, 1, 0, 0, 0)], some (.ireturn, 1, 0, 0, 0)),
  (52, [(.iconst 4, 1, 4, 0, 0)], some (.ireturn, 1, 0, 0, 0)),
  (54, [(.iload_n 1, 1, 0, 0, 0), (.iconst 3, 1, 3, 0, 0), (.iadd, 1, 0, 0, 0)], some (.ireturn, 1, 0, 0, 0)),
  (58, [(.iconst 5, 1, 5, 0, 0)], some (.ireturn, 1, 0, 0, 0)),
  (60, [(.iconst 0, 1, 0, 0, 0)], some (.ireturn, 1, 0, 0, 0)),
  (62, [(.iconst 2, 1, 2, 0, 0)], some (.ireturn, 1, 0, 0, 0))]
def iX1_earsWith : MI := (yX1_earsWith, cX1_earsWith, 2, (some .int), 4, 2, bX1_earsWith)
abbrev jX0_hearersOf : Nat := 27
def bX0_hearersOf : List Blk := [(0, [(.aload_n 0, 1, 0, 0, 0), (.iload_n 1, 1, 0, 0, 0)], some (.invokevirtual 56, 3, 2, 2, 0)),
  (5, [], some (.ifCond .ne 5, 3, 0, 0, 0)),
  (8, [(.iconst 0, 1, 0, 0, 0)], some (.ireturn, 1, 0, 0, 0)),
  (10, [(.iconst 1, 1, 1, 0, 0), (.iload_n 1, 1, 0, 0, 0), (.ishl, 1, 0, 0, 0), (.istore_n 3, 1, 0, 0, 0), (.iconst 0, 1, 0, 0, 0), (.istore 4, 2, 0, 0, 0)], none),
  (17, [(.iload 4, 2, 0, 0, 0), (.aload_n 0, 1, 0, 0, 0), (.getfield 27, 3, 0, 5, 0)], some (.if_icmp .ge 79, 3, 0, 0, 0)),
  (26, [(.aload_n 0, 1, 0, 0, 0), (.iload 4, 2, 0, 0, 0), (.aload_n 0, 1, 0, 0, 0), (.getfield 18, 3, 0, 2, 0), (.iload_n 1, 1, 0, 0, 0), (.iaload, 1, 0, 0, 0)], some (.invokevirtual 93, 3, 3, 3, 0)),
  (38, [], some (.ifCond .eq 58, 3, 0, 0, 0)),
  (41, [(.iload_n 2, 1, 0, 0, 0)], some (.ifCond .eq 7, 3, 0, 0, 0)),
  (45, [(.iconst 1, 1, 1, 0, 0)], some (.goto 20, 3, 0, 0, 0)),
  (49, [(.aload_n 0, 1, 0, 0, 0), (.getfield 9, 3, 0, 0, 0), (.iload 4, 2, 0, 0, 0), (.iaload, 1, 0, 0, 0), (.aload_n 0, 1, 0, 0, 0), (.getfield 15, 3, 0, 1, 0), (.iload 4, 2, 0, 0, 0), (.iaload, 1, 0, 0, 0)], some (.invokestatic 109, 3, 26, 2, 0)),
  (66, [(.istore 5, 2, 0, 0, 0), (.aload_n 0, 1, 0, 0, 0), (.getfield 21, 3, 0, 3, 0), (.iload 4, 2, 0, 0, 0), (.iaload, 1, 0, 0, 0), (.aload_n 0, 1, 0, 0, 0), (.getfield 21, 3, 0, 3, 0), (.iload_n 1, 1, 0, 0, 0), (.iaload, 1, 0, 0, 0)], some (.invokestatic 114, 3, 22, 2, 0)),
  (84, [(.iload 5, 2, 0, 0, 0)], some (.if_icmp .gt 10, 3, 0, 0, 0)),
  (89, [(.iload_n 3, 1, 0, 0, 0), (.iconst 1, 1, 1, 0, 0), (.iload 4, 2, 0, 0, 0), (.ishl, 1, 0, 0, 0), (.ior, 1, 0, 0, 0), (.istore_n 3, 1, 0, 0, 0)], none),
  (96, [(.iinc 4 1, 3, 1, 0, 0)], some (.goto (-82), 3, 0, 0, 0)),
  (102, [(.iload_n 3, 1, 0, 0, 0)], some (.ireturn, 1, 0, 0, 0))]
def iX0_hearersOf : MI := (yX0_hearersOf, cX0_hearersOf, 6, (some .int), 0, 3, bX0_hearersOf)
abbrev jJ6_bitCount_0f7a4 : Nat := 28
def bJ6_bitCount_0f7a4 : List Blk := [(0, [(.iload_n 0, 1, 0, 0, 0), (.iload_n 0, 1, 0, 0, 0), (.iconst 1, 1, 1, 0, 0), (.iushr, 1, 0, 0, 0), (.ldc_w 265, 3, 1431655765, 0, 0), (.iand, 1, 0, 0, 0), (.isub, 1, 0, 0, 0), (.istore_n 0, 1, 0, 0, 0), (.iload_n 0, 1, 0, 0, 0), (.ldc_w 266, 3, 858993459, 0, 0), (.iand, 1, 0, 0, 0), (.iload_n 0, 1, 0, 0, 0), (.iconst 2, 1, 2, 0, 0), (.iushr, 1, 0, 0, 0), (.ldc_w 266, 3, 858993459, 0, 0), (.iand, 1, 0, 0, 0), (.iadd, 1, 0, 0, 0), (.istore_n 0, 1, 0, 0, 0), (.iload_n 0, 1, 0, 0, 0), (.iload_n 0, 1, 0, 0, 0), (.iconst 4, 1, 4, 0, 0), (.iushr, 1, 0, 0, 0), (.iadd, 1, 0, 0, 0), (.ldc_w 267, 3, 252645135, 0, 0), (.iand, 1, 0, 0, 0), (.istore_n 0, 1, 0, 0, 0), (.iload_n 0, 1, 0, 0, 0), (.iload_n 0, 1, 0, 0, 0), (.bipush 8, 2, 8, 0, 0), (.iushr, 1, 0, 0, 0), (.iadd, 1, 0, 0, 0), (.istore_n 0, 1, 0, 0, 0), (.iload_n 0, 1, 0, 0, 0), (.iload_n 0, 1, 0, 0, 0), (.bipush 16, 2, 16, 0, 0), (.iushr, 1, 0, 0, 0), (.iadd, 1, 0, 0, 0), (.istore_n 0, 1, 0, 0, 0), (.iload_n 0, 1, 0, 0, 0), (.bipush 63, 2, 63, 0, 0), (.iand, 1, 0, 0, 0)], some (.ireturn, 1, 0, 0, 0))]
def iJ6_bitCount_0f7a4 : MI := (yJ6_bitCount_0f7a4, cJ6_bitCount_0f7a4, 1, (some .int), 5, 1, bJ6_bitCount_0f7a4)
abbrev jX0_howManyOf : Nat := 29
def bX0_howManyOf : List Blk := [(0, [(.iconst 0, 1, 0, 0, 0), (.istore_n 2, 1, 0, 0, 0), (.iconst 0, 1, 0, 0, 0), (.istore_n 3, 1, 0, 0, 0)], none),
  (4, [(.iload_n 3, 1, 0, 0, 0), (.aload_n 0, 1, 0, 0, 0), (.getfield 27, 3, 0, 5, 0)], some (.if_icmp .ge 26, 3, 0, 0, 0)),
  (12, [(.iload_n 2, 1, 0, 0, 0), (.aload_n 0, 1, 0, 0, 0), (.iload_n 3, 1, 0, 0, 0), (.iload_n 1, 1, 0, 0, 0)], some (.invokevirtual 93, 3, 3, 3, 0)),
  (19, [], some (.ifCond .eq 7, 3, 0, 0, 0)),
  (22, [(.iconst 1, 1, 1, 0, 0)], some (.goto 4, 3, 0, 0, 0)),
  (26, [(.iconst 0, 1, 0, 0, 0)], none),
  (27, [(.iadd, 1, 0, 0, 0), (.istore_n 2, 1, 0, 0, 0), (.iinc 3 1, 3, 1, 0, 0)], some (.goto (-28), 3, 0, 0, 0)),
  (35, [(.iload_n 2, 1, 0, 0, 0)], some (.ireturn, 1, 0, 0, 0))]
def iX0_howManyOf : MI := (yX0_howManyOf, cX0_howManyOf, 4, (some .int), 0, 2, bX0_howManyOf)
abbrev jX0_goerOn : Nat := 30
def bX0_goerOn : List Blk := [(0, [(.bipush (-4), 2, 4, 1, 0), (.istore 4, 2, 0, 0, 0), (.iconst 0, 1, 0, 0, 0), (.istore 5, 2, 0, 0, 0), (.iconst 0, 1, 0, 0, 0), (.istore 6, 2, 0, 0, 0)], none),
  (10, [(.iload 6, 2, 0, 0, 0), (.aload_n 0, 1, 0, 0, 0), (.getfield 27, 3, 0, 5, 0)], some (.if_icmp .ge 82, 3, 0, 0, 0)),
  (19, [(.aload_n 0, 1, 0, 0, 0), (.iload 6, 2, 0, 0, 0), (.aload_n 0, 1, 0, 0, 0), (.getfield 31, 3, 0, 6, 0)], some (.invokevirtual 93, 3, 3, 3, 0)),
  (29, [], some (.ifCond .eq 16, 3, 0, 0, 0)),
  (32, [(.iload_n 2, 1, 0, 0, 0), (.iload 6, 2, 0, 0, 0), (.ishr, 1, 0, 0, 0), (.iconst 1, 1, 1, 0, 0), (.iand, 1, 0, 0, 0)], some (.ifCond .ne 7, 3, 0, 0, 0)),
  (41, [(.iconst 1, 1, 1, 0, 0)], some (.goto 4, 3, 0, 0, 0)),
  (45, [(.iconst 0, 1, 0, 0, 0)], none),
  (46, [(.istore 7, 2, 0, 0, 0), (.iload 7, 2, 0, 0, 0)], some (.ifCond .eq 42, 3, 0, 0, 0)),
  (53, [(.aload_n 0, 1, 0, 0, 0), (.iload 6, 2, 0, 0, 0), (.iload_n 1, 1, 0, 0, 0)], some (.invokevirtual 85, 3, 25, 3, 0)),
  (60, [(.bipush (-4), 2, 4, 1, 0)], some (.if_icmp .eq 30, 3, 0, 0, 0)),
  (65, [(.aload_n 0, 1, 0, 0, 0), (.iload 6, 2, 0, 0, 0), (.iload_n 3, 1, 0, 0, 0)], some (.invokevirtual 96, 3, 27, 3, 0)),
  (72, [], some (.invokestatic 100, 3, 28, 1, 0)),
  (75, [(.istore 8, 2, 0, 0, 0), (.iload 8, 2, 0, 0, 0), (.iload 5, 2, 0, 0, 0)], some (.if_icmp .le 11, 3, 0, 0, 0)),
  (84, [(.iload 6, 2, 0, 0, 0), (.istore 4, 2, 0, 0, 0), (.iload 8, 2, 0, 0, 0), (.istore 5, 2, 0, 0, 0)], none),
  (92, [(.iinc 6 1, 3, 1, 0, 0)], some (.goto (-85), 3, 0, 0, 0)),
  (98, [(.iconst 2, 1, 2, 0, 0), (.iload 5, 2, 0, 0, 0), (.imul, 1, 0, 0, 0), (.aload_n 0, 1, 0, 0, 0), (.aload_n 0, 1, 0, 0, 0), (.getfield 31, 3, 0, 6, 0)], some (.invokevirtual 106, 3, 29, 2, 0)),
  (110, [], some (.if_icmp .le 8, 3, 0, 0, 0)),
  (113, [(.iload 4, 2, 0, 0, 0)], some (.goto 5, 3, 0, 0, 0)),
  (118, [(.bipush (-4), 2, 4, 1, 0)], none),
  (120, [], some (.ireturn, 1, 0, 0, 0))]
def iX0_goerOn : MI := (yX0_goerOn, cX0_goerOn, 9, (some .int), 0, 4, bX0_goerOn)
abbrev jX0_passDay : Nat := 31
def bX0_passDay : List Blk := [(0, [(.aload_n 0, 1, 0, 0, 0), (.dup, 1, 0, 0, 0), (.getfield 37, 3, 0, 8, 0), (.iconst 1, 1, 1, 0, 0), (.iadd, 1, 0, 0, 0), (.putfield 37, 3, 0, 8, 0), (.aload_n 0, 1, 0, 0, 0), (.aload_n 0, 1, 0, 0, 0), (.getfield 37, 3, 0, 8, 0), (.iload_n 1, 1, 0, 0, 0), (.iload_n 2, 1, 0, 0, 0)], some (.invokevirtual 81, 3, 30, 4, 0)),
  (20, [(.istore_n 3, 1, 0, 0, 0), (.iload_n 3, 1, 0, 0, 0), (.bipush (-4), 2, 4, 1, 0)], some (.if_icmp .ne 32, 3, 0, 0, 0)),
  (27, [(.aload_n 0, 1, 0, 0, 0), (.aload_n 0, 1, 0, 0, 0), (.getfield 34, 3, 0, 7, 0), (.sipush 9999, 3, 9999, 0, 0)], some (.if_icmp .ge 12, 3, 0, 0, 0)),
  (38, [(.aload_n 0, 1, 0, 0, 0), (.getfield 34, 3, 0, 7, 0), (.iconst 1, 1, 1, 0, 0), (.iadd, 1, 0, 0, 0)], some (.goto 6, 3, 0, 0, 0)),
  (47, [(.sipush 9999, 3, 9999, 0, 0)], none),
  (50, [(.putfield 34, 3, 0, 7, 0)], some (.goto 42, 3, 0, 0, 0)),
  (56, [(.aload_n 0, 1, 0, 0, 0), (.iload_n 3, 1, 0, 0, 0), (.aload_n 0, 1, 0, 0, 0), (.getfield 37, 3, 0, 8, 0)], some (.invokevirtual 85, 3, 25, 3, 0)),
  (65, [(.istore 4, 2, 0, 0, 0), (.iload 4, 2, 0, 0, 0)], some (.invokestatic 71, 3, 12, 1, 0)),
  (72, [], some (.ifCond .eq 15, 3, 0, 0, 0)),
  (75, [(.aload_n 0, 1, 0, 0, 0), (.aload_n 0, 1, 0, 0, 0), (.getfield 24, 3, 0, 4, 0), (.iload 4, 2, 0, 0, 0), (.iaload, 1, 0, 0, 0)], some (.invokevirtual 74, 3, 13, 2, 0)),
  (86, [(.pop, 1, 0, 0, 0)], none),
  (87, [(.aload_n 0, 1, 0, 0, 0), (.iload_n 3, 1, 0, 0, 0), (.iload 4, 2, 0, 0, 0)], some (.invokevirtual 89, 3, 14, 3, 0)),
  (94, [(.pop, 1, 0, 0, 0)], none),
  (95, [(.aload_n 0, 1, 0, 0, 0), (.iconst 1, 1, 1, 0, 0), (.aload_n 0, 1, 0, 0, 0), (.getfield 31, 3, 0, 6, 0), (.isub, 1, 0, 0, 0), (.putfield 31, 3, 0, 6, 0), (.iload_n 3, 1, 0, 0, 0), (.bipush (-4), 2, 4, 1, 0)], some (.if_icmp .eq 7, 3, 0, 0, 0)),
  (111, [(.iconst 1, 1, 1, 0, 0)], some (.goto 4, 3, 0, 0, 0)),
  (115, [(.iconst 0, 1, 0, 0, 0)], none),
  (116, [], some (.ireturn, 1, 1, 0, 0))]
def iX0_passDay : MI := (yX0_passDay, cX0_passDay, 5, (some .boolean), 0, 3, bX0_passDay)
abbrev jX0_passWithinLast : Nat := 32
def bX0_passWithinLast : List Blk := [(0, [(.iload_n 1, 1, 0, 0, 0), (.iconst 1, 1, 1, 0, 0)], some (.if_icmp .lt 21, 3, 0, 0, 0)),
  (5, [(.iload_n 1, 1, 0, 0, 0), (.bipush 60, 2, 60, 0, 0)], some (.if_icmp .gt 15, 3, 0, 0, 0)),
  (11, [(.aload_n 0, 1, 0, 0, 0), (.getfield 37, 3, 0, 8, 0), (.iload_n 1, 1, 0, 0, 0), (.iadd, 1, 0, 0, 0), (.sipush 999, 3, 999, 0, 0)], some (.if_icmp .le 5, 3, 0, 0, 0)),
  (23, [(.iconst 0, 1, 0, 0, 0)], some (.ireturn, 1, 1, 0, 0)),
  (25, [(.iconst 0, 1, 0, 0, 0), (.istore_n 2, 1, 0, 0, 0)], none),
  (27, [(.iload_n 2, 1, 0, 0, 0), (.iload_n 1, 1, 0, 0, 0)], some (.if_icmp .ge 16, 3, 0, 0, 0)),
  (32, [(.aload_n 0, 1, 0, 0, 0), (.iconst 0, 1, 0, 0, 0), (.iconst 0, 1, 0, 0, 0)], some (.invokevirtual 77, 3, 31, 3, 0)),
  (38, [(.pop, 1, 0, 0, 0), (.iinc 2 1, 3, 1, 0, 0)], some (.goto (-15), 3, 0, 0, 0)),
  (45, [(.iconst 1, 1, 1, 0, 0)], some (.ireturn, 1, 1, 0, 0))]
def iX0_passWithinLast : MI := (yX0_passWithinLast, cX0_passWithinLast, 3, (some .boolean), 0, 2, bX0_passWithinLast)
abbrev jX0_passDays : Nat := 33
def bX0_passDays : List Blk := [(0, [(.iconst 0, 1, 0, 0, 0), (.istore_n 2, 1, 0, 0, 0)], none),
  (2, [(.iload_n 2, 1, 0, 0, 0), (.iload_n 1, 1, 0, 0, 0)], some (.if_icmp .ge 16, 3, 0, 0, 0)),
  (7, [(.aload_n 0, 1, 0, 0, 0), (.iconst 0, 1, 0, 0, 0), (.iconst 0, 1, 0, 0, 0)], some (.invokevirtual 77, 3, 31, 3, 0)),
  (13, [(.pop, 1, 0, 0, 0), (.iinc 2 1, 3, 1, 0, 0)], some (.goto (-15), 3, 0, 0, 0)),
  (20, [], some (.return_, 1, 0, 0, 0))]
def iX0_passDays : MI := (yX0_passDays, cX0_passDays, 3, none, 0, 2, bX0_passDays)
abbrev jX0_howManyThere : Nat := 34
def bX0_howManyThere : List Blk := [(0, [(.aload_n 0, 1, 0, 0, 0), (.iconst 0, 1, 0, 0, 0)], some (.invokevirtual 106, 3, 29, 2, 0)),
  (5, [(.aload_n 0, 1, 0, 0, 0), (.iconst 1, 1, 1, 0, 0)], some (.invokevirtual 106, 3, 29, 2, 0)),
  (10, [(.iadd, 1, 0, 0, 0)], some (.ireturn, 1, 0, 0, 0))]
def iX0_howManyThere : MI := (yX0_howManyThere, cX0_howManyThere, 1, (some .int), 0, 1, bX0_howManyThere)
abbrev jX0_bitsThere : Nat := 35
def bX0_bitsThere : List Blk := [(0, [(.iconst 0, 1, 0, 0, 0), (.istore_n 1, 1, 0, 0, 0), (.iconst 0, 1, 0, 0, 0), (.istore_n 2, 1, 0, 0, 0)], none),
  (4, [(.iload_n 2, 1, 0, 0, 0), (.aload_n 0, 1, 0, 0, 0), (.getfield 27, 3, 0, 5, 0)], some (.if_icmp .ge 27, 3, 0, 0, 0)),
  (12, [(.iload_n 1, 1, 0, 0, 0), (.aload_n 0, 1, 0, 0, 0), (.iload_n 2, 1, 0, 0, 0)], some (.invokevirtual 56, 3, 2, 2, 0)),
  (18, [], some (.ifCond .eq 9, 3, 0, 0, 0)),
  (21, [(.iconst 1, 1, 1, 0, 0), (.iload_n 2, 1, 0, 0, 0), (.ishl, 1, 0, 0, 0)], some (.goto 4, 3, 0, 0, 0)),
  (27, [(.iconst 0, 1, 0, 0, 0)], none),
  (28, [(.ior, 1, 0, 0, 0), (.istore_n 1, 1, 0, 0, 0), (.iinc 2 1, 3, 1, 0, 0)], some (.goto (-29), 3, 0, 0, 0)),
  (36, [(.iload_n 1, 1, 0, 0, 0)], some (.ireturn, 1, 0, 0, 0))]
def iX0_bitsThere : MI := (yX0_bitsThere, cX0_bitsThere, 3, (some .int), 0, 1, bX0_bitsThere)
abbrev jX1_worthWith : Nat := 36
def bX1_worthWith : List Blk := [(0, [(.iload_n 0, 1, 0, 0, 0)], some (.tableswitch 65 0 7 #[65, 47, 49, 51, 57, 60, 63, 51], 47, 0, 0, 0)),
  (48, [(.iconst 3, 1, 3, 0, 0)], some (.ireturn, 1, 0, 0, 0)),
  (50, [(.iconst 5, 1, 5, 0, 0)], some (.ireturn, 1, 0, 0, 0)),
  (52, [(.iconst 1, 1, 1, 0, 0), (.iload_n 1, 1, 0, 0, 0), (.iconst 3, 1, 3, 0, 0), (.idiv, 1, 0, 0, 0), (.iadd, 1, 0, 0, 0)], some (.ireturn, 1, 0, 0, 0)),
  (58, [(.bipush 9, 2, 9, 0, 0)], some (.ireturn, 1, 0, 0, 0)),
  (61, [(.bipush 9, 2, 9, 0, 0)], some (.ireturn, 1, 0, 0, 0)),
  (64, [(.iconst 4, 1, 4, 0, 0)], some (.ireturn, 1, 0, 0, 0)),
  (66, [(.iconst 1, 1, 1, 0, 0)], some (.ireturn, 1, 0, 0, 0))]
def iX1_worthWith : MI := (yX1_worthWith, cX1_worthWith, 2, (some .int), 4, 2, bX1_worthWith)
abbrev jX0_worthOf : Nat := 37
def bX0_worthOf : List Blk := [(0, [(.iconst 0, 1, 0, 0, 0), (.istore_n 2, 1, 0, 0, 0), (.iconst 0, 1, 0, 0, 0), (.istore_n 3, 1, 0, 0, 0)], none),
  (4, [(.iload_n 3, 1, 0, 0, 0), (.aload_n 0, 1, 0, 0, 0), (.getfield 27, 3, 0, 5, 0)], some (.if_icmp .ge 40, 3, 0, 0, 0)),
  (12, [(.iload_n 2, 1, 0, 0, 0), (.aload_n 0, 1, 0, 0, 0), (.iload_n 3, 1, 0, 0, 0), (.iload_n 1, 1, 0, 0, 0)], some (.invokevirtual 93, 3, 3, 3, 0)),
  (19, [], some (.ifCond .eq 21, 3, 0, 0, 0)),
  (22, [(.aload_n 0, 1, 0, 0, 0), (.getfield 9, 3, 0, 0, 0), (.iload_n 3, 1, 0, 0, 0), (.iaload, 1, 0, 0, 0), (.aload_n 0, 1, 0, 0, 0), (.getfield 15, 3, 0, 1, 0), (.iload_n 3, 1, 0, 0, 0), (.iaload, 1, 0, 0, 0)], some (.invokestatic 139, 3, 36, 2, 0)),
  (37, [], some (.goto 4, 3, 0, 0, 0)),
  (40, [(.iconst 0, 1, 0, 0, 0)], none),
  (41, [(.iadd, 1, 0, 0, 0), (.istore_n 2, 1, 0, 0, 0), (.iinc 3 1, 3, 1, 0, 0)], some (.goto (-42), 3, 0, 0, 0)),
  (49, [(.iload_n 2, 1, 0, 0, 0)], some (.ireturn, 1, 0, 0, 0))]
def iX0_worthOf : MI := (yX0_worthOf, cX0_worthOf, 4, (some .int), 0, 2, bX0_worthOf)
abbrev jX0_worthWithout : Nat := 38
def bX0_worthWithout : List Blk := [(0, [(.aload_n 0, 1, 0, 0, 0), (.iload_n 1, 1, 0, 0, 0)], some (.invokevirtual 52, 3, 1, 2, 0)),
  (5, [], some (.ifCond .ne 5, 3, 0, 0, 0)),
  (8, [(.iconst 0, 1, 0, 0, 0)], some (.ireturn, 1, 0, 0, 0)),
  (10, [(.aload_n 0, 1, 0, 0, 0), (.aload_n 0, 1, 0, 0, 0), (.getfield 18, 3, 0, 2, 0), (.iload_n 1, 1, 0, 0, 0), (.iaload, 1, 0, 0, 0)], some (.invokevirtual 142, 3, 37, 2, 0)),
  (20, [(.aload_n 0, 1, 0, 0, 0), (.iload_n 1, 1, 0, 0, 0)], some (.invokevirtual 56, 3, 2, 2, 0)),
  (25, [], some (.ifCond .eq 21, 3, 0, 0, 0)),
  (28, [(.aload_n 0, 1, 0, 0, 0), (.getfield 9, 3, 0, 0, 0), (.iload_n 1, 1, 0, 0, 0), (.iaload, 1, 0, 0, 0), (.aload_n 0, 1, 0, 0, 0), (.getfield 15, 3, 0, 1, 0), (.iload_n 1, 1, 0, 0, 0), (.iaload, 1, 0, 0, 0)], some (.invokestatic 139, 3, 36, 2, 0)),
  (43, [], some (.goto 4, 3, 0, 0, 0)),
  (46, [(.iconst 0, 1, 0, 0, 0)], none),
  (47, [(.isub, 1, 0, 0, 0)], some (.ireturn, 1, 0, 0, 0))]
def iX0_worthWithout : MI := (yX0_worthWithout, cX0_worthWithout, 2, (some .int), 0, 2, bX0_worthWithout)
abbrev jX0_gainOf : Nat := 39
def bX0_gainOf : List Blk := [(0, [(.aload_n 0, 1, 0, 0, 0), (.iload_n 1, 1, 0, 0, 0)], some (.invokevirtual 52, 3, 1, 2, 0)),
  (5, [], some (.ifCond .ne 5, 3, 0, 0, 0)),
  (8, [(.iconst 0, 1, 0, 0, 0)], some (.ireturn, 1, 0, 0, 0)),
  (10, [(.aload_n 0, 1, 0, 0, 0), (.aload_n 0, 1, 0, 0, 0), (.getfield 18, 3, 0, 2, 0), (.iload_n 1, 1, 0, 0, 0), (.iaload, 1, 0, 0, 0)], some (.invokevirtual 142, 3, 37, 2, 0)),
  (20, [(.aload_n 0, 1, 0, 0, 0), (.iload_n 1, 1, 0, 0, 0)], some (.invokevirtual 56, 3, 2, 2, 0)),
  (25, [], some (.ifCond .eq 7, 3, 0, 0, 0)),
  (28, [(.iconst 0, 1, 0, 0, 0)], some (.goto 4, 3, 0, 0, 0)),
  (32, [(.iconst 5, 1, 5, 0, 0)], none),
  (33, [(.isub, 1, 0, 0, 0)], some (.ireturn, 1, 0, 0, 0))]
def iX0_gainOf : MI := (yX0_gainOf, cX0_gainOf, 2, (some .int), 0, 2, bX0_gainOf)
abbrev jX0_groupAround : Nat := 40
def bX0_groupAround : List Blk := [(0, [(.iconst 1, 1, 1, 0, 0), (.iload_n 1, 1, 0, 0, 0), (.ishl, 1, 0, 0, 0), (.istore_n 2, 1, 0, 0, 0), (.iconst 1, 1, 1, 0, 0), (.istore_n 3, 1, 0, 0, 0)], none),
  (6, [(.iload_n 3, 1, 0, 0, 0), (.aload_n 0, 1, 0, 0, 0), (.getfield 27, 3, 0, 5, 0)], some (.if_icmp .ge 86, 3, 0, 0, 0)),
  (14, [(.iconst 0, 1, 0, 0, 0), (.istore 4, 2, 0, 0, 0)], none),
  (17, [(.iload 4, 2, 0, 0, 0), (.aload_n 0, 1, 0, 0, 0), (.getfield 27, 3, 0, 5, 0)], some (.if_icmp .ge 68, 3, 0, 0, 0)),
  (26, [(.aload_n 0, 1, 0, 0, 0), (.iload 4, 2, 0, 0, 0), (.aload_n 0, 1, 0, 0, 0), (.getfield 18, 3, 0, 2, 0), (.iload_n 1, 1, 0, 0, 0), (.iaload, 1, 0, 0, 0)], some (.invokevirtual 93, 3, 3, 3, 0)),
  (38, [], some (.ifCond .eq 13, 3, 0, 0, 0)),
  (41, [(.aload_n 0, 1, 0, 0, 0), (.iload 4, 2, 0, 0, 0), (.iconst 0, 1, 0, 0, 0)], some (.invokevirtual 96, 3, 27, 3, 0)),
  (48, [], some (.goto 4, 3, 0, 0, 0)),
  (51, [(.iconst 0, 1, 0, 0, 0)], none),
  (52, [(.istore 5, 2, 0, 0, 0), (.iload_n 2, 1, 0, 0, 0), (.iload 4, 2, 0, 0, 0), (.ishr, 1, 0, 0, 0), (.iconst 1, 1, 1, 0, 0), (.iand, 1, 0, 0, 0)], some (.ifCond .eq 11, 3, 0, 0, 0)),
  (63, [(.iload_n 2, 1, 0, 0, 0), (.iload 5, 2, 0, 0, 0), (.ior, 1, 0, 0, 0), (.istore_n 2, 1, 0, 0, 0)], some (.goto 17, 3, 0, 0, 0)),
  (71, [(.iload_n 2, 1, 0, 0, 0), (.iload 5, 2, 0, 0, 0), (.iand, 1, 0, 0, 0)], some (.ifCond .eq 10, 3, 0, 0, 0)),
  (78, [(.iload_n 2, 1, 0, 0, 0), (.iconst 1, 1, 1, 0, 0), (.iload 4, 2, 0, 0, 0), (.ishl, 1, 0, 0, 0), (.ior, 1, 0, 0, 0), (.istore_n 2, 1, 0, 0, 0)], none),
  (85, [(.iinc 4 1, 3, 1, 0, 0)], some (.goto (-71), 3, 0, 0, 0)),
  (91, [(.iinc 3 1, 3, 1, 0, 0)], some (.goto (-88), 3, 0, 0, 0)),
  (97, [(.iload_n 2, 1, 0, 0, 0)], some (.ireturn, 1, 0, 0, 0))]
def iX0_groupAround : MI := (yX0_groupAround, cX0_groupAround, 6, (some .int), 0, 2, bX0_groupAround)
abbrev jX0_groupsOf : Nat := 41
def bX0_groupsOf : List Blk := [(0, [(.iconst 0, 1, 0, 0, 0), (.istore_n 2, 1, 0, 0, 0), (.iconst 0, 1, 0, 0, 0), (.istore_n 3, 1, 0, 0, 0), (.iconst 0, 1, 0, 0, 0), (.istore 4, 2, 0, 0, 0)], none),
  (7, [(.iload 4, 2, 0, 0, 0), (.aload_n 0, 1, 0, 0, 0), (.getfield 27, 3, 0, 5, 0)], some (.if_icmp .ge 40, 3, 0, 0, 0)),
  (16, [(.aload_n 0, 1, 0, 0, 0), (.iload 4, 2, 0, 0, 0), (.iload_n 1, 1, 0, 0, 0)], some (.invokevirtual 93, 3, 3, 3, 0)),
  (23, [], some (.ifCond .eq 24, 3, 0, 0, 0)),
  (26, [(.iload_n 3, 1, 0, 0, 0), (.iload 4, 2, 0, 0, 0), (.ishr, 1, 0, 0, 0), (.iconst 1, 1, 1, 0, 0), (.iand, 1, 0, 0, 0)], some (.ifCond .ne 15, 3, 0, 0, 0)),
  (35, [(.iload_n 3, 1, 0, 0, 0), (.aload_n 0, 1, 0, 0, 0), (.iload 4, 2, 0, 0, 0)], some (.invokevirtual 145, 3, 40, 2, 0)),
  (42, [(.ior, 1, 0, 0, 0), (.istore_n 3, 1, 0, 0, 0), (.iinc 2 1, 3, 1, 0, 0)], none),
  (47, [(.iinc 4 1, 3, 1, 0, 0)], some (.goto (-43), 3, 0, 0, 0)),
  (53, [(.iload_n 2, 1, 0, 0, 0)], some (.ireturn, 1, 0, 0, 0))]
def iX0_groupsOf : MI := (yX0_groupsOf, cX0_groupsOf, 5, (some .int), 0, 2, bX0_groupsOf)
abbrev jX0_farthestOf : Nat := 42
def bX0_farthestOf : List Blk := [(0, [(.bipush (-4), 2, 4, 1, 0), (.istore_n 2, 1, 0, 0, 0), (.bipush (-4), 2, 4, 1, 0), (.istore_n 3, 1, 0, 0, 0), (.iconst 0, 1, 0, 0, 0), (.istore 4, 2, 0, 0, 0)], none),
  (9, [(.iload 4, 2, 0, 0, 0), (.aload_n 0, 1, 0, 0, 0), (.getfield 27, 3, 0, 5, 0)], some (.if_icmp .ge 58, 3, 0, 0, 0)),
  (18, [(.aload_n 0, 1, 0, 0, 0), (.iload 4, 2, 0, 0, 0), (.iload_n 1, 1, 0, 0, 0)], some (.invokevirtual 93, 3, 3, 3, 0)),
  (25, [], some (.ifCond .eq 42, 3, 0, 0, 0)),
  (28, [(.aload_n 0, 1, 0, 0, 0), (.getfield 21, 3, 0, 3, 0), (.iload 4, 2, 0, 0, 0), (.iaload, 1, 0, 0, 0), (.bipush 6, 2, 6, 0, 0), (.idiv, 1, 0, 0, 0), (.istore 5, 2, 0, 0, 0), (.iload_n 1, 1, 0, 0, 0)], some (.ifCond .ne 8, 3, 0, 0, 0)),
  (44, [(.iload 5, 2, 0, 0, 0)], some (.goto 7, 3, 0, 0, 0)),
  (49, [(.iconst 5, 1, 5, 0, 0), (.iload 5, 2, 0, 0, 0), (.isub, 1, 0, 0, 0)], none),
  (53, [(.istore 6, 2, 0, 0, 0), (.iload 6, 2, 0, 0, 0), (.iload_n 3, 1, 0, 0, 0)], some (.if_icmp .le 9, 3, 0, 0, 0)),
  (61, [(.iload 4, 2, 0, 0, 0), (.istore_n 2, 1, 0, 0, 0), (.iload 6, 2, 0, 0, 0), (.istore_n 3, 1, 0, 0, 0)], none),
  (67, [(.iinc 4 1, 3, 1, 0, 0)], some (.goto (-61), 3, 0, 0, 0)),
  (73, [(.iload_n 2, 1, 0, 0, 0)], some (.ireturn, 1, 0, 0, 0))]
def iX0_farthestOf : MI := (yX0_farthestOf, cX0_farthestOf, 7, (some .int), 0, 2, bX0_farthestOf)
abbrev jX0_pairsSideBySide : Nat := 43
def bX0_pairsSideBySide : List Blk := [(0, [(.iconst 0, 1, 0, 0, 0), (.istore_n 1, 1, 0, 0, 0), (.iconst 0, 1, 0, 0, 0), (.istore_n 2, 1, 0, 0, 0)], none),
  (4, [(.iload_n 2, 1, 0, 0, 0), (.aload_n 0, 1, 0, 0, 0), (.getfield 27, 3, 0, 5, 0)], some (.if_icmp .ge 65, 3, 0, 0, 0)),
  (12, [(.iconst 0, 1, 0, 0, 0), (.istore_n 3, 1, 0, 0, 0)], none),
  (14, [(.iload_n 3, 1, 0, 0, 0), (.aload_n 0, 1, 0, 0, 0), (.getfield 27, 3, 0, 5, 0)], some (.if_icmp .ge 49, 3, 0, 0, 0)),
  (22, [(.aload_n 0, 1, 0, 0, 0), (.iload_n 2, 1, 0, 0, 0), (.iconst 0, 1, 0, 0, 0)], some (.invokevirtual 93, 3, 3, 3, 0)),
  (28, [], some (.ifCond .eq 34, 3, 0, 0, 0)),
  (31, [(.aload_n 0, 1, 0, 0, 0), (.iload_n 3, 1, 0, 0, 0), (.iconst 1, 1, 1, 0, 0)], some (.invokevirtual 93, 3, 3, 3, 0)),
  (37, [], some (.ifCond .eq 25, 3, 0, 0, 0)),
  (40, [(.aload_n 0, 1, 0, 0, 0), (.getfield 21, 3, 0, 3, 0), (.iload_n 2, 1, 0, 0, 0), (.iaload, 1, 0, 0, 0), (.aload_n 0, 1, 0, 0, 0), (.getfield 21, 3, 0, 3, 0), (.iload_n 3, 1, 0, 0, 0), (.iaload, 1, 0, 0, 0)], some (.invokestatic 114, 3, 22, 2, 0)),
  (55, [(.iconst 1, 1, 1, 0, 0)], some (.if_icmp .ne 6, 3, 0, 0, 0)),
  (59, [(.iinc 1 1, 3, 1, 0, 0)], none),
  (62, [(.iinc 3 1, 3, 1, 0, 0)], some (.goto (-51), 3, 0, 0, 0)),
  (68, [(.iinc 2 1, 3, 1, 0, 0)], some (.goto (-67), 3, 0, 0, 0)),
  (74, [(.iload_n 1, 1, 0, 0, 0)], some (.ireturn, 1, 0, 0, 0))]
def iX0_pairsSideBySide : MI := (yX0_pairsSideBySide, cX0_pairsSideBySide, 4, (some .int), 0, 1, bX0_pairsSideBySide)
abbrev jX0_quietOn : Nat := 44
def bX0_quietOn : List Blk := [(0, [(.iconst 0, 1, 0, 0, 0), (.istore_n 2, 1, 0, 0, 0), (.iconst 0, 1, 0, 0, 0), (.istore_n 3, 1, 0, 0, 0)], none),
  (4, [(.iload_n 3, 1, 0, 0, 0), (.aload_n 0, 1, 0, 0, 0), (.getfield 27, 3, 0, 5, 0)], some (.if_icmp .ge 38, 3, 0, 0, 0)),
  (12, [(.iload_n 2, 1, 0, 0, 0), (.aload_n 0, 1, 0, 0, 0), (.iload_n 3, 1, 0, 0, 0)], some (.invokevirtual 56, 3, 2, 2, 0)),
  (18, [], some (.ifCond .eq 20, 3, 0, 0, 0)),
  (21, [(.aload_n 0, 1, 0, 0, 0), (.iload_n 3, 1, 0, 0, 0), (.iload_n 1, 1, 0, 0, 0)], some (.invokevirtual 85, 3, 25, 3, 0)),
  (27, [(.bipush (-4), 2, 4, 1, 0)], some (.if_icmp .ne 9, 3, 0, 0, 0)),
  (32, [(.iconst 1, 1, 1, 0, 0), (.iload_n 3, 1, 0, 0, 0), (.ishl, 1, 0, 0, 0)], some (.goto 4, 3, 0, 0, 0)),
  (38, [(.iconst 0, 1, 0, 0, 0)], none),
  (39, [(.ior, 1, 0, 0, 0), (.istore_n 2, 1, 0, 0, 0), (.iinc 3 1, 3, 1, 0, 0)], some (.goto (-40), 3, 0, 0, 0)),
  (47, [(.iload_n 2, 1, 0, 0, 0)], some (.ireturn, 1, 0, 0, 0))]
def iX0_quietOn : MI := (yX0_quietOn, cX0_quietOn, 4, (some .int), 0, 2, bX0_quietOn)
abbrev jX1_costWith : Nat := 45
def bX1_costWith : List Blk := [(0, [(.iload_n 0, 1, 0, 0, 0)], some (.tableswitch 65 0 7 #[65, 47, 49, 53, 55, 61, 49, 63], 47, 0, 0, 0)),
  (48, [(.iconst 3, 1, 3, 0, 0)], some (.ireturn, 1, 0, 0, 0)),
  (50, [(.iconst 1, 1, 1, 0, 0), (.iload_n 1, 1, 0, 0, 0), (.iadd, 1, 0, 0, 0)], some (.ireturn, 1, 0, 0, 0)),
  (54, [(.iconst 2, 1, 2, 0, 0)], some (.ireturn, 1, 0, 0, 0)),
  (56, [(.iconst 2, 1, 2, 0, 0), (.iconst 1, 1, 1, 0, 0), (.iload_n 1, 1, 0, 0, 0), (.iadd, 1, 0, 0, 0), (.imul, 1, 0, 0, 0)], some (.ireturn, 1, 0, 0, 0)),
  (62, [(.iconst 0, 1, 0, 0, 0)], some (.ireturn, 1, 0, 0, 0)),
  (64, [(.iconst 1, 1, 1, 0, 0)], some (.ireturn, 1, 0, 0, 0)),
  (66, [(.iconst 1, 1, 1, 0, 0)], some (.ireturn, 1, 0, 0, 0))]
def iX1_costWith : MI := (yX1_costWith, cX1_costWith, 2, (some .int), 4, 2, bX1_costWith)
abbrev jJ7_fill_53178 : Nat := 46
def bJ7_fill_53178 : List Blk := [(0, [(.iconst 0, 1, 0, 0, 0), (.istore_n 2, 1, 0, 0, 0), (.aload_n 0, 1, 0, 0, 0), (.arraylength, 1, 0, 0, 0), (.istore_n 3, 1, 0, 0, 0)], none),
  (5, [(.iload_n 2, 1, 0, 0, 0), (.iload_n 3, 1, 0, 0, 0)], some (.if_icmp .ge 13, 3, 0, 0, 0)),
  (10, [(.aload_n 0, 1, 0, 0, 0), (.iload_n 2, 1, 0, 0, 0), (.iload_n 1, 1, 0, 0, 0), (.iastore, 1, 0, 0, 0), (.iinc 2 1, 3, 1, 0, 0)], some (.goto (-12), 3, 0, 0, 0)),
  (20, [], some (.return_, 1, 0, 0, 0))]
def iJ7_fill_53178 : MI := (yJ7_fill_53178, cJ7_fill_53178, 4, none, 7, 2, bJ7_fill_53178)
abbrev jX2_becomesRow : Nat := 47
def bX2_becomesRow : List Blk := [(0, [(.aload_n 0, 1, 0, 0, 0), (.iconst 2, 1, 2, 0, 0), (.putfield 9, 3, 1, 0, 0), (.aload_n 0, 1, 0, 0, 0), (.iload_n 1, 1, 0, 0, 0), (.putfield 21, 3, 1, 3, 0), (.aload_n 0, 1, 0, 0, 0), (.iload_n 2, 1, 0, 0, 0), (.putfield 24, 3, 1, 4, 0), (.aload_n 0, 1, 0, 0, 0), (.getfield 27, 3, 1, 5, 0), (.iconst 0, 1, 0, 0, 0)], some (.invokestatic 31, 3, 46, 2, 0)),
  (23, [], some (.return_, 1, 0, 0, 0))]
def iX2_becomesRow : MI := (yX2_becomesRow, cX2_becomesRow, 3, none, 1, 3, bX2_becomesRow)
abbrev jX2_hasPlace : Nat := 48
def bX2_hasPlace : List Blk := [(0, [(.iload_n 1, 1, 0, 0, 0)], some (.ifCond .lt 21, 3, 0, 0, 0)),
  (4, [(.iload_n 1, 1, 0, 0, 0), (.aload_n 0, 1, 0, 0, 0), (.getfield 24, 3, 1, 4, 0)], some (.if_icmp .ge 13, 3, 0, 0, 0)),
  (12, [(.iload_n 1, 1, 0, 0, 0), (.bipush 100, 2, 100, 0, 0)], some (.if_icmp .ge 7, 3, 0, 0, 0)),
  (18, [(.iconst 1, 1, 1, 0, 0)], some (.goto 4, 3, 0, 0, 0)),
  (22, [(.iconst 0, 1, 0, 0, 0)], none),
  (23, [], some (.ireturn, 1, 1, 0, 0))]
def iX2_hasPlace : MI := (yX2_hasPlace, cX2_hasPlace, 2, (some .boolean), 1, 2, bX2_hasPlace)
abbrev jX2_hasPlaces : Nat := 49
def bX2_hasPlaces : List Blk := [(0, [(.iload_n 2, 1, 0, 0, 0)], some (.ifCond .lt 29, 3, 0, 0, 0)),
  (4, [(.iload_n 2, 1, 0, 0, 0), (.aload_n 0, 1, 0, 0, 0), (.getfield 24, 3, 1, 4, 0)], some (.if_icmp .gt 21, 3, 0, 0, 0)),
  (12, [(.iload_n 1, 1, 0, 0, 0)], some (.ifCond .lt 17, 3, 0, 0, 0)),
  (16, [(.iload_n 1, 1, 0, 0, 0), (.aload_n 0, 1, 0, 0, 0), (.getfield 24, 3, 1, 4, 0), (.iload_n 2, 1, 0, 0, 0), (.isub, 1, 0, 0, 0)], some (.if_icmp .gt 7, 3, 0, 0, 0)),
  (26, [(.iconst 1, 1, 1, 0, 0)], some (.goto 4, 3, 0, 0, 0)),
  (30, [(.iconst 0, 1, 0, 0, 0)], none),
  (31, [], some (.ireturn, 1, 1, 0, 0))]
def iX2_hasPlaces : MI := (yX2_hasPlaces, cX2_hasPlaces, 3, (some .boolean), 1, 3, bX2_hasPlaces)
abbrev jX2_elementAt : Nat := 50
def bX2_elementAt : List Blk := [(0, [(.aload_n 0, 1, 0, 0, 0), (.iload_n 1, 1, 0, 0, 0)], some (.invokevirtual 37, 3, 48, 2, 1)),
  (5, [], some (.ifCond .eq 12, 3, 0, 0, 0)),
  (8, [(.aload_n 0, 1, 0, 0, 0), (.getfield 27, 3, 1, 5, 0), (.iload_n 1, 1, 0, 0, 0), (.iaload, 1, 0, 0, 0)], some (.goto 4, 3, 0, 0, 0)),
  (17, [(.iconst 0, 1, 0, 0, 0)], none),
  (18, [], some (.ireturn, 1, 0, 0, 0))]
def iX2_elementAt : MI := (yX2_elementAt, cX2_elementAt, 2, (some .int), 1, 2, bX2_elementAt)
abbrev jX2_putIn : Nat := 51
def bX2_putIn : List Blk := [(0, [(.aload_n 0, 1, 0, 0, 0), (.iload_n 1, 1, 0, 0, 0)], some (.invokevirtual 37, 3, 48, 2, 1)),
  (5, [], some (.ifCond .ne 5, 3, 0, 0, 0)),
  (8, [(.iconst 0, 1, 0, 0, 0)], some (.ireturn, 1, 1, 0, 0)),
  (10, [(.aload_n 0, 1, 0, 0, 0), (.getfield 27, 3, 1, 5, 0), (.iload_n 1, 1, 0, 0, 0), (.aload_n 0, 1, 0, 0, 0), (.getfield 21, 3, 1, 3, 0)], some (.ifCond .ne 8, 3, 0, 0, 0)),
  (22, [(.iload_n 2, 1, 0, 0, 0), (.i2b, 1, 0, 0, 0)], some (.goto 17, 3, 0, 0, 0)),
  (27, [(.aload_n 0, 1, 0, 0, 0), (.getfield 21, 3, 1, 3, 0), (.iconst 1, 1, 1, 0, 0)], some (.if_icmp .ne 8, 3, 0, 0, 0)),
  (35, [(.iload_n 2, 1, 0, 0, 0), (.i2s, 1, 0, 0, 0)], some (.goto 4, 3, 0, 0, 0)),
  (40, [(.iload_n 2, 1, 0, 0, 0)], none),
  (41, [(.iastore, 1, 0, 0, 0), (.iconst 1, 1, 1, 0, 0)], some (.ireturn, 1, 1, 0, 0))]
def iX2_putIn : MI := (yX2_putIn, cX2_putIn, 3, (some .boolean), 1, 3, bX2_putIn)
abbrev jX2_isSkipped : Nat := 52
def bX2_isSkipped : List Blk := [(0, [(.aload_n 0, 1, 0, 0, 0), (.getfield 21, 3, 1, 3, 0)], some (.ifCond .ne 8, 3, 0, 0, 0)),
  (7, [(.bipush (-128), 2, 128, 1, 0)], some (.goto 19, 3, 0, 0, 0)),
  (12, [(.aload_n 0, 1, 0, 0, 0), (.getfield 21, 3, 1, 3, 0), (.iconst 1, 1, 1, 0, 0)], some (.if_icmp .ne 9, 3, 0, 0, 0)),
  (20, [(.sipush (-32768), 3, 32768, 1, 0)], some (.goto 5, 3, 0, 0, 0)),
  (26, [(.ldc 41, 2, 2147483648, 1, 0)], none),
  (28, [(.istore_n 2, 1, 0, 0, 0), (.aload_n 0, 1, 0, 0, 0), (.iload_n 1, 1, 0, 0, 0)], some (.invokevirtual 42, 3, 50, 2, 1)),
  (34, [(.iload_n 2, 1, 0, 0, 0)], some (.if_icmp .ne 7, 3, 0, 0, 0)),
  (38, [(.iconst 1, 1, 1, 0, 0)], some (.goto 4, 3, 0, 0, 0)),
  (42, [(.iconst 0, 1, 0, 0, 0)], none),
  (43, [], some (.ireturn, 1, 1, 0, 0))]
def iX2_isSkipped : MI := (yX2_isSkipped, cX2_isSkipped, 3, (some .boolean), 1, 2, bX2_isSkipped)
abbrev jX2_digitsBehind : Nat := 53
def bX2_digitsBehind : List Blk := [(0, [(.aload_n 0, 1, 0, 0, 0), (.iload_n 1, 1, 0, 0, 0)], some (.invokevirtual 42, 3, 50, 2, 1)),
  (5, [], some (.lookupswitch 71 #[(100, 69), (107, 67), (109, 61), (112, 59), (116, 65), (120, 63)], 59, 0, 0, 0)),
  (64, [(.iconst 5, 1, 5, 0, 0)], some (.ireturn, 1, 0, 0, 0)),
  (66, [(.iconst 3, 1, 3, 0, 0)], some (.ireturn, 1, 0, 0, 0)),
  (68, [(.iconst 1, 1, 1, 0, 0)], some (.ireturn, 1, 0, 0, 0)),
  (70, [(.iconst 1, 1, 1, 0, 0)], some (.ireturn, 1, 0, 0, 0)),
  (72, [(.iconst 3, 1, 3, 0, 0)], some (.ireturn, 1, 0, 0, 0)),
  (74, [(.iconst 2, 1, 2, 0, 0)], some (.ireturn, 1, 0, 0, 0)),
  (76, [(.bipush (-4), 2, 4, 1, 0)], some (.ireturn, 1, 0, 0, 0))]
def iX2_digitsBehind : MI := (yX2_digitsBehind, cX2_digitsBehind, 2, (some .int), 1, 2, bX2_digitsBehind)
abbrev jX2_wrongByte : Nat := 54
def bX2_wrongByte : List Blk := [(0, [(.aload_n 0, 1, 0, 0, 0), (.getfield 24, 3, 1, 4, 0)], some (.ifCond .ne 5, 3, 0, 0, 0)),
  (7, [(.iconst 0, 1, 0, 0, 0)], some (.ireturn, 1, 0, 0, 0)),
  (9, [(.bipush (-4), 2, 4, 1, 0), (.istore_n 1, 1, 0, 0, 0), (.iconst 0, 1, 0, 0, 0), (.istore_n 2, 1, 0, 0, 0)], none),
  (14, [(.iload_n 2, 1, 0, 0, 0), (.aload_n 0, 1, 0, 0, 0), (.getfield 24, 3, 1, 4, 0)], some (.if_icmp .ge 70, 3, 0, 0, 0)),
  (22, [(.aload_n 0, 1, 0, 0, 0), (.iload_n 2, 1, 0, 0, 0)], some (.invokevirtual 42, 3, 50, 2, 1)),
  (27, [(.istore_n 3, 1, 0, 0, 0), (.iload_n 1, 1, 0, 0, 0), (.bipush (-4), 2, 4, 1, 0)], some (.if_icmp .ne 17, 3, 0, 0, 0)),
  (34, [(.aload_n 0, 1, 0, 0, 0), (.iload_n 2, 1, 0, 0, 0)], some (.invokevirtual 46, 3, 53, 2, 1)),
  (39, [(.istore_n 1, 1, 0, 0, 0), (.iload_n 1, 1, 0, 0, 0), (.bipush (-4), 2, 4, 1, 0)], some (.if_icmp .ne 40, 3, 0, 0, 0)),
  (46, [(.iload_n 2, 1, 0, 0, 0)], some (.ireturn, 1, 0, 0, 0)),
  (48, [(.iload_n 1, 1, 0, 0, 0)], some (.ifCond .le 23, 3, 0, 0, 0)),
  (52, [(.iload_n 3, 1, 0, 0, 0), (.bipush 48, 2, 48, 0, 0)], some (.if_icmp .lt 9, 3, 0, 0, 0)),
  (58, [(.iload_n 3, 1, 0, 0, 0), (.bipush 57, 2, 57, 0, 0)], some (.if_icmp .le 5, 3, 0, 0, 0)),
  (64, [(.iload_n 2, 1, 0, 0, 0)], some (.ireturn, 1, 0, 0, 0)),
  (66, [(.iinc 1 (-1), 3, 1, 1, 0)], some (.goto 14, 3, 0, 0, 0)),
  (72, [(.iload_n 3, 1, 0, 0, 0), (.bipush 59, 2, 59, 0, 0)], some (.if_icmp .eq 5, 3, 0, 0, 0)),
  (78, [(.iload_n 2, 1, 0, 0, 0)], some (.ireturn, 1, 0, 0, 0)),
  (80, [(.bipush (-4), 2, 4, 1, 0), (.istore_n 1, 1, 0, 0, 0)], none),
  (83, [(.iinc 2 1, 3, 1, 0, 0)], some (.goto (-72), 3, 0, 0, 0)),
  (89, [(.iload_n 1, 1, 0, 0, 0), (.bipush (-4), 2, 4, 1, 0)], some (.if_icmp .ne 8, 3, 0, 0, 0)),
  (95, [(.bipush (-4), 2, 4, 1, 0)], some (.goto 7, 3, 0, 0, 0)),
  (100, [(.aload_n 0, 1, 0, 0, 0), (.getfield 24, 3, 1, 4, 0)], none),
  (104, [], some (.ireturn, 1, 0, 0, 0))]
def iX2_wrongByte : MI := (yX2_wrongByte, cX2_wrongByte, 4, (some .int), 1, 1, bX2_wrongByte)
abbrev jX2_digitAt : Nat := 55
def bX2_digitAt : List Blk := [(0, [(.aload_n 0, 1, 0, 0, 0), (.iload_n 1, 1, 0, 0, 0)], some (.invokevirtual 42, 3, 50, 2, 1)),
  (5, [(.bipush 48, 2, 48, 0, 0), (.isub, 1, 0, 0, 0)], some (.ireturn, 1, 0, 0, 0))]
def iX2_digitAt : MI := (yX2_digitAt, cX2_digitAt, 2, (some .int), 1, 2, bX2_digitAt)
abbrev jX2_twoDigitsAt : Nat := 56
def bX2_twoDigitsAt : List Blk := [(0, [(.bipush 10, 2, 10, 0, 0), (.aload_n 0, 1, 0, 0, 0), (.iload_n 1, 1, 0, 0, 0)], some (.invokevirtual 49, 3, 55, 2, 1)),
  (7, [(.imul, 1, 0, 0, 0), (.aload_n 0, 1, 0, 0, 0), (.iload_n 1, 1, 0, 0, 0), (.iconst 1, 1, 1, 0, 0), (.iadd, 1, 0, 0, 0)], some (.invokevirtual 49, 3, 55, 2, 1)),
  (15, [(.iadd, 1, 0, 0, 0)], some (.ireturn, 1, 0, 0, 0))]
def iX2_twoDigitsAt : MI := (yX2_twoDigitsAt, cX2_twoDigitsAt, 2, (some .int), 1, 2, bX2_twoDigitsAt)
abbrev jX3_shelfAt : Nat := 57
def bX3_shelfAt : List Blk := [(0, [(.iload_n 1, 1, 0, 0, 0)], some (.ifCond .lt 21, 3, 0, 0, 0)),
  (4, [(.iload_n 1, 1, 0, 0, 0), (.aload_n 0, 1, 0, 0, 0), (.getfield 25, 3, 2, 3, 0), (.arraylength, 1, 0, 0, 0)], some (.if_icmp .ge 12, 3, 0, 0, 0)),
  (13, [(.aload_n 0, 1, 0, 0, 0), (.getfield 25, 3, 2, 3, 0), (.iload_n 1, 1, 0, 0, 0), (.aaload, 1, 0, 0, 0)], some (.goto 4, 3, 0, 0, 0)),
  (22, [(.aconst_null, 1, 0, 0, 0)], none),
  (23, [], some (.areturn, 1, 0, 0, 0))]
def iX3_shelfAt : MI := (yX3_shelfAt, cX3_shelfAt, 2, (some (.object "TakenUpByThePieces$Shelf")), 2, 2, bX3_shelfAt)
abbrev jX3_refusalUnless : Nat := 58
def bX3_refusalUnless : List Blk := [(0, [(.aload_n 0, 1, 0, 0, 0)], some (.ifnonnull 5, 3, 0, 0, 0)),
  (4, [(.iconst (-1), 1, 1, 1, 0)], some (.ireturn, 1, 0, 0, 0)),
  (6, [(.aload_n 0, 1, 0, 0, 0), (.getfield 261, 3, 1, 0, 0)], some (.ifCond .ne 6, 3, 0, 0, 0)),
  (13, [(.bipush (-11), 2, 11, 1, 0)], some (.ireturn, 1, 0, 0, 0)),
  (16, [(.aload_n 0, 1, 0, 0, 0), (.getfield 261, 3, 1, 0, 0), (.iload_n 1, 1, 0, 0, 0)], some (.if_icmp .ne 7, 3, 0, 0, 0)),
  (24, [(.iconst 0, 1, 0, 0, 0)], some (.goto 5, 3, 0, 0, 0)),
  (28, [(.bipush (-12), 2, 12, 1, 0)], none),
  (30, [], some (.ireturn, 1, 0, 0, 0))]
def iX3_refusalUnless : MI := (yX3_refusalUnless, cX3_refusalUnless, 2, (some .int), 2, 2, bX3_refusalUnless)
abbrev jX3_isDone : Nat := 59
def bX3_isDone : List Blk := [(0, [(.aload_n 1, 1, 0, 0, 0), (.iload_n 2, 1, 0, 0, 0), (.iconst 1, 1, 1, 0, 0), (.iadd, 1, 0, 0, 0)], some (.invokevirtual 316, 3, 55, 2, 1)),
  (7, [(.istore_n 3, 1, 0, 0, 0), (.aload_n 1, 1, 0, 0, 0), (.iload_n 2, 1, 0, 0, 0), (.iconst 2, 1, 2, 0, 0), (.iadd, 1, 0, 0, 0)], some (.invokevirtual 316, 3, 55, 2, 1)),
  (15, [(.istore 4, 2, 0, 0, 0), (.aload_n 1, 1, 0, 0, 0), (.iload_n 2, 1, 0, 0, 0), (.iconst 3, 1, 3, 0, 0), (.iadd, 1, 0, 0, 0)], some (.invokevirtual 316, 3, 55, 2, 1)),
  (24, [(.istore 5, 2, 0, 0, 0), (.aload_n 1, 1, 0, 0, 0), (.iload_n 2, 1, 0, 0, 0)], some (.invokevirtual 252, 3, 50, 2, 1)),
  (31, [], some (.lookupswitch 139 #[(100, 124), (107, 111), (109, 77), (112, 57), (116, 102), (120, 93)], 57, 0, 0, 0)),
  (88, [(.aload_n 0, 1, 0, 0, 0), (.getfield 33, 3, 2, 5, 0), (.iload_n 3, 1, 0, 0, 0), (.iload 4, 2, 0, 0, 0), (.iload 5, 2, 0, 0, 0), (.aload_n 1, 1, 0, 0, 0), (.iload_n 2, 1, 0, 0, 0), (.iconst 4, 1, 4, 0, 0), (.iadd, 1, 0, 0, 0)], some (.invokevirtual 319, 3, 56, 2, 1)),
  (104, [], some (.invokevirtual 133, 3, 11, 5, 0)),
  (107, [], some (.ireturn, 1, 1, 0, 0)),
  (108, [(.aload_n 0, 1, 0, 0, 0), (.getfield 33, 3, 2, 5, 0), (.iload_n 3, 1, 0, 0, 0), (.aload_n 1, 1, 0, 0, 0), (.iload_n 2, 1, 0, 0, 0), (.iconst 2, 1, 2, 0, 0), (.iadd, 1, 0, 0, 0)], some (.invokevirtual 319, 3, 56, 2, 1)),
  (120, [], some (.invokevirtual 137, 3, 14, 3, 0)),
  (123, [], some (.ireturn, 1, 1, 0, 0)),
  (124, [(.aload_n 0, 1, 0, 0, 0), (.getfield 33, 3, 2, 5, 0), (.iload_n 3, 1, 0, 0, 0)], some (.invokevirtual 141, 3, 13, 2, 0)),
  (132, [], some (.ireturn, 1, 1, 0, 0)),
  (133, [(.aload_n 0, 1, 0, 0, 0), (.getfield 33, 3, 2, 5, 0), (.iload_n 3, 1, 0, 0, 0)], some (.invokevirtual 147, 3, 17, 2, 0)),
  (141, [], some (.ireturn, 1, 1, 0, 0)),
  (142, [(.aload_n 0, 1, 0, 0, 0), (.getfield 33, 3, 2, 5, 0), (.iload_n 3, 1, 0, 0, 0), (.iload 4, 2, 0, 0, 0), (.iload 5, 2, 0, 0, 0)], some (.invokevirtual 228, 3, 16, 4, 0)),
  (154, [], some (.ireturn, 1, 1, 0, 0)),
  (155, [(.aload_n 0, 1, 0, 0, 0), (.getfield 33, 3, 2, 5, 0), (.aload_n 1, 1, 0, 0, 0), (.iload_n 2, 1, 0, 0, 0), (.iconst 1, 1, 1, 0, 0), (.iadd, 1, 0, 0, 0)], some (.invokevirtual 319, 3, 56, 2, 1)),
  (166, [], some (.invokevirtual 150, 3, 32, 2, 0)),
  (169, [], some (.ireturn, 1, 1, 0, 0)),
  (170, [(.iconst 0, 1, 0, 0, 0)], some (.ireturn, 1, 1, 0, 0))]
def iX3_isDone : MI := (yX3_isDone, cX3_isDone, 6, (some .boolean), 2, 3, bX3_isDone)
abbrev jX3_game : Nat := 60
def bX3_game : List Blk := [(0, [(.aload_n 0, 1, 0, 0, 0), (.iload_n 1, 1, 0, 0, 0)], some (.invokevirtual 51, 3, 57, 2, 2)),
  (5, [(.astore_n 2, 1, 0, 0, 0), (.aload_n 2, 1, 0, 0, 0), (.iconst 2, 1, 2, 0, 0)], some (.invokestatic 55, 3, 58, 2, 0)),
  (11, [(.istore_n 3, 1, 0, 0, 0), (.aload_n 2, 1, 0, 0, 0)], some (.ifnull 7, 3, 0, 0, 0)),
  (16, [(.iload_n 3, 1, 0, 0, 0)], some (.ifCond .eq 5, 3, 0, 0, 0)),
  (20, [(.iload_n 3, 1, 0, 0, 0)], some (.ireturn, 1, 0, 0, 0)),
  (22, [(.aload_n 2, 1, 0, 0, 0), (.getfield 59, 3, 1, 3, 0)], some (.ifCond .eq 6, 3, 0, 0, 0)),
  (29, [(.bipush (-12), 2, 12, 1, 0)], some (.ireturn, 1, 0, 0, 0)),
  (32, [(.aload_n 2, 1, 0, 0, 0)], some (.invokevirtual 62, 3, 54, 1, 1)),
  (36, [(.istore 4, 2, 0, 0, 0), (.iload 4, 2, 0, 0, 0), (.bipush (-4), 2, 4, 1, 0)], some (.if_icmp .eq 10, 3, 0, 0, 0)),
  (45, [(.sipush (-1000), 3, 1000, 1, 0), (.iload 4, 2, 0, 0, 0), (.isub, 1, 0, 0, 0)], some (.ireturn, 1, 0, 0, 0)),
  (52, [(.iconst 0, 1, 0, 0, 0), (.istore 5, 2, 0, 0, 0), (.aload_n 0, 1, 0, 0, 0), (.getfield 33, 3, 2, 5, 0), (.aload_n 0, 1, 0, 0, 0), (.getfield 10, 3, 2, 0, 0)], some (.invokevirtual 66, 3, 0, 2, 0)),
  (66, [(.iconst 0, 1, 0, 0, 0), (.istore 6, 2, 0, 0, 0)], none),
  (69, [(.iload 6, 2, 0, 0, 0), (.aload_n 2, 1, 0, 0, 0), (.getfield 70, 3, 1, 4, 0)], some (.if_icmp .ge 43, 3, 0, 0, 0)),
  (78, [(.aload_n 0, 1, 0, 0, 0), (.aload_n 2, 1, 0, 0, 0), (.iload 6, 2, 0, 0, 0)], some (.invokevirtual 73, 3, 59, 3, 2)),
  (85, [], some (.ifCond .ne 10, 3, 0, 0, 0)),
  (88, [(.sipush (-2000), 3, 2000, 1, 0), (.iload 6, 2, 0, 0, 0), (.isub, 1, 0, 0, 0)], some (.ireturn, 1, 0, 0, 0)),
  (95, [(.iinc 5 1, 3, 1, 0, 0), (.iload 6, 2, 0, 0, 0), (.iconst 2, 1, 2, 0, 0), (.iconst 0, 1, 0, 0, 0), (.aload_n 2, 1, 0, 0, 0), (.iload 6, 2, 0, 0, 0)], some (.invokevirtual 77, 3, 53, 2, 1)),
  (108, [(.invokestatic 81, 3, 1, 0, 0), (.iadd, 1, 0, 0, 0), (.iadd, 1, 0, 0, 0), (.istore 6, 2, 0, 0, 0)], some (.goto (-46), 3, 0, 0, 0)),
  (118, [(.aload_n 0, 1, 0, 0, 0), (.getfield 10, 3, 2, 0, 0), (.aload_n 0, 1, 0, 0, 0), (.getfield 33, 3, 2, 5, 0)], some (.invokevirtual 66, 3, 0, 2, 0)),
  (129, [(.iload 5, 2, 0, 0, 0)], some (.ireturn, 1, 0, 0, 0))]
def iX3_game : MI := (yX3_game, cX3_game, 7, (some .int), 2, 2, bX3_game)
abbrev jX3_piece : Nat := 61
def bX3_piece : List Blk := [(0, [(.aload_n 0, 1, 0, 0, 0), (.getfield 10, 3, 2, 0, 0), (.iload_n 1, 1, 0, 0, 0)], some (.invokevirtual 87, 3, 1, 2, 0)),
  (8, [], some (.ifCond .ne 5, 3, 0, 0, 0)),
  (11, [(.iconst (-1), 1, 1, 1, 0)], some (.ireturn, 1, 0, 0, 0)),
  (13, [(.iload_n 2, 1, 0, 0, 0)], some (.tableswitch 143 0 6 #[42, 52, 62, 72, 81, 103, 125], 42, 0, 0, 0)),
  (56, [(.aload_n 0, 1, 0, 0, 0), (.getfield 10, 3, 2, 0, 0), (.getfield 91, 3, 0, 0, 0), (.iload_n 1, 1, 0, 0, 0), (.iaload, 1, 0, 0, 0)], some (.ireturn, 1, 0, 0, 0)),
  (66, [(.aload_n 0, 1, 0, 0, 0), (.getfield 10, 3, 2, 0, 0), (.getfield 94, 3, 0, 1, 0), (.iload_n 1, 1, 0, 0, 0), (.iaload, 1, 0, 0, 0)], some (.ireturn, 1, 0, 0, 0)),
  (76, [(.aload_n 0, 1, 0, 0, 0), (.getfield 10, 3, 2, 0, 0), (.getfield 97, 3, 0, 2, 0), (.iload_n 1, 1, 0, 0, 0), (.iaload, 1, 0, 0, 0)], some (.ireturn, 1, 0, 0, 0)),
  (86, [(.aload_n 0, 1, 0, 0, 0), (.getfield 10, 3, 2, 0, 0), (.iload_n 1, 1, 0, 0, 0)], some (.invokevirtual 100, 3, 5, 2, 0)),
  (94, [], some (.ireturn, 1, 0, 0, 0)),
  (95, [(.aload_n 0, 1, 0, 0, 0), (.getfield 10, 3, 2, 0, 0), (.getfield 91, 3, 0, 0, 0), (.iload_n 1, 1, 0, 0, 0), (.iaload, 1, 0, 0, 0), (.aload_n 0, 1, 0, 0, 0), (.getfield 10, 3, 2, 0, 0), (.getfield 94, 3, 0, 1, 0), (.iload_n 1, 1, 0, 0, 0), (.iaload, 1, 0, 0, 0)], some (.invokestatic 103, 3, 26, 2, 0)),
  (116, [], some (.ireturn, 1, 0, 0, 0)),
  (117, [(.aload_n 0, 1, 0, 0, 0), (.getfield 10, 3, 2, 0, 0), (.getfield 91, 3, 0, 0, 0), (.iload_n 1, 1, 0, 0, 0), (.iaload, 1, 0, 0, 0), (.aload_n 0, 1, 0, 0, 0), (.getfield 10, 3, 2, 0, 0), (.getfield 94, 3, 0, 1, 0), (.iload_n 1, 1, 0, 0, 0), (.iaload, 1, 0, 0, 0)], some (.invokestatic 108, 3, 36, 2, 0)),
  (138, [], some (.ireturn, 1, 0, 0, 0)),
  (139, [(.aload_n 0, 1, 0, 0, 0), (.getfield 10, 3, 2, 0, 0), (.iload_n 1, 1, 0, 0, 0), (.aload_n 0, 1, 0, 0, 0), (.getfield 10, 3, 2, 0, 0), (.getfield 111, 3, 0, 8, 0), (.iconst 1, 1, 1, 0, 0), (.iadd, 1, 0, 0, 0)], some (.invokevirtual 114, 3, 25, 3, 0)),
  (156, [], some (.ireturn, 1, 0, 0, 0)),
  (157, [(.iconst (-1), 1, 1, 1, 0)], some (.ireturn, 1, 0, 0, 0))]
def iX3_piece : MI := (yX3_piece, cX3_piece, 3, (some .int), 2, 3, bX3_piece)
abbrev jX3_on : Nat := 62
def bX3_on : List Blk := [(0, [(.iload_n 1, 1, 0, 0, 0)], some (.invokestatic 117, 3, 12, 1, 0)),
  (4, [], some (.ifCond .eq 15, 3, 0, 0, 0)),
  (7, [(.aload_n 0, 1, 0, 0, 0), (.getfield 10, 3, 2, 0, 0), (.getfield 120, 3, 0, 4, 0), (.iload_n 1, 1, 0, 0, 0), (.iaload, 1, 0, 0, 0)], some (.goto 4, 3, 0, 0, 0)),
  (19, [(.iconst (-1), 1, 1, 1, 0)], none),
  (20, [], some (.ireturn, 1, 0, 0, 0))]
def iX3_on : MI := (yX3_on, cX3_on, 2, (some .int), 2, 2, bX3_on)
abbrev jX3_comes : Nat := 63
def bX3_comes : List Blk := [(0, [(.aload_n 0, 1, 0, 0, 0), (.iload_n 1, 1, 0, 0, 0)], some (.invokevirtual 51, 3, 57, 2, 2)),
  (5, [(.astore 4, 2, 0, 0, 0), (.aload 4, 2, 0, 0, 0)], some (.ifnull 17, 3, 0, 0, 0)),
  (12, [(.iload_n 2, 1, 0, 0, 0)], some (.invokestatic 123, 3, 10, 1, 0)),
  (16, [], some (.ifCond .eq 10, 3, 0, 0, 0)),
  (19, [(.iload_n 3, 1, 0, 0, 0)], some (.invokestatic 117, 3, 12, 1, 0)),
  (23, [], some (.ifCond .ne 5, 3, 0, 0, 0)),
  (26, [(.iconst (-1), 1, 1, 1, 0)], some (.ireturn, 1, 0, 0, 0)),
  (28, [(.aload 4, 2, 0, 0, 0), (.iconst 1, 1, 1, 0, 0)], some (.invokestatic 55, 3, 58, 2, 0)),
  (34, [(.istore 5, 2, 0, 0, 0), (.iload 5, 2, 0, 0, 0)], some (.ifCond .eq 6, 3, 0, 0, 0)),
  (41, [(.iload 5, 2, 0, 0, 0)], some (.ireturn, 1, 0, 0, 0)),
  (44, [(.aload_n 0, 1, 0, 0, 0), (.getfield 10, 3, 2, 0, 0), (.getfield 126, 3, 0, 5, 0), (.bipush 10, 2, 10, 0, 0)], some (.if_icmp .lt 6, 3, 0, 0, 0)),
  (56, [(.bipush (-2), 2, 2, 1, 0)], some (.ireturn, 1, 0, 0, 0)),
  (59, [(.aload_n 0, 1, 0, 0, 0), (.getfield 10, 3, 2, 0, 0), (.aload 4, 2, 0, 0, 0), (.getfield 129, 3, 1, 1, 0), (.aload 4, 2, 0, 0, 0), (.getfield 131, 3, 1, 2, 0), (.iload_n 2, 1, 0, 0, 0), (.iload_n 3, 1, 0, 0, 0)], some (.invokevirtual 133, 3, 11, 5, 0)),
  (78, [], some (.ifCond .eq 15, 3, 0, 0, 0)),
  (81, [(.aload_n 0, 1, 0, 0, 0), (.getfield 10, 3, 2, 0, 0), (.getfield 126, 3, 0, 5, 0), (.iconst 1, 1, 1, 0, 0), (.isub, 1, 0, 0, 0)], some (.goto 5, 3, 0, 0, 0)),
  (93, [(.bipush (-3), 2, 3, 1, 0)], none),
  (95, [], some (.ireturn, 1, 0, 0, 0))]
def iX3_comes : MI := (yX3_comes, cX3_comes, 6, (some .int), 2, 4, bX3_comes)
abbrev jX3_stands : Nat := 64
def bX3_stands : List Blk := [(0, [(.aload_n 0, 1, 0, 0, 0), (.getfield 10, 3, 2, 0, 0), (.iload_n 1, 1, 0, 0, 0)], some (.invokevirtual 87, 3, 1, 2, 0)),
  (8, [], some (.ifCond .eq 10, 3, 0, 0, 0)),
  (11, [(.iload_n 2, 1, 0, 0, 0)], some (.invokestatic 117, 3, 12, 1, 0)),
  (15, [], some (.ifCond .ne 5, 3, 0, 0, 0)),
  (18, [(.iconst (-1), 1, 1, 1, 0)], some (.ireturn, 1, 0, 0, 0)),
  (20, [(.aload_n 0, 1, 0, 0, 0), (.getfield 10, 3, 2, 0, 0), (.iload_n 1, 1, 0, 0, 0)], some (.invokevirtual 100, 3, 5, 2, 0)),
  (28, [(.istore_n 3, 1, 0, 0, 0), (.aload_n 0, 1, 0, 0, 0), (.getfield 10, 3, 2, 0, 0), (.iload_n 1, 1, 0, 0, 0), (.iload_n 2, 1, 0, 0, 0)], some (.invokevirtual 137, 3, 14, 3, 0)),
  (38, [], some (.ifCond .eq 7, 3, 0, 0, 0)),
  (41, [(.iload_n 3, 1, 0, 0, 0)], some (.goto 5, 3, 0, 0, 0)),
  (45, [(.bipush (-3), 2, 3, 1, 0)], none),
  (47, [], some (.ireturn, 1, 0, 0, 0))]
def iX3_stands : MI := (yX3_stands, cX3_stands, 4, (some .int), 2, 3, bX3_stands)
abbrev jX3_takes : Nat := 65
def bX3_takes : List Blk := [(0, [(.aload_n 0, 1, 0, 0, 0), (.getfield 10, 3, 2, 0, 0), (.iload_n 1, 1, 0, 0, 0)], some (.invokevirtual 87, 3, 1, 2, 0)),
  (8, [], some (.ifCond .ne 5, 3, 0, 0, 0)),
  (11, [(.iconst (-1), 1, 1, 1, 0)], some (.ireturn, 1, 0, 0, 0)),
  (13, [(.aload_n 0, 1, 0, 0, 0), (.getfield 10, 3, 2, 0, 0), (.iload_n 1, 1, 0, 0, 0)], some (.invokevirtual 100, 3, 5, 2, 0)),
  (21, [(.istore_n 2, 1, 0, 0, 0), (.aload_n 0, 1, 0, 0, 0), (.getfield 10, 3, 2, 0, 0), (.iload_n 1, 1, 0, 0, 0)], some (.invokevirtual 141, 3, 13, 2, 0)),
  (30, [], some (.ifCond .eq 7, 3, 0, 0, 0)),
  (33, [(.iload_n 2, 1, 0, 0, 0)], some (.goto 5, 3, 0, 0, 0)),
  (37, [(.bipush (-3), 2, 3, 1, 0)], none),
  (39, [], some (.ireturn, 1, 0, 0, 0))]
def iX3_takes : MI := (yX3_takes, cX3_takes, 3, (some .int), 2, 2, bX3_takes)
abbrev jX3_turn : Nat := 66
def bX3_turn : List Blk := [(0, [(.aload_n 0, 1, 0, 0, 0), (.getfield 10, 3, 2, 0, 0), (.getfield 144, 3, 0, 6, 0), (.istore_n 2, 1, 0, 0, 0), (.aload_n 0, 1, 0, 0, 0), (.getfield 10, 3, 2, 0, 0), (.iload_n 1, 1, 0, 0, 0)], some (.invokevirtual 147, 3, 17, 2, 0)),
  (16, [], some (.ifCond .eq 7, 3, 0, 0, 0)),
  (19, [(.iload_n 2, 1, 0, 0, 0)], some (.goto 4, 3, 0, 0, 0)),
  (23, [(.iconst (-1), 1, 1, 1, 0)], none),
  (24, [], some (.ireturn, 1, 0, 0, 0))]
def iX3_turn : MI := (yX3_turn, cX3_turn, 3, (some .int), 2, 2, bX3_turn)
abbrev jX3_days : Nat := 67
def bX3_days : List Blk := [(0, [(.iload_n 1, 1, 0, 0, 0), (.iconst 1, 1, 1, 0, 0)], some (.if_icmp .lt 9, 3, 0, 0, 0)),
  (5, [(.iload_n 1, 1, 0, 0, 0), (.bipush 60, 2, 60, 0, 0)], some (.if_icmp .le 5, 3, 0, 0, 0)),
  (11, [(.iconst (-1), 1, 1, 1, 0)], some (.ireturn, 1, 0, 0, 0)),
  (13, [(.aload_n 0, 1, 0, 0, 0), (.getfield 10, 3, 2, 0, 0), (.iload_n 1, 1, 0, 0, 0)], some (.invokevirtual 150, 3, 32, 2, 0)),
  (21, [], some (.ifCond .eq 13, 3, 0, 0, 0)),
  (24, [(.aload_n 0, 1, 0, 0, 0), (.getfield 10, 3, 2, 0, 0)], some (.invokevirtual 153, 3, 34, 1, 0)),
  (31, [], some (.goto 5, 3, 0, 0, 0)),
  (34, [(.bipush (-3), 2, 3, 1, 0)], none),
  (36, [], some (.ireturn, 1, 0, 0, 0))]
def iX3_days : MI := (yX3_days, cX3_days, 2, (some .int), 2, 2, bX3_days)
abbrev jX3_lookAhead : Nat := 68
def bX3_lookAhead : List Blk := [(0, [(.aload_n 0, 1, 0, 0, 0), (.getfield 33, 3, 2, 5, 0), (.aload_n 0, 1, 0, 0, 0), (.getfield 10, 3, 2, 0, 0)], some (.invokevirtual 66, 3, 0, 2, 0)),
  (11, [(.aload_n 0, 1, 0, 0, 0), (.getfield 33, 3, 2, 5, 0), (.iload_n 1, 1, 0, 0, 0)], some (.invokevirtual 201, 3, 33, 2, 0)),
  (19, [], some (.return_, 1, 0, 0, 0))]
def iX3_lookAhead : MI := (yX3_lookAhead, cX3_lookAhead, 2, none, 2, 2, bX3_lookAhead)
abbrev jX3_squareThen : Nat := 69
def bX3_squareThen : List Blk := [(0, [(.aload_n 0, 1, 0, 0, 0), (.getfield 10, 3, 2, 0, 0), (.iload_n 1, 1, 0, 0, 0)], some (.invokevirtual 87, 3, 1, 2, 0)),
  (8, [], some (.ifCond .eq 13, 3, 0, 0, 0)),
  (11, [(.iload_n 2, 1, 0, 0, 0)], some (.ifCond .lt 9, 3, 0, 0, 0)),
  (15, [(.iload_n 2, 1, 0, 0, 0), (.bipush 60, 2, 60, 0, 0)], some (.if_icmp .le 5, 3, 0, 0, 0)),
  (21, [(.iconst (-1), 1, 1, 1, 0)], some (.ireturn, 1, 0, 0, 0)),
  (23, [(.aload_n 0, 1, 0, 0, 0), (.iload_n 2, 1, 0, 0, 0)], some (.invokevirtual 156, 3, 68, 2, 2)),
  (28, [(.aload_n 0, 1, 0, 0, 0), (.getfield 33, 3, 2, 5, 0), (.iload_n 1, 1, 0, 0, 0)], some (.invokevirtual 100, 3, 5, 2, 0)),
  (36, [], some (.ireturn, 1, 0, 0, 0))]
def iX3_squareThen : MI := (yX3_squareThen, cX3_squareThen, 3, (some .int), 2, 3, bX3_squareThen)
abbrev jX3_then : Nat := 70
def bX3_then : List Blk := [(0, [(.iload_n 1, 1, 0, 0, 0)], some (.ifCond .lt 18, 3, 0, 0, 0)),
  (4, [(.iload_n 1, 1, 0, 0, 0), (.bipush 60, 2, 60, 0, 0)], some (.if_icmp .gt 12, 3, 0, 0, 0)),
  (10, [(.iload_n 2, 1, 0, 0, 0)], some (.ifCond .lt 8, 3, 0, 0, 0)),
  (14, [(.iload_n 2, 1, 0, 0, 0), (.iconst 3, 1, 3, 0, 0)], some (.if_icmp .le 5, 3, 0, 0, 0)),
  (19, [(.iconst (-1), 1, 1, 1, 0)], some (.ireturn, 1, 0, 0, 0)),
  (21, [(.aload_n 0, 1, 0, 0, 0), (.iload_n 1, 1, 0, 0, 0)], some (.invokevirtual 156, 3, 68, 2, 2)),
  (26, [(.iload_n 2, 1, 0, 0, 0)], some (.tableswitch 50 0 2 #[25, 33, 41], 25, 0, 0, 0)),
  (52, [(.aload_n 0, 1, 0, 0, 0), (.getfield 33, 3, 2, 5, 0)], some (.invokevirtual 160, 3, 35, 1, 0)),
  (59, [], some (.ireturn, 1, 0, 0, 0)),
  (60, [(.aload_n 0, 1, 0, 0, 0), (.getfield 33, 3, 2, 5, 0), (.getfield 163, 3, 0, 7, 0)], some (.ireturn, 1, 0, 0, 0)),
  (68, [(.aload_n 0, 1, 0, 0, 0), (.getfield 33, 3, 2, 5, 0), (.iconst 0, 1, 0, 0, 0)], some (.invokevirtual 166, 3, 37, 2, 0)),
  (76, [], some (.ireturn, 1, 0, 0, 0)),
  (77, [(.aload_n 0, 1, 0, 0, 0), (.getfield 33, 3, 2, 5, 0), (.iconst 1, 1, 1, 0, 0)], some (.invokevirtual 166, 3, 37, 2, 0)),
  (85, [], some (.ireturn, 1, 0, 0, 0))]
def iX3_then : MI := (yX3_then, cX3_then, 3, (some .int), 2, 3, bX3_then)
abbrev jX3_firstToFall : Nat := 71
def bX3_firstToFall : List Blk := [(0, [(.aload_n 0, 1, 0, 0, 0), (.getfield 33, 3, 2, 5, 0), (.aload_n 0, 1, 0, 0, 0), (.getfield 10, 3, 2, 0, 0)], some (.invokevirtual 66, 3, 0, 2, 0)),
  (11, [(.iconst 0, 1, 0, 0, 0), (.istore_n 1, 1, 0, 0, 0)], none),
  (13, [(.iload_n 1, 1, 0, 0, 0), (.bipush 60, 2, 60, 0, 0)], some (.if_icmp .ge 62, 3, 0, 0, 0)),
  (19, [(.aload_n 0, 1, 0, 0, 0), (.getfield 33, 3, 2, 5, 0), (.iconst 0, 1, 0, 0, 0), (.iconst 0, 1, 0, 0, 0)], some (.invokevirtual 175, 3, 31, 3, 0)),
  (28, [(.pop, 1, 0, 0, 0), (.iconst 0, 1, 0, 0, 0), (.istore_n 2, 1, 0, 0, 0)], none),
  (31, [(.iload_n 2, 1, 0, 0, 0), (.aload_n 0, 1, 0, 0, 0), (.getfield 10, 3, 2, 0, 0), (.getfield 126, 3, 0, 5, 0)], some (.if_icmp .ge 33, 3, 0, 0, 0)),
  (42, [(.aload_n 0, 1, 0, 0, 0), (.getfield 10, 3, 2, 0, 0), (.iload_n 2, 1, 0, 0, 0)], some (.invokevirtual 172, 3, 2, 2, 0)),
  (50, [], some (.ifCond .eq 16, 3, 0, 0, 0)),
  (53, [(.aload_n 0, 1, 0, 0, 0), (.getfield 33, 3, 2, 5, 0), (.iload_n 2, 1, 0, 0, 0)], some (.invokevirtual 172, 3, 2, 2, 0)),
  (61, [], some (.ifCond .ne 5, 3, 0, 0, 0)),
  (64, [(.iload_n 2, 1, 0, 0, 0)], some (.ireturn, 1, 0, 0, 0)),
  (66, [(.iinc 2 1, 3, 1, 0, 0)], some (.goto (-38), 3, 0, 0, 0)),
  (72, [(.iinc 1 1, 3, 1, 0, 0)], some (.goto (-62), 3, 0, 0, 0)),
  (78, [(.bipush (-4), 2, 4, 1, 0)], some (.ireturn, 1, 0, 0, 0))]
def iX3_firstToFall : MI := (yX3_firstToFall, cX3_firstToFall, 3, (some .int), 2, 1, bX3_firstToFall)
abbrev jX3_falls : Nat := 72
def bX3_falls : List Blk := [(0, [(.iload_n 1, 1, 0, 0, 0), (.iconst (-1), 1, 1, 1, 0)], some (.if_icmp .ne 8, 3, 0, 0, 0)),
  (5, [(.aload_n 0, 1, 0, 0, 0)], some (.invokevirtual 169, 3, 71, 1, 2)),
  (9, [], some (.ireturn, 1, 0, 0, 0)),
  (10, [(.aload_n 0, 1, 0, 0, 0), (.getfield 10, 3, 2, 0, 0), (.iload_n 1, 1, 0, 0, 0)], some (.invokevirtual 87, 3, 1, 2, 0)),
  (18, [], some (.ifCond .ne 5, 3, 0, 0, 0)),
  (21, [(.iconst (-1), 1, 1, 1, 0)], some (.ireturn, 1, 0, 0, 0)),
  (23, [(.aload_n 0, 1, 0, 0, 0), (.getfield 33, 3, 2, 5, 0), (.aload_n 0, 1, 0, 0, 0), (.getfield 10, 3, 2, 0, 0)], some (.invokevirtual 66, 3, 0, 2, 0)),
  (34, [(.iconst 0, 1, 0, 0, 0), (.istore_n 2, 1, 0, 0, 0)], none),
  (36, [(.iload_n 2, 1, 0, 0, 0), (.bipush 60, 2, 60, 0, 0)], some (.if_icmp .ge 32, 3, 0, 0, 0)),
  (42, [(.aload_n 0, 1, 0, 0, 0), (.getfield 33, 3, 2, 5, 0), (.iload_n 1, 1, 0, 0, 0)], some (.invokevirtual 172, 3, 2, 2, 0)),
  (50, [], some (.ifCond .ne 5, 3, 0, 0, 0)),
  (53, [(.iload_n 2, 1, 0, 0, 0)], some (.ireturn, 1, 0, 0, 0)),
  (55, [(.aload_n 0, 1, 0, 0, 0), (.getfield 33, 3, 2, 5, 0), (.iconst 0, 1, 0, 0, 0), (.iconst 0, 1, 0, 0, 0)], some (.invokevirtual 175, 3, 31, 3, 0)),
  (64, [(.pop, 1, 0, 0, 0), (.iinc 2 1, 3, 1, 0, 0)], some (.goto (-32), 3, 0, 0, 0)),
  (71, [(.aload_n 0, 1, 0, 0, 0), (.getfield 33, 3, 2, 5, 0), (.iload_n 1, 1, 0, 0, 0)], some (.invokevirtual 172, 3, 2, 2, 0)),
  (79, [], some (.ifCond .eq 8, 3, 0, 0, 0)),
  (82, [(.bipush (-4), 2, 4, 1, 0)], some (.goto 5, 3, 0, 0, 0)),
  (87, [(.bipush 60, 2, 60, 0, 0)], none),
  (89, [], some (.ireturn, 1, 0, 0, 0))]
def iX3_falls : MI := (yX3_falls, cX3_falls, 3, (some .int), 2, 2, bX3_falls)
abbrev jX3_still : Nat := 73
def bX3_still : List Blk := [(0, [(.aload_n 0, 1, 0, 0, 0), (.getfield 33, 3, 2, 5, 0), (.aload_n 0, 1, 0, 0, 0), (.getfield 10, 3, 2, 0, 0)], some (.invokevirtual 66, 3, 0, 2, 0)),
  (11, [(.iconst 0, 1, 0, 0, 0), (.istore_n 1, 1, 0, 0, 0), (.iconst 1, 1, 1, 0, 0), (.istore_n 2, 1, 0, 0, 0)], none),
  (15, [(.iload_n 2, 1, 0, 0, 0), (.bipush 60, 2, 60, 0, 0)], some (.if_icmp .gt 42, 3, 0, 0, 0)),
  (21, [(.aload_n 0, 1, 0, 0, 0), (.getfield 33, 3, 2, 5, 0), (.iconst 0, 1, 0, 0, 0), (.iconst 0, 1, 0, 0, 0)], some (.invokevirtual 175, 3, 31, 3, 0)),
  (30, [], some (.ifCond .eq 5, 3, 0, 0, 0)),
  (33, [(.iload_n 2, 1, 0, 0, 0), (.istore_n 1, 1, 0, 0, 0)], none),
  (35, [(.iload_n 1, 1, 0, 0, 0), (.bipush 40, 2, 40, 0, 0)], some (.if_icmp .le 6, 3, 0, 0, 0)),
  (41, [(.bipush (-4), 2, 4, 1, 0)], some (.ireturn, 1, 0, 0, 0)),
  (44, [(.iload_n 2, 1, 0, 0, 0), (.iload_n 1, 1, 0, 0, 0), (.isub, 1, 0, 0, 0), (.bipush 20, 2, 20, 0, 0)], some (.if_icmp .ne 5, 3, 0, 0, 0)),
  (52, [(.iload_n 1, 1, 0, 0, 0)], some (.ireturn, 1, 0, 0, 0)),
  (54, [(.iinc 2 1, 3, 1, 0, 0)], some (.goto (-42), 3, 0, 0, 0)),
  (60, [(.bipush (-4), 2, 4, 1, 0)], some (.ireturn, 1, 0, 0, 0))]
def iX3_still : MI := (yX3_still, cX3_still, 3, (some .int), 2, 1, bX3_still)
abbrev jX3_next : Nat := 74
def bX3_next : List Blk := [(0, [(.iload_n 1, 1, 0, 0, 0)], some (.ifCond .lt 8, 3, 0, 0, 0)),
  (4, [(.iload_n 1, 1, 0, 0, 0), (.iconst 2, 1, 2, 0, 0)], some (.if_icmp .le 5, 3, 0, 0, 0)),
  (9, [(.iconst (-1), 1, 1, 1, 0)], some (.ireturn, 1, 0, 0, 0)),
  (11, [(.aload_n 0, 1, 0, 0, 0), (.getfield 10, 3, 2, 0, 0), (.getfield 111, 3, 0, 8, 0), (.iconst 1, 1, 1, 0, 0), (.iadd, 1, 0, 0, 0), (.istore_n 2, 1, 0, 0, 0), (.aload_n 0, 1, 0, 0, 0), (.getfield 10, 3, 2, 0, 0), (.iload_n 2, 1, 0, 0, 0), (.iconst 0, 1, 0, 0, 0), (.iconst 0, 1, 0, 0, 0)], some (.invokevirtual 179, 3, 30, 4, 0)),
  (31, [(.istore_n 3, 1, 0, 0, 0), (.iload_n 1, 1, 0, 0, 0)], some (.ifCond .ne 5, 3, 0, 0, 0)),
  (36, [(.iload_n 3, 1, 0, 0, 0)], some (.ireturn, 1, 0, 0, 0)),
  (38, [(.iload_n 1, 1, 0, 0, 0), (.iconst 1, 1, 1, 0, 0)], some (.if_icmp .ne 13, 3, 0, 0, 0)),
  (43, [(.aload_n 0, 1, 0, 0, 0), (.getfield 10, 3, 2, 0, 0), (.iload_n 3, 1, 0, 0, 0), (.iload_n 2, 1, 0, 0, 0)], some (.invokevirtual 114, 3, 25, 3, 0)),
  (52, [], some (.ireturn, 1, 0, 0, 0)),
  (53, [(.aload_n 0, 1, 0, 0, 0), (.getfield 10, 3, 2, 0, 0), (.iload_n 3, 1, 0, 0, 0), (.iconst 0, 1, 0, 0, 0)], some (.invokevirtual 183, 3, 27, 3, 0)),
  (62, [], some (.invokestatic 187, 3, 28, 1, 0)),
  (65, [], some (.ireturn, 1, 0, 0, 0))]
def iX3_next : MI := (yX3_next, cX3_next, 4, (some .int), 2, 2, bX3_next)
abbrev jX3_heard : Nat := 75
def bX3_heard : List Blk := [(0, [(.aload_n 0, 1, 0, 0, 0), (.getfield 10, 3, 2, 0, 0), (.iload_n 1, 1, 0, 0, 0)], some (.invokevirtual 87, 3, 1, 2, 0)),
  (8, [], some (.ifCond .ne 5, 3, 0, 0, 0)),
  (11, [(.iconst (-1), 1, 1, 1, 0)], some (.ireturn, 1, 0, 0, 0)),
  (13, [(.aload_n 0, 1, 0, 0, 0), (.getfield 10, 3, 2, 0, 0), (.iload_n 1, 1, 0, 0, 0)], some (.invokevirtual 172, 3, 2, 2, 0)),
  (21, [], some (.ifCond .eq 15, 3, 0, 0, 0)),
  (24, [(.aload_n 0, 1, 0, 0, 0), (.getfield 10, 3, 2, 0, 0), (.iload_n 1, 1, 0, 0, 0), (.iconst 0, 1, 0, 0, 0)], some (.invokevirtual 183, 3, 27, 3, 0)),
  (33, [], some (.goto 5, 3, 0, 0, 0)),
  (36, [(.bipush (-3), 2, 3, 1, 0)], none),
  (38, [], some (.ireturn, 1, 0, 0, 0))]
def iX3_heard : MI := (yX3_heard, cX3_heard, 2, (some .int), 2, 2, bX3_heard)
abbrev jX3_danger : Nat := 76
def bX3_danger : List Blk := [(0, [(.iload_n 1, 1, 0, 0, 0)], some (.invokestatic 123, 3, 10, 1, 0)),
  (4, [], some (.ifCond .ne 5, 3, 0, 0, 0)),
  (7, [(.iconst (-1), 1, 1, 1, 0)], some (.ireturn, 1, 0, 0, 0)),
  (9, [(.iconst 0, 1, 0, 0, 0), (.istore_n 2, 1, 0, 0, 0), (.iconst 0, 1, 0, 0, 0), (.istore_n 3, 1, 0, 0, 0)], none),
  (13, [(.iload_n 3, 1, 0, 0, 0), (.aload_n 0, 1, 0, 0, 0), (.getfield 10, 3, 2, 0, 0), (.getfield 126, 3, 0, 5, 0)], some (.if_icmp .ge 75, 3, 0, 0, 0)),
  (24, [(.aload_n 0, 1, 0, 0, 0), (.getfield 10, 3, 2, 0, 0), (.iload_n 3, 1, 0, 0, 0), (.iconst 1, 1, 1, 0, 0), (.iload_n 1, 1, 0, 0, 0), (.isub, 1, 0, 0, 0)], some (.invokevirtual 192, 3, 3, 3, 0)),
  (35, [], some (.ifCond .eq 23, 3, 0, 0, 0)),
  (38, [(.aload_n 0, 1, 0, 0, 0), (.getfield 10, 3, 2, 0, 0), (.iload_n 3, 1, 0, 0, 0), (.aload_n 0, 1, 0, 0, 0), (.getfield 10, 3, 2, 0, 0), (.getfield 111, 3, 0, 8, 0), (.iconst 1, 1, 1, 0, 0), (.iadd, 1, 0, 0, 0)], some (.invokevirtual 114, 3, 25, 3, 0)),
  (55, [], some (.goto 5, 3, 0, 0, 0)),
  (58, [(.bipush (-4), 2, 4, 1, 0)], none),
  (60, [(.istore 4, 2, 0, 0, 0), (.aload_n 0, 1, 0, 0, 0), (.getfield 10, 3, 2, 0, 0), (.iload 4, 2, 0, 0, 0), (.iload_n 1, 1, 0, 0, 0)], some (.invokevirtual 195, 3, 7, 3, 0)),
  (72, [], some (.ifCond .eq 18, 3, 0, 0, 0)),
  (75, [(.iload_n 2, 1, 0, 0, 0), (.iconst 1, 1, 1, 0, 0), (.aload_n 0, 1, 0, 0, 0), (.getfield 10, 3, 2, 0, 0), (.getfield 120, 3, 0, 4, 0), (.iload 4, 2, 0, 0, 0), (.iaload, 1, 0, 0, 0), (.ishl, 1, 0, 0, 0), (.ior, 1, 0, 0, 0), (.istore_n 2, 1, 0, 0, 0)], none),
  (90, [(.iinc 3 1, 3, 1, 0, 0)], some (.goto (-80), 3, 0, 0, 0)),
  (96, [(.iload_n 2, 1, 0, 0, 0)], some (.ireturn, 1, 0, 0, 0))]
def iX3_danger : MI := (yX3_danger, cX3_danger, 5, (some .int), 2, 2, bX3_danger)
abbrev jX3_placeInMind : Nat := 77
def bX3_placeInMind : List Blk := [(0, [(.aload_n 0, 1, 0, 0, 0), (.getfield 33, 3, 2, 5, 0), (.aload_n 0, 1, 0, 0, 0), (.getfield 10, 3, 2, 0, 0)], some (.invokevirtual 66, 3, 0, 2, 0)),
  (11, [(.aload_n 0, 1, 0, 0, 0), (.getfield 33, 3, 2, 5, 0), (.iload_n 1, 1, 0, 0, 0), (.iload_n 2, 1, 0, 0, 0)], some (.invokevirtual 137, 3, 14, 3, 0)),
  (20, [], some (.ireturn, 1, 1, 0, 0))]
def iX3_placeInMind : MI := (yX3_placeInMind, cX3_placeInMind, 3, (some .boolean), 2, 3, bX3_placeInMind)
abbrev jX3_stand : Nat := 78
def bX3_stand : List Blk := [(0, [(.aload_n 0, 1, 0, 0, 0), (.getfield 10, 3, 2, 0, 0), (.iload_n 1, 1, 0, 0, 0)], some (.invokevirtual 87, 3, 1, 2, 0)),
  (8, [], some (.ifCond .eq 22, 3, 0, 0, 0)),
  (11, [(.iload_n 2, 1, 0, 0, 0)], some (.ifCond .lt 18, 3, 0, 0, 0)),
  (15, [(.iload_n 2, 1, 0, 0, 0), (.bipush 20, 2, 20, 0, 0)], some (.if_icmp .gt 12, 3, 0, 0, 0)),
  (21, [(.iload_n 3, 1, 0, 0, 0)], some (.ifCond .lt 8, 3, 0, 0, 0)),
  (25, [(.iload_n 3, 1, 0, 0, 0), (.iconst 1, 1, 1, 0, 0)], some (.if_icmp .le 5, 3, 0, 0, 0)),
  (30, [(.iconst (-1), 1, 1, 1, 0)], some (.ireturn, 1, 0, 0, 0)),
  (32, [(.aload_n 0, 1, 0, 0, 0), (.getfield 10, 3, 2, 0, 0), (.iload_n 1, 1, 0, 0, 0)], some (.invokevirtual 172, 3, 2, 2, 0)),
  (40, [], some (.ifCond .ne 6, 3, 0, 0, 0)),
  (43, [(.bipush (-3), 2, 3, 1, 0)], some (.ireturn, 1, 0, 0, 0)),
  (46, [(.bipush (-4), 2, 4, 1, 0), (.istore 4, 2, 0, 0, 0), (.iconst 0, 1, 0, 0, 0), (.istore 5, 2, 0, 0, 0), (.iconst 0, 1, 0, 0, 0), (.istore 6, 2, 0, 0, 0)], none),
  (56, [(.iload 6, 2, 0, 0, 0), (.bipush 36, 2, 36, 0, 0)], some (.if_icmp .ge 86, 3, 0, 0, 0)),
  (63, [(.aload_n 0, 1, 0, 0, 0), (.iload_n 1, 1, 0, 0, 0), (.iload 6, 2, 0, 0, 0)], some (.invokevirtual 198, 3, 77, 3, 2)),
  (70, [], some (.ifCond .eq 70, 3, 0, 0, 0)),
  (73, [(.aload_n 0, 1, 0, 0, 0), (.getfield 33, 3, 2, 5, 0), (.iload_n 2, 1, 0, 0, 0)], some (.invokevirtual 201, 3, 33, 2, 0)),
  (81, [(.aload_n 0, 1, 0, 0, 0), (.getfield 33, 3, 2, 5, 0), (.aload_n 0, 1, 0, 0, 0), (.getfield 10, 3, 2, 0, 0), (.getfield 97, 3, 0, 2, 0), (.iload_n 1, 1, 0, 0, 0), (.iaload, 1, 0, 0, 0)], some (.invokevirtual 166, 3, 37, 2, 0)),
  (97, [(.aload_n 0, 1, 0, 0, 0), (.getfield 33, 3, 2, 5, 0), (.iconst 1, 1, 1, 0, 0), (.aload_n 0, 1, 0, 0, 0), (.getfield 10, 3, 2, 0, 0), (.getfield 97, 3, 0, 2, 0), (.iload_n 1, 1, 0, 0, 0), (.iaload, 1, 0, 0, 0), (.isub, 1, 0, 0, 0)], some (.invokevirtual 166, 3, 37, 2, 0)),
  (115, [(.isub, 1, 0, 0, 0), (.istore 7, 2, 0, 0, 0), (.iload 4, 2, 0, 0, 0), (.bipush (-4), 2, 4, 1, 0)], some (.if_icmp .eq 10, 3, 0, 0, 0)),
  (125, [(.iload 7, 2, 0, 0, 0), (.iload 5, 2, 0, 0, 0)], some (.if_icmp .le 11, 3, 0, 0, 0)),
  (132, [(.iload 6, 2, 0, 0, 0), (.istore 4, 2, 0, 0, 0), (.iload 7, 2, 0, 0, 0), (.istore 5, 2, 0, 0, 0)], none),
  (140, [(.iinc 6 1, 3, 1, 0, 0)], some (.goto (-87), 3, 0, 0, 0)),
  (146, [(.iload_n 3, 1, 0, 0, 0)], some (.ifCond .ne 8, 3, 0, 0, 0)),
  (150, [(.iload 4, 2, 0, 0, 0)], some (.goto 8, 3, 0, 0, 0)),
  (155, [(.iload 5, 2, 0, 0, 0), (.bipush 100, 2, 100, 0, 0), (.iadd, 1, 0, 0, 0)], none),
  (160, [], some (.ireturn, 1, 0, 0, 0))]
def iX3_stand : MI := (yX3_stand, cX3_stand, 8, (some .int), 2, 4, bX3_stand)
abbrev jX3_off : Nat := 79
def bX3_off : List Blk := [(0, [(.iload_n 1, 1, 0, 0, 0)], some (.ifCond .lt 9, 3, 0, 0, 0)),
  (4, [(.iload_n 1, 1, 0, 0, 0), (.bipush 30, 2, 30, 0, 0)], some (.if_icmp .le 5, 3, 0, 0, 0)),
  (10, [(.iconst (-1), 1, 1, 1, 0)], some (.ireturn, 1, 0, 0, 0)),
  (12, [(.aload_n 0, 1, 0, 0, 0), (.getfield 36, 3, 2, 6, 0), (.aload_n 0, 1, 0, 0, 0), (.getfield 10, 3, 2, 0, 0)], some (.invokevirtual 66, 3, 0, 2, 0)),
  (23, [(.aload_n 0, 1, 0, 0, 0), (.getfield 36, 3, 2, 6, 0), (.iload_n 1, 1, 0, 0, 0)], some (.invokevirtual 201, 3, 33, 2, 0)),
  (31, [(.bipush (-4), 2, 4, 1, 0), (.istore_n 2, 1, 0, 0, 0), (.iconst 0, 1, 0, 0, 0), (.istore_n 3, 1, 0, 0, 0), (.iconst 0, 1, 0, 0, 0), (.istore 4, 2, 0, 0, 0)], none),
  (39, [(.iload 4, 2, 0, 0, 0), (.aload_n 0, 1, 0, 0, 0), (.getfield 10, 3, 2, 0, 0), (.getfield 126, 3, 0, 5, 0)], some (.if_icmp .ge 77, 3, 0, 0, 0)),
  (51, [(.aload_n 0, 1, 0, 0, 0), (.getfield 33, 3, 2, 5, 0), (.aload_n 0, 1, 0, 0, 0), (.getfield 10, 3, 2, 0, 0)], some (.invokevirtual 66, 3, 0, 2, 0)),
  (62, [(.aload_n 0, 1, 0, 0, 0), (.getfield 33, 3, 2, 5, 0), (.iload 4, 2, 0, 0, 0)], some (.invokevirtual 141, 3, 13, 2, 0)),
  (71, [], some (.ifCond .eq 48, 3, 0, 0, 0)),
  (74, [(.aload_n 0, 1, 0, 0, 0), (.getfield 33, 3, 2, 5, 0), (.iload_n 1, 1, 0, 0, 0)], some (.invokevirtual 201, 3, 33, 2, 0)),
  (82, [(.aload_n 0, 1, 0, 0, 0), (.getfield 33, 3, 2, 5, 0), (.iload 4, 2, 0, 0, 0)], some (.invokevirtual 204, 3, 38, 2, 0)),
  (91, [(.istore 5, 2, 0, 0, 0), (.iload 5, 2, 0, 0, 0), (.aload_n 0, 1, 0, 0, 0), (.getfield 36, 3, 2, 6, 0), (.iload 4, 2, 0, 0, 0)], some (.invokevirtual 204, 3, 38, 2, 0)),
  (104, [], some (.if_icmp .le 15, 3, 0, 0, 0)),
  (107, [(.iload 5, 2, 0, 0, 0), (.iload_n 3, 1, 0, 0, 0)], some (.if_icmp .le 9, 3, 0, 0, 0)),
  (113, [(.iload 4, 2, 0, 0, 0), (.istore_n 2, 1, 0, 0, 0), (.iload 5, 2, 0, 0, 0), (.istore_n 3, 1, 0, 0, 0)], none),
  (119, [(.iinc 4 1, 3, 1, 0, 0)], some (.goto (-83), 3, 0, 0, 0)),
  (125, [(.iload_n 2, 1, 0, 0, 0)], some (.ireturn, 1, 0, 0, 0))]
def iX3_off : MI := (yX3_off, cX3_off, 6, (some .int), 2, 2, bX3_off)
abbrev jX3_ears : Nat := 80
def bX3_ears : List Blk := [(0, [(.aload_n 0, 1, 0, 0, 0), (.getfield 10, 3, 2, 0, 0), (.iload_n 1, 1, 0, 0, 0)], some (.invokevirtual 87, 3, 1, 2, 0)),
  (8, [], some (.ifCond .eq 19, 3, 0, 0, 0)),
  (11, [(.aload_n 0, 1, 0, 0, 0), (.getfield 10, 3, 2, 0, 0), (.iload_n 2, 1, 0, 0, 0)], some (.invokevirtual 87, 3, 1, 2, 0)),
  (19, [], some (.ifCond .eq 8, 3, 0, 0, 0)),
  (22, [(.iload_n 1, 1, 0, 0, 0), (.iload_n 2, 1, 0, 0, 0)], some (.if_icmp .ne 5, 3, 0, 0, 0)),
  (27, [(.iconst (-1), 1, 1, 1, 0)], some (.ireturn, 1, 0, 0, 0)),
  (29, [(.aload_n 0, 1, 0, 0, 0), (.getfield 10, 3, 2, 0, 0), (.iload_n 1, 1, 0, 0, 0)], some (.invokevirtual 172, 3, 2, 2, 0)),
  (37, [], some (.ifCond .eq 35, 3, 0, 0, 0)),
  (40, [(.aload_n 0, 1, 0, 0, 0), (.getfield 10, 3, 2, 0, 0), (.iload_n 2, 1, 0, 0, 0)], some (.invokevirtual 172, 3, 2, 2, 0)),
  (48, [], some (.ifCond .eq 24, 3, 0, 0, 0)),
  (51, [(.aload_n 0, 1, 0, 0, 0), (.getfield 10, 3, 2, 0, 0), (.getfield 97, 3, 0, 2, 0), (.iload_n 1, 1, 0, 0, 0), (.iaload, 1, 0, 0, 0), (.aload_n 0, 1, 0, 0, 0), (.getfield 10, 3, 2, 0, 0), (.getfield 97, 3, 0, 2, 0), (.iload_n 2, 1, 0, 0, 0), (.iaload, 1, 0, 0, 0)], some (.if_icmp .eq 6, 3, 0, 0, 0)),
  (72, [(.bipush (-4), 2, 4, 1, 0)], some (.ireturn, 1, 0, 0, 0)),
  (75, [(.iconst 0, 1, 0, 0, 0), (.istore_n 3, 1, 0, 0, 0)], none),
  (77, [(.iload_n 3, 1, 0, 0, 0), (.bipush 10, 2, 10, 0, 0)], some (.if_icmp .ge 48, 3, 0, 0, 0)),
  (83, [(.aload_n 0, 1, 0, 0, 0), (.getfield 10, 3, 2, 0, 0), (.getfield 207, 3, 0, 3, 0), (.iload_n 1, 1, 0, 0, 0), (.iaload, 1, 0, 0, 0), (.aload_n 0, 1, 0, 0, 0), (.getfield 10, 3, 2, 0, 0), (.getfield 207, 3, 0, 3, 0), (.iload_n 2, 1, 0, 0, 0), (.iaload, 1, 0, 0, 0)], some (.invokestatic 210, 3, 22, 2, 0)),
  (104, [(.aload_n 0, 1, 0, 0, 0), (.getfield 10, 3, 2, 0, 0), (.getfield 91, 3, 0, 0, 0), (.iload_n 1, 1, 0, 0, 0), (.iaload, 1, 0, 0, 0), (.iload_n 3, 1, 0, 0, 0)], some (.invokestatic 103, 3, 26, 2, 0)),
  (117, [], some (.if_icmp .gt 5, 3, 0, 0, 0)),
  (120, [(.iload_n 3, 1, 0, 0, 0)], some (.ireturn, 1, 0, 0, 0)),
  (122, [(.iinc 3 1, 3, 1, 0, 0)], some (.goto (-48), 3, 0, 0, 0)),
  (128, [(.bipush (-4), 2, 4, 1, 0)], some (.ireturn, 1, 0, 0, 0))]
def iX3_ears : MI := (yX3_ears, cX3_ears, 4, (some .int), 2, 3, bX3_ears)
abbrev jX3_side : Nat := 81
def bX3_side : List Blk := [(0, [(.iload_n 1, 1, 0, 0, 0)], some (.invokestatic 123, 3, 10, 1, 0)),
  (4, [], some (.ifCond .ne 5, 3, 0, 0, 0)),
  (7, [(.iconst (-1), 1, 1, 1, 0)], some (.ireturn, 1, 0, 0, 0)),
  (9, [(.iload_n 2, 1, 0, 0, 0)], some (.tableswitch 66 0 3 #[30, 39, 48, 57], 30, 0, 0, 0)),
  (40, [(.aload_n 0, 1, 0, 0, 0), (.getfield 10, 3, 2, 0, 0), (.iload_n 1, 1, 0, 0, 0)], some (.invokevirtual 213, 3, 41, 2, 0)),
  (48, [], some (.ireturn, 1, 0, 0, 0)),
  (49, [(.aload_n 0, 1, 0, 0, 0), (.getfield 10, 3, 2, 0, 0), (.iload_n 1, 1, 0, 0, 0)], some (.invokevirtual 166, 3, 37, 2, 0)),
  (57, [], some (.ireturn, 1, 0, 0, 0)),
  (58, [(.aload_n 0, 1, 0, 0, 0), (.getfield 10, 3, 2, 0, 0), (.iload_n 1, 1, 0, 0, 0)], some (.invokevirtual 216, 3, 42, 2, 0)),
  (66, [], some (.ireturn, 1, 0, 0, 0)),
  (67, [(.aload_n 0, 1, 0, 0, 0), (.getfield 10, 3, 2, 0, 0), (.iload_n 1, 1, 0, 0, 0)], some (.invokevirtual 219, 3, 29, 2, 0)),
  (75, [], some (.ireturn, 1, 0, 0, 0)),
  (76, [(.iconst (-1), 1, 1, 1, 0)], some (.ireturn, 1, 0, 0, 0))]
def iX3_side : MI := (yX3_side, cX3_side, 3, (some .int), 2, 3, bX3_side)
abbrev jX3_free : Nat := 82
def bX3_free : List Blk := [(0, [(.iload_n 1, 1, 0, 0, 0)], some (.tableswitch 63 0 2 #[27, 38, 46], 27, 0, 0, 0)),
  (28, [(.bipush 36, 2, 36, 0, 0), (.aload_n 0, 1, 0, 0, 0), (.getfield 10, 3, 2, 0, 0)], some (.invokevirtual 153, 3, 34, 1, 0)),
  (37, [(.isub, 1, 0, 0, 0)], some (.ireturn, 1, 0, 0, 0)),
  (39, [(.aload_n 0, 1, 0, 0, 0), (.getfield 10, 3, 2, 0, 0)], some (.invokevirtual 222, 3, 43, 1, 0)),
  (46, [], some (.ireturn, 1, 0, 0, 0)),
  (47, [(.aload_n 0, 1, 0, 0, 0), (.getfield 10, 3, 2, 0, 0), (.aload_n 0, 1, 0, 0, 0), (.getfield 10, 3, 2, 0, 0), (.getfield 111, 3, 0, 8, 0), (.iconst 1, 1, 1, 0, 0), (.iadd, 1, 0, 0, 0)], some (.invokevirtual 225, 3, 44, 2, 0)),
  (63, [], some (.ireturn, 1, 0, 0, 0)),
  (64, [(.iconst (-1), 1, 1, 1, 0)], some (.ireturn, 1, 0, 0, 0))]
def iX3_free : MI := (yX3_free, cX3_free, 2, (some .int), 2, 2, bX3_free)
abbrev jX3_wentAsTold : Nat := 83
def bX3_wentAsTold : List Blk := [(0, [(.iconst 0, 1, 0, 0, 0), (.istore 4, 2, 0, 0, 0)], none),
  (3, [(.iload 4, 2, 0, 0, 0), (.aload_n 2, 1, 0, 0, 0), (.getfield 70, 3, 1, 4, 0)], some (.if_icmp .ge 56, 3, 0, 0, 0)),
  (12, [(.iload 4, 2, 0, 0, 0)], some (.ifCond .gt 7, 3, 0, 0, 0)),
  (17, [(.iload_n 3, 1, 0, 0, 0)], some (.ifCond .le 13, 3, 0, 0, 0)),
  (21, [(.aload_n 0, 1, 0, 0, 0), (.getfield 33, 3, 2, 5, 0), (.iconst 0, 1, 0, 0, 0), (.iconst 0, 1, 0, 0, 0)], some (.invokevirtual 175, 3, 31, 3, 0)),
  (30, [(.pop, 1, 0, 0, 0)], none),
  (31, [(.aload_n 2, 1, 0, 0, 0), (.iload 4, 2, 0, 0, 0)], some (.invokevirtual 255, 3, 52, 2, 1)),
  (37, [], some (.ifCond .ne 22, 3, 0, 0, 0)),
  (40, [(.aload_n 2, 1, 0, 0, 0), (.iload 4, 2, 0, 0, 0)], some (.invokevirtual 252, 3, 50, 2, 1)),
  (46, [(.aload_n 0, 1, 0, 0, 0), (.getfield 33, 3, 2, 5, 0), (.iload_n 1, 1, 0, 0, 0)], some (.invokevirtual 322, 3, 4, 2, 0)),
  (54, [], some (.if_icmp .eq 5, 3, 0, 0, 0)),
  (57, [(.iconst 0, 1, 0, 0, 0)], some (.ireturn, 1, 1, 0, 0)),
  (59, [(.iinc 4 1, 3, 1, 0, 0)], some (.goto (-59), 3, 0, 0, 0)),
  (65, [(.iconst 1, 1, 1, 0, 0)], some (.ireturn, 1, 1, 0, 0))]
def iX3_wentAsTold : MI := (yX3_wentAsTold, cX3_wentAsTold, 5, (some .boolean), 2, 4, bX3_wentAsTold)
abbrev jX3_whatIs : Nat := 84
def bX3_whatIs : List Blk := [(0, [(.aload_n 0, 1, 0, 0, 0), (.iload_n 1, 1, 0, 0, 0)], some (.invokevirtual 51, 3, 57, 2, 2)),
  (5, [(.astore 4, 2, 0, 0, 0), (.aload 4, 2, 0, 0, 0)], some (.ifnull 23, 3, 0, 0, 0)),
  (12, [(.aload_n 0, 1, 0, 0, 0), (.getfield 10, 3, 2, 0, 0), (.iload_n 2, 1, 0, 0, 0)], some (.invokevirtual 87, 3, 1, 2, 0)),
  (20, [], some (.ifCond .eq 12, 3, 0, 0, 0)),
  (23, [(.iload_n 3, 1, 0, 0, 0)], some (.ifCond .lt 8, 3, 0, 0, 0)),
  (27, [(.iload_n 3, 1, 0, 0, 0), (.iconst 1, 1, 1, 0, 0)], some (.if_icmp .le 5, 3, 0, 0, 0)),
  (32, [(.iconst (-1), 1, 1, 1, 0)], some (.ireturn, 1, 0, 0, 0)),
  (34, [(.aload 4, 2, 0, 0, 0), (.iconst 2, 1, 2, 0, 0)], some (.invokestatic 55, 3, 58, 2, 0)),
  (40, [(.istore 5, 2, 0, 0, 0), (.iload 5, 2, 0, 0, 0)], some (.ifCond .eq 6, 3, 0, 0, 0)),
  (47, [(.iload 5, 2, 0, 0, 0)], some (.ireturn, 1, 0, 0, 0)),
  (50, [(.iconst 0, 1, 0, 0, 0), (.istore 6, 2, 0, 0, 0), (.iconst 0, 1, 0, 0, 0), (.istore 7, 2, 0, 0, 0)], none),
  (56, [(.iload 7, 2, 0, 0, 0), (.iload_n 3, 1, 0, 0, 0)], some (.ifCond .ne 8, 3, 0, 0, 0)),
  (62, [(.bipush 8, 2, 8, 0, 0)], some (.goto 5, 3, 0, 0, 0)),
  (67, [(.bipush 10, 2, 10, 0, 0)], none),
  (69, [], some (.if_icmp .ge 87, 3, 0, 0, 0)),
  (72, [(.aload_n 0, 1, 0, 0, 0), (.getfield 33, 3, 2, 5, 0), (.aload_n 0, 1, 0, 0, 0), (.getfield 10, 3, 2, 0, 0)], some (.invokevirtual 66, 3, 0, 2, 0)),
  (83, [(.iload_n 3, 1, 0, 0, 0)], some (.ifCond .ne 26, 3, 0, 0, 0)),
  (87, [(.aload_n 0, 1, 0, 0, 0), (.getfield 33, 3, 2, 5, 0), (.iload_n 2, 1, 0, 0, 0), (.iload 7, 2, 0, 0, 0), (.aload_n 0, 1, 0, 0, 0), (.getfield 10, 3, 2, 0, 0), (.getfield 94, 3, 0, 1, 0), (.iload_n 2, 1, 0, 0, 0), (.iaload, 1, 0, 0, 0)], some (.invokevirtual 228, 3, 16, 4, 0)),
  (106, [(.pop, 1, 0, 0, 0)], some (.goto 23, 3, 0, 0, 0)),
  (110, [(.aload_n 0, 1, 0, 0, 0), (.getfield 33, 3, 2, 5, 0), (.iload_n 2, 1, 0, 0, 0), (.aload_n 0, 1, 0, 0, 0), (.getfield 10, 3, 2, 0, 0), (.getfield 91, 3, 0, 0, 0), (.iload_n 2, 1, 0, 0, 0), (.iaload, 1, 0, 0, 0), (.iload 7, 2, 0, 0, 0)], some (.invokevirtual 228, 3, 16, 4, 0)),
  (129, [(.pop, 1, 0, 0, 0)], none),
  (130, [(.aload_n 0, 1, 0, 0, 0), (.iload_n 2, 1, 0, 0, 0), (.aload 4, 2, 0, 0, 0), (.iconst 0, 1, 0, 0, 0)], some (.invokevirtual 232, 3, 83, 4, 2)),
  (138, [], some (.ifCond .eq 12, 3, 0, 0, 0)),
  (141, [(.iload 6, 2, 0, 0, 0), (.iconst 1, 1, 1, 0, 0), (.iload 7, 2, 0, 0, 0), (.ishl, 1, 0, 0, 0), (.ior, 1, 0, 0, 0), (.istore 6, 2, 0, 0, 0)], none),
  (150, [(.iinc 7 1, 3, 1, 0, 0)], some (.goto (-97), 3, 0, 0, 0)),
  (156, [(.iload 6, 2, 0, 0, 0)], some (.ireturn, 1, 0, 0, 0))]
def iX3_whatIs : MI := (yX3_whatIs, cX3_whatIs, 8, (some .int), 2, 4, bX3_whatIs)
abbrev jX3_whereFrom : Nat := 85
def bX3_whereFrom : List Blk := [(0, [(.aload_n 0, 1, 0, 0, 0), (.iload_n 1, 1, 0, 0, 0)], some (.invokevirtual 51, 3, 57, 2, 2)),
  (5, [(.astore 4, 2, 0, 0, 0), (.aload 4, 2, 0, 0, 0)], some (.ifnull 23, 3, 0, 0, 0)),
  (12, [(.aload_n 0, 1, 0, 0, 0), (.getfield 10, 3, 2, 0, 0), (.iload_n 2, 1, 0, 0, 0)], some (.invokevirtual 87, 3, 1, 2, 0)),
  (20, [], some (.ifCond .eq 12, 3, 0, 0, 0)),
  (23, [(.iload_n 3, 1, 0, 0, 0)], some (.ifCond .lt 8, 3, 0, 0, 0)),
  (27, [(.iload_n 3, 1, 0, 0, 0), (.iconst 2, 1, 2, 0, 0)], some (.if_icmp .le 5, 3, 0, 0, 0)),
  (32, [(.iconst (-1), 1, 1, 1, 0)], some (.ireturn, 1, 0, 0, 0)),
  (34, [(.aload_n 0, 1, 0, 0, 0), (.getfield 10, 3, 2, 0, 0), (.iload_n 2, 1, 0, 0, 0)], some (.invokevirtual 172, 3, 2, 2, 0)),
  (42, [], some (.ifCond .ne 6, 3, 0, 0, 0)),
  (45, [(.bipush (-3), 2, 3, 1, 0)], some (.ireturn, 1, 0, 0, 0)),
  (48, [(.aload 4, 2, 0, 0, 0), (.iconst 2, 1, 2, 0, 0)], some (.invokestatic 55, 3, 58, 2, 0)),
  (54, [(.istore 5, 2, 0, 0, 0), (.iload 5, 2, 0, 0, 0)], some (.ifCond .eq 6, 3, 0, 0, 0)),
  (61, [(.iload 5, 2, 0, 0, 0)], some (.ireturn, 1, 0, 0, 0)),
  (64, [(.iconst 0, 1, 0, 0, 0), (.istore 6, 2, 0, 0, 0), (.bipush (-4), 2, 4, 1, 0), (.istore 7, 2, 0, 0, 0), (.bipush (-4), 2, 4, 1, 0), (.istore 8, 2, 0, 0, 0), (.iconst 0, 1, 0, 0, 0), (.istore 9, 2, 0, 0, 0)], none),
  (78, [(.iload 9, 2, 0, 0, 0), (.bipush 36, 2, 36, 0, 0)], some (.if_icmp .ge 53, 3, 0, 0, 0)),
  (85, [(.aload_n 0, 1, 0, 0, 0), (.iload_n 2, 1, 0, 0, 0), (.iload 9, 2, 0, 0, 0)], some (.invokevirtual 198, 3, 77, 3, 2)),
  (92, [], some (.ifCond .eq 37, 3, 0, 0, 0)),
  (95, [(.aload_n 0, 1, 0, 0, 0), (.iload_n 2, 1, 0, 0, 0), (.aload 4, 2, 0, 0, 0), (.iconst 1, 1, 1, 0, 0)], some (.invokevirtual 232, 3, 83, 4, 2)),
  (103, [], some (.ifCond .eq 26, 3, 0, 0, 0)),
  (106, [(.iinc 6 1, 3, 1, 0, 0), (.iload 7, 2, 0, 0, 0), (.bipush (-4), 2, 4, 1, 0)], some (.if_icmp .ne 8, 3, 0, 0, 0)),
  (116, [(.iload 9, 2, 0, 0, 0)], some (.goto 5, 3, 0, 0, 0)),
  (121, [(.iload 7, 2, 0, 0, 0)], none),
  (123, [(.istore 7, 2, 0, 0, 0), (.iload 9, 2, 0, 0, 0), (.istore 8, 2, 0, 0, 0)], none),
  (129, [(.iinc 9 1, 3, 1, 0, 0)], some (.goto (-54), 3, 0, 0, 0)),
  (135, [(.iload_n 3, 1, 0, 0, 0)], some (.ifCond .ne 6, 3, 0, 0, 0)),
  (139, [(.iload 6, 2, 0, 0, 0)], some (.ireturn, 1, 0, 0, 0)),
  (142, [(.iload_n 3, 1, 0, 0, 0), (.iconst 1, 1, 1, 0, 0)], some (.if_icmp .ne 8, 3, 0, 0, 0)),
  (147, [(.iload 7, 2, 0, 0, 0)], some (.goto 5, 3, 0, 0, 0)),
  (152, [(.iload 8, 2, 0, 0, 0)], none),
  (154, [], some (.ireturn, 1, 0, 0, 0))]
def iX3_whereFrom : MI := (yX3_whereFrom, cX3_whereFrom, 10, (some .int), 2, 4, bX3_whereFrom)
abbrev jX3_firstPairAtRest : Nat := 86
def bX3_firstPairAtRest : List Blk := [(0, [(.iconst 0, 1, 0, 0, 0), (.istore_n 1, 1, 0, 0, 0)], none),
  (2, [(.iload_n 1, 1, 0, 0, 0), (.iconst 4, 1, 4, 0, 0)], some (.if_icmp .ge 74, 3, 0, 0, 0)),
  (7, [(.aload_n 0, 1, 0, 0, 0), (.getfield 39, 3, 2, 7, 0), (.iload_n 1, 1, 0, 0, 0), (.iaload, 1, 0, 0, 0), (.aload_n 0, 1, 0, 0, 0), (.getfield 39, 3, 2, 7, 0), (.iload_n 1, 1, 0, 0, 0), (.iconst 2, 1, 2, 0, 0), (.ixor, 1, 0, 0, 0), (.iaload, 1, 0, 0, 0)], some (.if_icmp .lt 7, 3, 0, 0, 0)),
  (24, [(.iconst 1, 1, 1, 0, 0)], some (.goto 4, 3, 0, 0, 0)),
  (28, [(.iconst 0, 1, 0, 0, 0)], none),
  (29, [(.istore_n 2, 1, 0, 0, 0), (.aload_n 0, 1, 0, 0, 0), (.getfield 43, 3, 2, 8, 0), (.iload_n 1, 1, 0, 0, 0), (.iaload, 1, 0, 0, 0), (.aload_n 0, 1, 0, 0, 0), (.getfield 43, 3, 2, 8, 0), (.iload_n 1, 1, 0, 0, 0), (.iconst 1, 1, 1, 0, 0), (.ixor, 1, 0, 0, 0), (.iaload, 1, 0, 0, 0)], some (.if_icmp .lt 7, 3, 0, 0, 0)),
  (47, [(.iconst 1, 1, 1, 0, 0)], some (.goto 4, 3, 0, 0, 0)),
  (51, [(.iconst 0, 1, 0, 0, 0)], none),
  (52, [(.istore_n 3, 1, 0, 0, 0), (.iload_n 2, 1, 0, 0, 0)], some (.ifCond .eq 18, 3, 0, 0, 0)),
  (57, [(.iload_n 3, 1, 0, 0, 0)], some (.ifCond .eq 14, 3, 0, 0, 0)),
  (61, [(.bipush 10, 2, 10, 0, 0), (.iload_n 1, 1, 0, 0, 0), (.iconst 1, 1, 1, 0, 0), (.ishr, 1, 0, 0, 0), (.imul, 1, 0, 0, 0), (.iload_n 1, 1, 0, 0, 0), (.iconst 1, 1, 1, 0, 0), (.iand, 1, 0, 0, 0), (.iadd, 1, 0, 0, 0)], some (.ireturn, 1, 0, 0, 0)),
  (72, [(.iinc 1 1, 3, 1, 0, 0)], some (.goto (-73), 3, 0, 0, 0)),
  (78, [(.bipush (-4), 2, 4, 1, 0)], some (.ireturn, 1, 0, 0, 0))]
def iX3_firstPairAtRest : MI := (yX3_firstPairAtRest, cX3_firstPairAtRest, 4, (some .int), 2, 1, bX3_firstPairAtRest)
abbrev jX3_two : Nat := 87
def bX3_two : List Blk := [(0, [(.aload_n 0, 1, 0, 0, 0), (.getfield 10, 3, 2, 0, 0), (.iload_n 1, 1, 0, 0, 0)], some (.invokevirtual 87, 3, 1, 2, 0)),
  (8, [], some (.ifCond .eq 30, 3, 0, 0, 0)),
  (11, [(.aload_n 0, 1, 0, 0, 0), (.getfield 10, 3, 2, 0, 0), (.iload_n 2, 1, 0, 0, 0)], some (.invokevirtual 87, 3, 1, 2, 0)),
  (19, [], some (.ifCond .eq 19, 3, 0, 0, 0)),
  (22, [(.iload_n 1, 1, 0, 0, 0), (.iload_n 2, 1, 0, 0, 0)], some (.if_icmp .eq 14, 3, 0, 0, 0)),
  (27, [(.iload_n 3, 1, 0, 0, 0), (.iconst 1, 1, 1, 0, 0)], some (.if_icmp .lt 9, 3, 0, 0, 0)),
  (32, [(.iload_n 3, 1, 0, 0, 0), (.bipush 30, 2, 30, 0, 0)], some (.if_icmp .le 5, 3, 0, 0, 0)),
  (38, [(.iconst (-1), 1, 1, 1, 0)], some (.ireturn, 1, 0, 0, 0)),
  (40, [(.aload_n 0, 1, 0, 0, 0), (.getfield 10, 3, 2, 0, 0), (.iload_n 1, 1, 0, 0, 0)], some (.invokevirtual 172, 3, 2, 2, 0)),
  (48, [], some (.ifCond .eq 14, 3, 0, 0, 0)),
  (51, [(.aload_n 0, 1, 0, 0, 0), (.getfield 10, 3, 2, 0, 0), (.iload_n 2, 1, 0, 0, 0)], some (.invokevirtual 172, 3, 2, 2, 0)),
  (59, [], some (.ifCond .ne 6, 3, 0, 0, 0)),
  (62, [(.bipush (-3), 2, 3, 1, 0)], some (.ireturn, 1, 0, 0, 0)),
  (65, [(.iconst 0, 1, 0, 0, 0), (.istore 4, 2, 0, 0, 0)], none),
  (68, [(.iload 4, 2, 0, 0, 0), (.iconst 4, 1, 4, 0, 0)], some (.if_icmp .ge 107, 3, 0, 0, 0)),
  (74, [(.iload 4, 2, 0, 0, 0), (.iconst 2, 1, 2, 0, 0), (.iand, 1, 0, 0, 0)], some (.ifCond .ne 9, 3, 0, 0, 0)),
  (81, [(.iconst 1, 1, 1, 0, 0), (.iload_n 1, 1, 0, 0, 0), (.ishl, 1, 0, 0, 0)], some (.goto 4, 3, 0, 0, 0)),
  (87, [(.iconst 0, 1, 0, 0, 0)], none),
  (88, [(.iload 4, 2, 0, 0, 0), (.iconst 1, 1, 1, 0, 0), (.iand, 1, 0, 0, 0)], some (.ifCond .ne 9, 3, 0, 0, 0)),
  (95, [(.iconst 1, 1, 1, 0, 0), (.iload_n 2, 1, 0, 0, 0), (.ishl, 1, 0, 0, 0)], some (.goto 4, 3, 0, 0, 0)),
  (101, [(.iconst 0, 1, 0, 0, 0)], none),
  (102, [(.ior, 1, 0, 0, 0), (.istore 5, 2, 0, 0, 0), (.aload_n 0, 1, 0, 0, 0), (.getfield 33, 3, 2, 5, 0), (.aload_n 0, 1, 0, 0, 0), (.getfield 10, 3, 2, 0, 0)], some (.invokevirtual 66, 3, 0, 2, 0)),
  (116, [(.iconst 0, 1, 0, 0, 0), (.istore 6, 2, 0, 0, 0)], none),
  (119, [(.iload 6, 2, 0, 0, 0), (.iload_n 3, 1, 0, 0, 0)], some (.if_icmp .ge 20, 3, 0, 0, 0)),
  (125, [(.aload_n 0, 1, 0, 0, 0), (.getfield 33, 3, 2, 5, 0), (.iload 5, 2, 0, 0, 0), (.iconst 0, 1, 0, 0, 0)], some (.invokevirtual 175, 3, 31, 3, 0)),
  (135, [(.pop, 1, 0, 0, 0), (.iinc 6 1, 3, 1, 0, 0)], some (.goto (-20), 3, 0, 0, 0)),
  (142, [(.aload_n 0, 1, 0, 0, 0), (.getfield 39, 3, 2, 7, 0), (.iload 4, 2, 0, 0, 0), (.aload_n 0, 1, 0, 0, 0), (.getfield 33, 3, 2, 5, 0), (.iload_n 1, 1, 0, 0, 0)], some (.invokevirtual 236, 3, 39, 2, 0)),
  (156, [(.iastore, 1, 0, 0, 0), (.aload_n 0, 1, 0, 0, 0), (.getfield 43, 3, 2, 8, 0), (.iload 4, 2, 0, 0, 0), (.aload_n 0, 1, 0, 0, 0), (.getfield 33, 3, 2, 5, 0), (.iload_n 2, 1, 0, 0, 0)], some (.invokevirtual 236, 3, 39, 2, 0)),
  (171, [(.iastore, 1, 0, 0, 0), (.iinc 4 1, 3, 1, 0, 0)], some (.goto (-107), 3, 0, 0, 0)),
  (178, [(.aload_n 0, 1, 0, 0, 0)], some (.invokevirtual 239, 3, 86, 1, 2)),
  (182, [], some (.ireturn, 1, 0, 0, 0))]
def iX3_two : MI := (yX3_two, cX3_two, 7, (some .int), 2, 4, bX3_two)
abbrev jX3_waysToBeThere : Nat := 88
def bX3_waysToBeThere : List Blk := [(0, [(.iload_n 1, 1, 0, 0, 0)], some (.ifCond .lt 9, 3, 0, 0, 0)),
  (4, [(.iload_n 1, 1, 0, 0, 0), (.aload_n 0, 1, 0, 0, 0), (.arraylength, 1, 0, 0, 0)], some (.if_icmp .lt 5, 3, 0, 0, 0)),
  (10, [(.lconst 0, 1, 0, 0, 0)], some (.lreturn, 1, 0, 0, 0)),
  (12, [(.aload_n 0, 1, 0, 0, 0), (.iload_n 1, 1, 0, 0, 0), (.aaload, 1, 0, 0, 0), (.astore 5, 2, 0, 0, 0), (.aload 5, 2, 0, 0, 0)], some (.ifnull 12, 3, 0, 0, 0)),
  (22, [(.aload 5, 2, 0, 0, 0), (.iload_n 3, 1, 0, 0, 0)], some (.invokevirtual 172, 3, 2, 2, 0)),
  (28, [], some (.ifCond .ne 5, 3, 0, 0, 0)),
  (31, [(.lconst 0, 1, 0, 0, 0)], some (.lreturn, 1, 0, 0, 0)),
  (33, [(.iload_n 1, 1, 0, 0, 0), (.iconst 1, 1, 1, 0, 0), (.iadd, 1, 0, 0, 0), (.istore 6, 2, 0, 0, 0), (.iload_n 1, 1, 0, 0, 0), (.iload_n 2, 1, 0, 0, 0)], some (.if_icmp .ge 10, 3, 0, 0, 0)),
  (43, [(.iload 6, 2, 0, 0, 0), (.aload_n 0, 1, 0, 0, 0), (.arraylength, 1, 0, 0, 0)], some (.if_icmp .lt 5, 3, 0, 0, 0)),
  (50, [(.lconst 1, 1, 1, 0, 0)], some (.lreturn, 1, 0, 0, 0)),
  (52, [(.aload_n 0, 1, 0, 0, 0), (.iload 6, 2, 0, 0, 0), (.aaload, 1, 0, 0, 0), (.astore 7, 2, 0, 0, 0), (.aload 7, 2, 0, 0, 0)], some (.ifnonnull 5, 3, 0, 0, 0)),
  (63, [(.lconst 0, 1, 0, 0, 0)], some (.lreturn, 1, 0, 0, 0)),
  (65, [(.aload 7, 2, 0, 0, 0), (.aload 5, 2, 0, 0, 0)], some (.invokevirtual 66, 3, 0, 2, 0)),
  (72, [(.aload 7, 2, 0, 0, 0), (.iconst 0, 1, 0, 0, 0), (.iconst 1, 1, 1, 0, 0)], some (.invokevirtual 175, 3, 31, 3, 0)),
  (79, [(.pop, 1, 0, 0, 0), (.aload_n 0, 1, 0, 0, 0), (.iload 6, 2, 0, 0, 0), (.iload_n 2, 1, 0, 0, 0), (.iload_n 3, 1, 0, 0, 0), (.iload 4, 2, 0, 0, 0)], some (.invokestatic 244, 3, 88, 5, 0)),
  (90, [(.lstore 8, 2, 0, 0, 0), (.aload 7, 2, 0, 0, 0), (.aload 5, 2, 0, 0, 0)], some (.invokevirtual 66, 3, 0, 2, 0)),
  (99, [(.aload 7, 2, 0, 0, 0), (.iconst 0, 1, 0, 0, 0), (.iconst 0, 1, 0, 0, 0)], some (.invokevirtual 175, 3, 31, 3, 0)),
  (106, [(.pop, 1, 0, 0, 0), (.lload 8, 2, 0, 0, 0), (.iload 4, 2, 0, 0, 0), (.iconst 1, 1, 1, 0, 0), (.isub, 1, 0, 0, 0), (.i2l, 1, 0, 0, 0), (.aload_n 0, 1, 0, 0, 0), (.iload 6, 2, 0, 0, 0), (.iload_n 2, 1, 0, 0, 0), (.iload_n 3, 1, 0, 0, 0), (.iload 4, 2, 0, 0, 0)], some (.invokestatic 244, 3, 88, 5, 0)),
  (124, [(.lmul, 1, 0, 0, 0), (.ladd, 1, 0, 0, 0)], some (.lreturn, 1, 0, 0, 0))]
def iX3_waysToBeThere : MI := (yX3_waysToBeThere, cX3_waysToBeThere, 10, (some .long), 2, 5, bX3_waysToBeThere)
abbrev jX3_partInLeastTerms : Nat := 89
def bX3_partInLeastTerms : List Blk := [(0, [(.lload_n 0, 1, 0, 0, 0), (.lconst 0, 1, 0, 0, 0), (.lcmp, 1, 0, 0, 0)], some (.ifCond .ne 14, 3, 0, 0, 0)),
  (6, [(.iload 4, 2, 0, 0, 0)], some (.ifCond .ne 7, 3, 0, 0, 0)),
  (11, [(.lconst 0, 1, 0, 0, 0)], some (.goto 4, 3, 0, 0, 0)),
  (15, [(.lconst 1, 1, 1, 0, 0)], none),
  (16, [], some (.lreturn, 1, 0, 0, 0)),
  (17, [(.lload_n 0, 1, 0, 0, 0), (.lstore 5, 2, 0, 0, 0), (.lload_n 2, 1, 0, 0, 0), (.lstore 7, 2, 0, 0, 0), (.iconst 0, 1, 0, 0, 0), (.istore 9, 2, 0, 0, 0)], none),
  (26, [(.iload 9, 2, 0, 0, 0), (.sipush 1000, 3, 1000, 0, 0)], some (.if_icmp .ge 31, 3, 0, 0, 0)),
  (34, [(.lload 7, 2, 0, 0, 0), (.lconst 0, 1, 0, 0, 0), (.lcmp, 1, 0, 0, 0)], some (.ifCond .eq 24, 3, 0, 0, 0)),
  (41, [(.lload 5, 2, 0, 0, 0), (.lload 7, 2, 0, 0, 0), (.lrem, 1, 0, 0, 0), (.lstore 10, 2, 0, 0, 0), (.lload 7, 2, 0, 0, 0), (.lstore 5, 2, 0, 0, 0), (.lload 10, 2, 0, 0, 0), (.lstore 7, 2, 0, 0, 0), (.iinc 9 1, 3, 1, 0, 0)], some (.goto (-33), 3, 0, 0, 0)),
  (62, [(.iload 4, 2, 0, 0, 0)], some (.ifCond .ne 7, 3, 0, 0, 0)),
  (67, [(.lload_n 0, 1, 0, 0, 0)], some (.goto 4, 3, 0, 0, 0)),
  (71, [(.lload_n 2, 1, 0, 0, 0)], none),
  (72, [(.lstore 9, 2, 0, 0, 0), (.lload 5, 2, 0, 0, 0), (.lconst 0, 1, 0, 0, 0), (.lcmp, 1, 0, 0, 0)], some (.ifCond .ne 8, 3, 0, 0, 0)),
  (81, [(.lload 9, 2, 0, 0, 0)], some (.goto 8, 3, 0, 0, 0)),
  (86, [(.lload 9, 2, 0, 0, 0), (.lload 5, 2, 0, 0, 0), (.ldiv, 1, 0, 0, 0)], none),
  (91, [], some (.lreturn, 1, 0, 0, 0))]
def iX3_partInLeastTerms : MI := (yX3_partInLeastTerms, cX3_partInLeastTerms, 12, (some .long), 2, 3, bX3_partInLeastTerms)
abbrev jX3_rain : Nat := 90
def bX3_rain : List Blk := [(0, [(.aload_n 0, 1, 0, 0, 0), (.getfield 10, 3, 2, 0, 0), (.iload_n 1, 1, 0, 0, 0)], some (.invokevirtual 87, 3, 1, 2, 0)),
  (8, [], some (.ifCond .eq 35, 3, 0, 0, 0)),
  (11, [(.iload_n 2, 1, 0, 0, 0)], some (.ifCond .lt 31, 3, 0, 0, 0)),
  (15, [(.iload_n 2, 1, 0, 0, 0), (.bipush 7, 2, 7, 0, 0)], some (.if_icmp .gt 25, 3, 0, 0, 0)),
  (21, [(.iload_n 3, 1, 0, 0, 0), (.iconst 2, 1, 2, 0, 0)], some (.if_icmp .lt 20, 3, 0, 0, 0)),
  (26, [(.iload_n 3, 1, 0, 0, 0), (.bipush 20, 2, 20, 0, 0)], some (.if_icmp .gt 14, 3, 0, 0, 0)),
  (32, [(.iload 4, 2, 0, 0, 0)], some (.ifCond .lt 9, 3, 0, 0, 0)),
  (37, [(.iload 4, 2, 0, 0, 0), (.iconst 1, 1, 1, 0, 0)], some (.if_icmp .le 7, 3, 0, 0, 0)),
  (43, [(.ldc2_w 242, 3, 1000000001, 0, 0)], some (.lreturn, 1, 0, 0, 0)),
  (47, [(.aload_n 0, 1, 0, 0, 0), (.getfield 29, 3, 2, 4, 0), (.iconst 0, 1, 0, 0, 0), (.aaload, 1, 0, 0, 0), (.astore 5, 2, 0, 0, 0), (.aload 5, 2, 0, 0, 0)], some (.ifnonnull 7, 3, 0, 0, 0)),
  (60, [(.ldc2_w 242, 3, 1000000001, 0, 0)], some (.lreturn, 1, 0, 0, 0)),
  (64, [(.aload 5, 2, 0, 0, 0), (.aload_n 0, 1, 0, 0, 0), (.getfield 10, 3, 2, 0, 0)], some (.invokevirtual 66, 3, 0, 2, 0)),
  (73, [(.lconst 1, 1, 1, 0, 0), (.lstore 6, 2, 0, 0, 0), (.iconst 0, 1, 0, 0, 0), (.istore 8, 2, 0, 0, 0)], none),
  (79, [(.iload 8, 2, 0, 0, 0), (.iload_n 2, 1, 0, 0, 0)], some (.if_icmp .ge 16, 3, 0, 0, 0)),
  (85, [(.lload 6, 2, 0, 0, 0), (.iload_n 3, 1, 0, 0, 0), (.i2l, 1, 0, 0, 0), (.lmul, 1, 0, 0, 0), (.lstore 6, 2, 0, 0, 0), (.iinc 8 1, 3, 1, 0, 0)], some (.goto (-16), 3, 0, 0, 0)),
  (98, [(.aload_n 0, 1, 0, 0, 0), (.getfield 29, 3, 2, 4, 0), (.iconst 0, 1, 0, 0, 0), (.iload_n 2, 1, 0, 0, 0), (.iload_n 1, 1, 0, 0, 0), (.iload_n 3, 1, 0, 0, 0)], some (.invokestatic 244, 3, 88, 5, 0)),
  (109, [(.lload 6, 2, 0, 0, 0), (.iload 4, 2, 0, 0, 0)], some (.invokestatic 248, 3, 89, 3, 0)),
  (116, [], some (.lreturn, 1, 0, 0, 0))]
def iX3_rain : MI := (yX3_rain, cX3_rain, 9, (some .long), 2, 5, bX3_rain)
abbrev jX3_share : Nat := 91
def bX3_share : List Blk := [(0, [(.iload_n 1, 1, 0, 0, 0)], some (.invokestatic 123, 3, 10, 1, 0)),
  (4, [], some (.ifCond .eq 12, 3, 0, 0, 0)),
  (7, [(.iload_n 2, 1, 0, 0, 0)], some (.ifCond .lt 8, 3, 0, 0, 0)),
  (11, [(.iload_n 2, 1, 0, 0, 0), (.iconst 1, 1, 1, 0, 0)], some (.if_icmp .le 7, 3, 0, 0, 0)),
  (16, [(.ldc2_w 242, 3, 1000000001, 0, 0)], some (.lreturn, 1, 0, 0, 0)),
  (20, [(.aload_n 0, 1, 0, 0, 0), (.getfield 10, 3, 2, 0, 0), (.iload_n 1, 1, 0, 0, 0)], some (.invokevirtual 166, 3, 37, 2, 0)),
  (28, [(.istore_n 3, 1, 0, 0, 0), (.iload_n 3, 1, 0, 0, 0), (.i2l, 1, 0, 0, 0), (.iload_n 3, 1, 0, 0, 0), (.aload_n 0, 1, 0, 0, 0), (.getfield 10, 3, 2, 0, 0), (.iconst 1, 1, 1, 0, 0), (.iload_n 1, 1, 0, 0, 0), (.isub, 1, 0, 0, 0)], some (.invokevirtual 166, 3, 37, 2, 0)),
  (42, [(.iadd, 1, 0, 0, 0), (.i2l, 1, 0, 0, 0), (.iload_n 2, 1, 0, 0, 0)], some (.invokestatic 248, 3, 89, 3, 0)),
  (48, [], some (.lreturn, 1, 0, 0, 0))]
def iX3_share : MI := (yX3_share, cX3_share, 4, (some .long), 2, 3, bX3_share)
abbrev jX3_forged : Nat := 92
def bX3_forged : List Blk := [(0, [(.aload_n 0, 1, 0, 0, 0), (.iload_n 1, 1, 0, 0, 0)], some (.invokevirtual 51, 3, 57, 2, 2)),
  (5, [(.astore_n 2, 1, 0, 0, 0), (.aload_n 2, 1, 0, 0, 0), (.iconst 2, 1, 2, 0, 0)], some (.invokestatic 55, 3, 58, 2, 0)),
  (11, [(.istore_n 3, 1, 0, 0, 0), (.aload_n 2, 1, 0, 0, 0)], some (.ifnull 7, 3, 0, 0, 0)),
  (16, [(.iload_n 3, 1, 0, 0, 0)], some (.ifCond .eq 5, 3, 0, 0, 0)),
  (20, [(.iload_n 3, 1, 0, 0, 0)], some (.ireturn, 1, 0, 0, 0)),
  (22, [(.iconst 0, 1, 0, 0, 0), (.istore 4, 2, 0, 0, 0)], none),
  (25, [(.iload 4, 2, 0, 0, 0), (.aload_n 2, 1, 0, 0, 0), (.getfield 70, 3, 1, 4, 0)], some (.if_icmp .ge 43, 3, 0, 0, 0)),
  (34, [(.aload_n 0, 1, 0, 0, 0), (.getfield 10, 3, 2, 0, 0), (.iload 4, 2, 0, 0, 0)], some (.invokevirtual 87, 3, 1, 2, 0)),
  (43, [], some (.ifCond .eq 22, 3, 0, 0, 0)),
  (46, [(.aload_n 2, 1, 0, 0, 0), (.iload 4, 2, 0, 0, 0)], some (.invokevirtual 252, 3, 50, 2, 1)),
  (52, [(.aload_n 0, 1, 0, 0, 0), (.getfield 10, 3, 2, 0, 0), (.getfield 207, 3, 0, 3, 0), (.iload 4, 2, 0, 0, 0), (.iaload, 1, 0, 0, 0)], some (.if_icmp .eq 6, 3, 0, 0, 0)),
  (65, [(.iload 4, 2, 0, 0, 0)], some (.ireturn, 1, 0, 0, 0)),
  (68, [(.iinc 4 1, 3, 1, 0, 0)], some (.goto (-46), 3, 0, 0, 0)),
  (74, [(.bipush (-4), 2, 4, 1, 0)], some (.ireturn, 1, 0, 0, 0))]
def iX3_forged : MI := (yX3_forged, cX3_forged, 5, (some .int), 2, 2, bX3_forged)
abbrev jX3_judge : Nat := 93
def bX3_judge : List Blk := [(0, [(.aload_n 0, 1, 0, 0, 0), (.iload_n 1, 1, 0, 0, 0)], some (.invokevirtual 51, 3, 57, 2, 2)),
  (5, [(.astore_n 2, 1, 0, 0, 0), (.aload_n 2, 1, 0, 0, 0), (.iconst 2, 1, 2, 0, 0)], some (.invokestatic 55, 3, 58, 2, 0)),
  (11, [(.istore_n 3, 1, 0, 0, 0), (.aload_n 2, 1, 0, 0, 0)], some (.ifnull 7, 3, 0, 0, 0)),
  (16, [(.iload_n 3, 1, 0, 0, 0)], some (.ifCond .eq 5, 3, 0, 0, 0)),
  (20, [(.iload_n 3, 1, 0, 0, 0)], some (.ireturn, 1, 0, 0, 0)),
  (22, [(.aload_n 0, 1, 0, 0, 0), (.getfield 33, 3, 2, 5, 0), (.aload_n 0, 1, 0, 0, 0), (.getfield 10, 3, 2, 0, 0)], some (.invokevirtual 66, 3, 0, 2, 0)),
  (33, [(.iconst 0, 1, 0, 0, 0), (.istore 4, 2, 0, 0, 0)], none),
  (36, [(.iload 4, 2, 0, 0, 0), (.aload_n 2, 1, 0, 0, 0), (.getfield 70, 3, 1, 4, 0)], some (.if_icmp .ge 52, 3, 0, 0, 0)),
  (45, [(.iload 4, 2, 0, 0, 0)], some (.ifCond .le 13, 3, 0, 0, 0)),
  (50, [(.aload_n 0, 1, 0, 0, 0), (.getfield 33, 3, 2, 5, 0), (.iconst 0, 1, 0, 0, 0), (.iconst 0, 1, 0, 0, 0)], some (.invokevirtual 175, 3, 31, 3, 0)),
  (59, [(.pop, 1, 0, 0, 0)], none),
  (60, [(.aload_n 2, 1, 0, 0, 0), (.iload 4, 2, 0, 0, 0)], some (.invokevirtual 255, 3, 52, 2, 1)),
  (66, [], some (.ifCond .ne 22, 3, 0, 0, 0)),
  (69, [(.aload_n 2, 1, 0, 0, 0), (.iload 4, 2, 0, 0, 0)], some (.invokevirtual 252, 3, 50, 2, 1)),
  (75, [(.aload_n 0, 1, 0, 0, 0), (.getfield 33, 3, 2, 5, 0)], some (.invokevirtual 153, 3, 34, 1, 0)),
  (82, [], some (.if_icmp .eq 6, 3, 0, 0, 0)),
  (85, [(.iload 4, 2, 0, 0, 0)], some (.ireturn, 1, 0, 0, 0)),
  (88, [(.iinc 4 1, 3, 1, 0, 0)], some (.goto (-55), 3, 0, 0, 0)),
  (94, [(.bipush (-4), 2, 4, 1, 0)], some (.ireturn, 1, 0, 0, 0))]
def iX3_judge : MI := (yX3_judge, cX3_judge, 5, (some .int), 2, 2, bX3_judge)
abbrev jX3_draw : Nat := 94
def bX3_draw : List Blk := [(0, [(.aload_n 0, 1, 0, 0, 0), (.aload_n 0, 1, 0, 0, 0), (.getfield 46, 3, 2, 9, 0), (.ldc_w 325, 3, 1103515245, 0, 0), (.imul, 1, 0, 0, 0), (.sipush 12345, 3, 12345, 0, 0), (.iadd, 1, 0, 0, 0), (.putfield 46, 3, 2, 9, 0), (.iload_n 1, 1, 0, 0, 0)], some (.ifCond .gt 7, 3, 0, 0, 0)),
  (20, [(.iconst 0, 1, 0, 0, 0)], some (.goto 17, 3, 0, 0, 0)),
  (24, [(.aload_n 0, 1, 0, 0, 0), (.getfield 46, 3, 2, 9, 0), (.ldc_w 326, 3, 2147483647, 0, 0), (.iand, 1, 0, 0, 0), (.ldc_w 327, 3, 65536, 0, 0), (.idiv, 1, 0, 0, 0), (.iload_n 1, 1, 0, 0, 0), (.irem, 1, 0, 0, 0)], none),
  (38, [], some (.ireturn, 1, 0, 0, 0))]
def iX3_draw : MI := (yX3_draw, cX3_draw, 2, (some .int), 2, 2, bX3_draw)
abbrev jX3_setUpByDraws : Nat := 95
def bX3_setUpByDraws : List Blk := [(0, [(.aload_n 0, 1, 0, 0, 0), (.getfield 33, 3, 2, 5, 0), (.aload_n 0, 1, 0, 0, 0), (.getfield 10, 3, 2, 0, 0)], some (.invokevirtual 66, 3, 0, 2, 0)),
  (11, [(.aload_n 0, 1, 0, 0, 0), (.getfield 33, 3, 2, 5, 0)], some (.invokevirtual 328, 3, 15, 1, 0)),
  (18, [(.iconst 0, 1, 0, 0, 0), (.istore_n 1, 1, 0, 0, 0)], none),
  (20, [(.iload_n 1, 1, 0, 0, 0), (.aload_n 0, 1, 0, 0, 0), (.getfield 33, 3, 2, 5, 0), (.getfield 126, 3, 0, 5, 0)], some (.if_icmp .ge 49, 3, 0, 0, 0)),
  (31, [(.aload_n 0, 1, 0, 0, 0), (.bipush 36, 2, 36, 0, 0)], some (.invokevirtual 331, 3, 94, 2, 2)),
  (37, [(.istore_n 2, 1, 0, 0, 0), (.iconst 0, 1, 0, 0, 0), (.istore_n 3, 1, 0, 0, 0)], none),
  (40, [(.iload_n 3, 1, 0, 0, 0), (.bipush 36, 2, 36, 0, 0)], some (.if_icmp .ge 28, 3, 0, 0, 0)),
  (46, [(.aload_n 0, 1, 0, 0, 0), (.getfield 33, 3, 2, 5, 0), (.iload_n 1, 1, 0, 0, 0), (.iload_n 2, 1, 0, 0, 0)], some (.invokevirtual 137, 3, 14, 3, 0)),
  (55, [], some (.ifCond .ne 16, 3, 0, 0, 0)),
  (58, [(.iload_n 2, 1, 0, 0, 0), (.iconst 1, 1, 1, 0, 0), (.iadd, 1, 0, 0, 0), (.bipush 36, 2, 36, 0, 0), (.irem, 1, 0, 0, 0), (.istore_n 2, 1, 0, 0, 0), (.iinc 3 1, 3, 1, 0, 0)], some (.goto (-28), 3, 0, 0, 0)),
  (71, [(.iinc 1 1, 3, 1, 0, 0)], some (.goto (-54), 3, 0, 0, 0)),
  (77, [], some (.return_, 1, 0, 0, 0))]
def iX3_setUpByDraws : MI := (yX3_setUpByDraws, cX3_setUpByDraws, 4, none, 2, 1, bX3_setUpByDraws)
abbrev jX3_games : Nat := 96
def bX3_games : List Blk := [(0, [(.iload_n 1, 1, 0, 0, 0), (.iconst 1, 1, 1, 0, 0)], some (.if_icmp .lt 18, 3, 0, 0, 0)),
  (5, [(.iload_n 1, 1, 0, 0, 0), (.bipush 20, 2, 20, 0, 0)], some (.if_icmp .gt 12, 3, 0, 0, 0)),
  (11, [(.iload_n 3, 1, 0, 0, 0)], some (.ifCond .lt 8, 3, 0, 0, 0)),
  (15, [(.iload_n 3, 1, 0, 0, 0), (.iconst 1, 1, 1, 0, 0)], some (.if_icmp .le 5, 3, 0, 0, 0)),
  (20, [(.iconst (-1), 1, 1, 1, 0)], some (.ireturn, 1, 0, 0, 0)),
  (22, [(.aload_n 0, 1, 0, 0, 0), (.iload_n 2, 1, 0, 0, 0), (.putfield 46, 3, 2, 9, 0), (.iconst 0, 1, 0, 0, 0), (.istore 4, 2, 0, 0, 0), (.iconst 0, 1, 0, 0, 0), (.istore 5, 2, 0, 0, 0)], none),
  (33, [(.iload 5, 2, 0, 0, 0), (.iload_n 1, 1, 0, 0, 0)], some (.if_icmp .ge 56, 3, 0, 0, 0)),
  (39, [(.aload_n 0, 1, 0, 0, 0)], some (.invokevirtual 258, 3, 95, 1, 2)),
  (43, [(.aload_n 0, 1, 0, 0, 0), (.getfield 33, 3, 2, 5, 0), (.bipush 16, 2, 16, 0, 0)], some (.invokevirtual 201, 3, 33, 2, 0)),
  (52, [(.iload 4, 2, 0, 0, 0), (.iload_n 3, 1, 0, 0, 0)], some (.ifCond .ne 13, 3, 0, 0, 0)),
  (58, [(.aload_n 0, 1, 0, 0, 0), (.getfield 33, 3, 2, 5, 0)], some (.invokevirtual 153, 3, 34, 1, 0)),
  (65, [], some (.goto 18, 3, 0, 0, 0)),
  (68, [(.aload_n 0, 1, 0, 0, 0), (.getfield 33, 3, 2, 5, 0), (.getfield 163, 3, 0, 7, 0), (.aload_n 0, 1, 0, 0, 0), (.getfield 10, 3, 2, 0, 0), (.getfield 163, 3, 0, 7, 0), (.isub, 1, 0, 0, 0)], none),
  (83, [(.iadd, 1, 0, 0, 0), (.istore 4, 2, 0, 0, 0), (.iinc 5 1, 3, 1, 0, 0)], some (.goto (-56), 3, 0, 0, 0)),
  (92, [(.iload 4, 2, 0, 0, 0)], some (.ireturn, 1, 0, 0, 0))]
def iX3_games : MI := (yX3_games, cX3_games, 6, (some .int), 2, 4, bX3_games)
abbrev jX3_image : Nat := 97
def bX3_image : List Blk := [(0, [(.aload_n 0, 1, 0, 0, 0), (.getfield 16, 3, 2, 1, 0), (.aload_n 0, 1, 0, 0, 0), (.getfield 10, 3, 2, 0, 0)], some (.invokevirtual 66, 3, 0, 2, 0)),
  (11, [(.aload_n 0, 1, 0, 0, 0), (.iconst 1, 1, 1, 0, 0), (.putfield 19, 3, 2, 2, 0), (.aload_n 0, 1, 0, 0, 0), (.getfield 10, 3, 2, 0, 0), (.getfield 111, 3, 0, 8, 0)], some (.ireturn, 1, 0, 0, 0))]
def iX3_image : MI := (yX3_image, cX3_image, 1, (some .int), 2, 1, bX3_image)
abbrev jX3_restore : Nat := 98
def bX3_restore : List Blk := [(0, [(.aload_n 0, 1, 0, 0, 0), (.getfield 19, 3, 2, 2, 0)], some (.ifCond .ne 6, 3, 0, 0, 0)),
  (7, [(.bipush (-3), 2, 3, 1, 0)], some (.ireturn, 1, 0, 0, 0)),
  (10, [(.aload_n 0, 1, 0, 0, 0), (.getfield 10, 3, 2, 0, 0), (.aload_n 0, 1, 0, 0, 0), (.getfield 16, 3, 2, 1, 0)], some (.invokevirtual 66, 3, 0, 2, 0)),
  (21, [(.aload_n 0, 1, 0, 0, 0), (.getfield 10, 3, 2, 0, 0), (.getfield 111, 3, 0, 8, 0)], some (.ireturn, 1, 0, 0, 0))]
def iX3_restore : MI := (yX3_restore, cX3_restore, 1, (some .int), 2, 1, bX3_restore)
abbrev jX3_count : Nat := 99
def bX3_count : List Blk := [(0, [(.iload_n 1, 1, 0, 0, 0)], some (.tableswitch 75 0 4 #[35, 43, 51, 59, 67], 35, 0, 0, 0)),
  (36, [(.aload_n 0, 1, 0, 0, 0), (.getfield 10, 3, 2, 0, 0), (.getfield 126, 3, 0, 5, 0)], some (.ireturn, 1, 0, 0, 0)),
  (44, [(.aload_n 0, 1, 0, 0, 0), (.getfield 10, 3, 2, 0, 0), (.getfield 111, 3, 0, 8, 0)], some (.ireturn, 1, 0, 0, 0)),
  (52, [(.aload_n 0, 1, 0, 0, 0), (.getfield 10, 3, 2, 0, 0), (.getfield 144, 3, 0, 6, 0)], some (.ireturn, 1, 0, 0, 0)),
  (60, [(.aload_n 0, 1, 0, 0, 0), (.getfield 10, 3, 2, 0, 0), (.getfield 163, 3, 0, 7, 0)], some (.ireturn, 1, 0, 0, 0)),
  (68, [(.aload_n 0, 1, 0, 0, 0), (.getfield 10, 3, 2, 0, 0)], some (.invokevirtual 160, 3, 35, 1, 0)),
  (75, [], some (.ireturn, 1, 0, 0, 0)),
  (76, [(.iconst (-1), 1, 1, 1, 0)], some (.ireturn, 1, 0, 0, 0))]
def iX3_count : MI := (yX3_count, cX3_count, 2, (some .int), 2, 2, bX3_count)
abbrev jX3_keep : Nat := 100
def bX3_keep : List Blk := [(0, [(.aload_n 0, 1, 0, 0, 0), (.iload_n 1, 1, 0, 0, 0)], some (.invokevirtual 51, 3, 57, 2, 2)),
  (5, [(.astore 5, 2, 0, 0, 0), (.aload 5, 2, 0, 0, 0)], some (.ifnull 12, 3, 0, 0, 0)),
  (12, [(.iload_n 2, 1, 0, 0, 0)], some (.ifCond .lt 8, 3, 0, 0, 0)),
  (16, [(.iload_n 2, 1, 0, 0, 0), (.iconst 1, 1, 1, 0, 0)], some (.if_icmp .le 5, 3, 0, 0, 0)),
  (21, [(.iconst (-1), 1, 1, 1, 0)], some (.ireturn, 1, 0, 0, 0)),
  (23, [(.iload_n 2, 1, 0, 0, 0)], some (.ifCond .ne 11, 3, 0, 0, 0)),
  (27, [(.aload 5, 2, 0, 0, 0), (.iconst 0, 1, 0, 0, 0), (.putfield 261, 3, 1, 0, 0), (.iconst 0, 1, 0, 0, 0)], some (.ireturn, 1, 0, 0, 0)),
  (35, [(.iload_n 3, 1, 0, 0, 0)], some (.invokestatic 264, 3, 8, 1, 0)),
  (39, [], some (.ifCond .eq 11, 3, 0, 0, 0)),
  (42, [(.iload 4, 2, 0, 0, 0)], some (.invokestatic 267, 3, 9, 1, 0)),
  (47, [], some (.ifCond .ne 5, 3, 0, 0, 0)),
  (50, [(.iconst (-1), 1, 1, 1, 0)], some (.ireturn, 1, 0, 0, 0)),
  (52, [(.aload 5, 2, 0, 0, 0), (.iconst 1, 1, 1, 0, 0), (.putfield 261, 3, 1, 0, 0), (.aload 5, 2, 0, 0, 0), (.iload_n 3, 1, 0, 0, 0), (.putfield 129, 3, 1, 1, 0), (.aload 5, 2, 0, 0, 0), (.iload 4, 2, 0, 0, 0), (.putfield 131, 3, 1, 2, 0), (.iconst 0, 1, 0, 0, 0)], some (.ireturn, 1, 0, 0, 0))]
def iX3_keep : MI := (yX3_keep, cX3_keep, 6, (some .int), 2, 5, bX3_keep)
abbrev jX3_row : Nat := 101
def bX3_row : List Blk := [(0, [(.aload_n 0, 1, 0, 0, 0), (.iload_n 1, 1, 0, 0, 0)], some (.invokevirtual 51, 3, 57, 2, 2)),
  (5, [(.astore 4, 2, 0, 0, 0), (.aload 4, 2, 0, 0, 0)], some (.ifnull 18, 3, 0, 0, 0)),
  (12, [(.iload_n 2, 1, 0, 0, 0)], some (.ifCond .lt 14, 3, 0, 0, 0)),
  (16, [(.iload_n 2, 1, 0, 0, 0), (.iconst 2, 1, 2, 0, 0)], some (.if_icmp .gt 9, 3, 0, 0, 0)),
  (21, [(.iload_n 3, 1, 0, 0, 0), (.bipush 100, 2, 100, 0, 0)], some (.if_icmp .le 5, 3, 0, 0, 0)),
  (27, [(.iconst (-1), 1, 1, 1, 0)], some (.ireturn, 1, 0, 0, 0)),
  (29, [(.iload_n 3, 1, 0, 0, 0)], some (.ifCond .ge 6, 3, 0, 0, 0)),
  (33, [(.bipush (-14), 2, 14, 1, 0)], some (.ireturn, 1, 0, 0, 0)),
  (36, [(.aload 4, 2, 0, 0, 0), (.iload_n 2, 1, 0, 0, 0), (.iload_n 3, 1, 0, 0, 0)], some (.invokevirtual 270, 3, 47, 3, 1)),
  (43, [(.iconst 0, 1, 0, 0, 0)], some (.ireturn, 1, 0, 0, 0))]
def iX3_row : MI := (yX3_row, cX3_row, 5, (some .int), 2, 4, bX3_row)
abbrev jX3_put : Nat := 102
def bX3_put : List Blk := [(0, [(.aload_n 0, 1, 0, 0, 0), (.iload_n 1, 1, 0, 0, 0)], some (.invokevirtual 51, 3, 57, 2, 2)),
  (5, [(.astore 4, 2, 0, 0, 0), (.aload 4, 2, 0, 0, 0), (.iconst 2, 1, 2, 0, 0)], some (.invokestatic 55, 3, 58, 2, 0)),
  (13, [(.istore 5, 2, 0, 0, 0), (.aload 4, 2, 0, 0, 0)], some (.ifnull 8, 3, 0, 0, 0)),
  (20, [(.iload 5, 2, 0, 0, 0)], some (.ifCond .eq 6, 3, 0, 0, 0)),
  (25, [(.iload 5, 2, 0, 0, 0)], some (.ireturn, 1, 0, 0, 0)),
  (28, [(.aload 4, 2, 0, 0, 0), (.iload_n 2, 1, 0, 0, 0), (.iload_n 3, 1, 0, 0, 0)], some (.invokevirtual 274, 3, 51, 3, 1)),
  (35, [], some (.ifCond .eq 7, 3, 0, 0, 0)),
  (38, [(.iconst 0, 1, 0, 0, 0)], some (.goto 5, 3, 0, 0, 0)),
  (42, [(.bipush (-13), 2, 13, 1, 0)], none),
  (44, [], some (.ireturn, 1, 0, 0, 0))]
def iX3_put : MI := (yX3_put, cX3_put, 6, (some .int), 2, 4, bX3_put)
abbrev jX3_copy : Nat := 103
def bX3_copy : List Blk := [(0, [(.aload_n 0, 1, 0, 0, 0), (.iload_n 1, 1, 0, 0, 0)], some (.invokevirtual 51, 3, 57, 2, 2)),
  (5, [(.astore 6, 2, 0, 0, 0), (.aload_n 0, 1, 0, 0, 0), (.iload_n 3, 1, 0, 0, 0)], some (.invokevirtual 51, 3, 57, 2, 2)),
  (12, [(.astore 7, 2, 0, 0, 0), (.aload 6, 2, 0, 0, 0)], some (.ifnull 8, 3, 0, 0, 0)),
  (19, [(.aload 7, 2, 0, 0, 0)], some (.ifnonnull 5, 3, 0, 0, 0)),
  (24, [(.iconst (-1), 1, 1, 1, 0)], some (.ireturn, 1, 0, 0, 0)),
  (26, [(.aload 6, 2, 0, 0, 0), (.getfield 261, 3, 1, 0, 0)], some (.ifCond .eq 11, 3, 0, 0, 0)),
  (34, [(.aload 7, 2, 0, 0, 0), (.getfield 261, 3, 1, 0, 0)], some (.ifCond .ne 6, 3, 0, 0, 0)),
  (42, [(.bipush (-11), 2, 11, 1, 0)], some (.ireturn, 1, 0, 0, 0)),
  (45, [(.aload 6, 2, 0, 0, 0), (.getfield 261, 3, 1, 0, 0), (.iconst 2, 1, 2, 0, 0)], some (.if_icmp .ne 25, 3, 0, 0, 0)),
  (54, [(.aload 7, 2, 0, 0, 0), (.getfield 261, 3, 1, 0, 0), (.iconst 2, 1, 2, 0, 0)], some (.if_icmp .ne 16, 3, 0, 0, 0)),
  (63, [(.aload 6, 2, 0, 0, 0), (.getfield 59, 3, 1, 3, 0), (.aload 7, 2, 0, 0, 0), (.getfield 59, 3, 1, 3, 0)], some (.if_icmp .eq 6, 3, 0, 0, 0)),
  (76, [(.bipush (-12), 2, 12, 1, 0)], some (.ireturn, 1, 0, 0, 0)),
  (79, [(.aload 6, 2, 0, 0, 0), (.iload_n 2, 1, 0, 0, 0), (.iload 5, 2, 0, 0, 0)], some (.invokevirtual 294, 3, 49, 3, 1)),
  (87, [], some (.ifCond .eq 15, 3, 0, 0, 0)),
  (90, [(.aload 7, 2, 0, 0, 0), (.iload 4, 2, 0, 0, 0), (.iload 5, 2, 0, 0, 0)], some (.invokevirtual 294, 3, 49, 3, 1)),
  (99, [], some (.ifCond .ne 6, 3, 0, 0, 0)),
  (102, [(.bipush (-13), 2, 13, 1, 0)], some (.ireturn, 1, 0, 0, 0)),
  (105, [(.aload 6, 2, 0, 0, 0), (.getfield 297, 3, 1, 5, 0), (.iload_n 2, 1, 0, 0, 0), (.aload 7, 2, 0, 0, 0), (.getfield 297, 3, 1, 5, 0), (.iload 4, 2, 0, 0, 0), (.iload 5, 2, 0, 0, 0), (.invokestatic 300, 3, 0, 0, 0), (.iload 5, 2, 0, 0, 0)], some (.ireturn, 1, 0, 0, 0))]
def iX3_copy : MI := (yX3_copy, cX3_copy, 8, (some .int), 2, 6, bX3_copy)
abbrev jX3_cost : Nat := 104
def bX3_cost : List Blk := [(0, [(.aload_n 0, 1, 0, 0, 0), (.iload_n 1, 1, 0, 0, 0)], some (.invokevirtual 51, 3, 57, 2, 2)),
  (5, [(.astore_n 2, 1, 0, 0, 0), (.aload_n 2, 1, 0, 0, 0), (.iconst 1, 1, 1, 0, 0)], some (.invokestatic 55, 3, 58, 2, 0)),
  (11, [(.istore_n 3, 1, 0, 0, 0), (.aload_n 2, 1, 0, 0, 0)], some (.ifnull 7, 3, 0, 0, 0)),
  (16, [(.iload_n 3, 1, 0, 0, 0)], some (.ifCond .eq 7, 3, 0, 0, 0)),
  (20, [(.iload_n 3, 1, 0, 0, 0)], some (.goto 14, 3, 0, 0, 0)),
  (24, [(.aload_n 2, 1, 0, 0, 0), (.getfield 129, 3, 1, 1, 0), (.aload_n 2, 1, 0, 0, 0), (.getfield 131, 3, 1, 2, 0)], some (.invokestatic 306, 3, 45, 2, 0)),
  (35, [], some (.ireturn, 1, 0, 0, 0))]
def iX3_cost : MI := (yX3_cost, cX3_cost, 4, (some .int), 2, 2, bX3_cost)
abbrev jX4_isIn : Nat := 105
def bX4_isIn : List Blk := [(0, [(.iload_n 0, 1, 0, 0, 0), (.iload_n 1, 1, 0, 0, 0)], some (.if_icmp .lt 12, 3, 0, 0, 0)),
  (5, [(.iload_n 0, 1, 0, 0, 0), (.iload_n 2, 1, 0, 0, 0)], some (.if_icmp .gt 7, 3, 0, 0, 0)),
  (10, [(.iconst 1, 1, 1, 0, 0)], some (.goto 4, 3, 0, 0, 0)),
  (14, [(.iconst 0, 1, 0, 0, 0)], none),
  (15, [], some (.ireturn, 1, 1, 0, 0))]
def iX4_isIn : MI := (yX4_isIn, cX4_isIn, 3, (some .boolean), 3, 3, bX4_isIn)
abbrev jX4_sized : Nat := 106
def bX4_sized : List Blk := [(0, [(.iload_n 0, 1, 0, 0, 0)], some (.ifCond .ge 8, 3, 0, 0, 0)),
  (4, [(.iload_n 0, 1, 0, 0, 0), (.ineg, 1, 0, 0, 0)], some (.goto 4, 3, 0, 0, 0)),
  (9, [(.iload_n 0, 1, 0, 0, 0)], none),
  (10, [], some (.ireturn, 1, 0, 0, 0))]
def iX4_sized : MI := (yX4_sized, cX4_sized, 1, (some .int), 3, 1, bX4_sized)
abbrev jX4_least : Nat := 107
def bX4_least : List Blk := [(0, [(.iload_n 0, 1, 0, 0, 0), (.iload_n 1, 1, 0, 0, 0)], some (.if_icmp .ge 7, 3, 0, 0, 0)),
  (5, [(.iload_n 0, 1, 0, 0, 0)], some (.goto 4, 3, 0, 0, 0)),
  (9, [(.iload_n 1, 1, 0, 0, 0)], none),
  (10, [], some (.ireturn, 1, 0, 0, 0))]
def iX4_least : MI := (yX4_least, cX4_least, 2, (some .int), 3, 2, bX4_least)
abbrev jX4_copies : Nat := 108
def bX4_copies : List Blk := [(0, [(.iconst 0, 1, 0, 0, 0), (.istore_n 2, 1, 0, 0, 0)], none),
  (2, [(.iload_n 2, 1, 0, 0, 0), (.bipush 46, 2, 46, 0, 0)], some (.if_icmp .ge 15, 3, 0, 0, 0)),
  (8, [(.aload_n 1, 1, 0, 0, 0), (.iload_n 2, 1, 0, 0, 0), (.aload_n 0, 1, 0, 0, 0), (.iload_n 2, 1, 0, 0, 0), (.iaload, 1, 0, 0, 0), (.iastore, 1, 0, 0, 0), (.iinc 2 1, 3, 1, 0, 0)], some (.goto (-15), 3, 0, 0, 0)),
  (20, [], some (.return_, 1, 0, 0, 0))]
def iX4_copies : MI := (yX4_copies, cX4_copies, 3, none, 3, 2, bX4_copies)
abbrev jX4_of : Nat := 109
def bX4_of : List Blk := [(0, [(.bipush 6, 2, 6, 0, 0), (.iconst 4, 1, 4, 0, 0), (.iload_n 0, 1, 0, 0, 0), (.imul, 1, 0, 0, 0), (.iadd, 1, 0, 0, 0), (.iload_n 1, 1, 0, 0, 0), (.iadd, 1, 0, 0, 0)], some (.ireturn, 1, 0, 0, 0))]
def iX4_of : MI := (yX4_of, cX4_of, 2, (some .int), 3, 2, bX4_of)
abbrev jX4_isPiece : Nat := 110
def bX4_isPiece : List Blk := [(0, [(.iload_n 1, 1, 0, 0, 0), (.iconst 0, 1, 0, 0, 0), (.aload_n 0, 1, 0, 0, 0), (.getfield 9, 3, 3, 0, 0), (.iconst 0, 1, 0, 0, 0), (.iaload, 1, 0, 0, 0), (.iconst 1, 1, 1, 0, 0), (.isub, 1, 0, 0, 0)], some (.invokestatic 43, 3, 105, 3, 0)),
  (13, [], some (.ireturn, 1, 1, 0, 0))]
def iX4_isPiece : MI := (yX4_isPiece, cX4_isPiece, 2, (some .boolean), 3, 2, bX4_isPiece)
abbrev jX4_areTwo : Nat := 111
def bX4_areTwo : List Blk := [(0, [(.aload_n 0, 1, 0, 0, 0), (.iload_n 1, 1, 0, 0, 0)], some (.invokevirtual 47, 3, 110, 2, 3)),
  (5, [], some (.ifCond .eq 20, 3, 0, 0, 0)),
  (8, [(.aload_n 0, 1, 0, 0, 0), (.iload_n 2, 1, 0, 0, 0)], some (.invokevirtual 47, 3, 110, 2, 3)),
  (13, [], some (.ifCond .eq 12, 3, 0, 0, 0)),
  (16, [(.iload_n 1, 1, 0, 0, 0), (.iload_n 2, 1, 0, 0, 0)], some (.if_icmp .eq 7, 3, 0, 0, 0)),
  (21, [(.iconst 1, 1, 1, 0, 0)], some (.goto 4, 3, 0, 0, 0)),
  (25, [(.iconst 0, 1, 0, 0, 0)], none),
  (26, [], some (.ireturn, 1, 1, 0, 0))]
def iX4_areTwo : MI := (yX4_areTwo, cX4_areTwo, 3, (some .boolean), 3, 3, bX4_areTwo)
abbrev jX4_isSquare : Nat := 112
def bX4_isSquare : List Blk := [(0, [(.iload_n 0, 1, 0, 0, 0), (.iconst 0, 1, 0, 0, 0), (.bipush 35, 2, 35, 0, 0)], some (.invokestatic 43, 3, 105, 3, 0)),
  (7, [], some (.ireturn, 1, 1, 0, 0))]
def iX4_isSquare : MI := (yX4_isSquare, cX4_isSquare, 1, (some .boolean), 3, 1, bX4_isSquare)
abbrev jX4_isSide : Nat := 113
def bX4_isSide : List Blk := [(0, [(.iload_n 0, 1, 0, 0, 0), (.iconst 0, 1, 0, 0, 0), (.iconst 1, 1, 1, 0, 0)], some (.invokestatic 43, 3, 105, 3, 0)),
  (6, [], some (.ireturn, 1, 1, 0, 0))]
def iX4_isSide : MI := (yX4_isSide, cX4_isSide, 1, (some .boolean), 3, 1, bX4_isSide)
abbrev jX4_isHere : Nat := 114
def bX4_isHere : List Blk := [(0, [(.aload_n 0, 1, 0, 0, 0), (.iload_n 1, 1, 0, 0, 0), (.iconst 3, 1, 3, 0, 0)], some (.invokestatic 51, 3, 109, 2, 0)),
  (6, [(.iaload, 1, 0, 0, 0)], some (.ifCond .lt 7, 3, 0, 0, 0)),
  (10, [(.iconst 1, 1, 1, 0, 0)], some (.goto 4, 3, 0, 0, 0)),
  (14, [(.iconst 0, 1, 0, 0, 0)], none),
  (15, [], some (.ireturn, 1, 1, 0, 0))]
def iX4_isHere : MI := (yX4_isHere, cX4_isHere, 2, (some .boolean), 3, 2, bX4_isHere)
abbrev jX4_has : Nat := 115
def bX4_has : List Blk := [(0, [(.iload_n 0, 1, 0, 0, 0), (.iload_n 1, 1, 0, 0, 0), (.ishr, 1, 0, 0, 0), (.iconst 1, 1, 1, 0, 0), (.iand, 1, 0, 0, 0), (.iconst 1, 1, 1, 0, 0)], some (.if_icmp .ne 7, 3, 0, 0, 0)),
  (9, [(.iconst 1, 1, 1, 0, 0)], some (.goto 4, 3, 0, 0, 0)),
  (13, [(.iconst 0, 1, 0, 0, 0)], none),
  (14, [], some (.ireturn, 1, 1, 0, 0))]
def iX4_has : MI := (yX4_has, cX4_has, 2, (some .boolean), 3, 2, bX4_has)
abbrev jX4_bits : Nat := 116
def bX4_bits : List Blk := [(0, [(.iconst 0, 1, 0, 0, 0), (.istore_n 1, 1, 0, 0, 0), (.iconst 0, 1, 0, 0, 0), (.istore_n 2, 1, 0, 0, 0)], none),
  (4, [(.iload_n 2, 1, 0, 0, 0), (.bipush 10, 2, 10, 0, 0)], some (.if_icmp .ge 17, 3, 0, 0, 0)),
  (10, [(.iload_n 1, 1, 0, 0, 0), (.iload_n 0, 1, 0, 0, 0), (.iload_n 2, 1, 0, 0, 0), (.ishr, 1, 0, 0, 0), (.iconst 1, 1, 1, 0, 0), (.iand, 1, 0, 0, 0), (.iadd, 1, 0, 0, 0), (.istore_n 1, 1, 0, 0, 0), (.iinc 2 1, 3, 1, 0, 0)], some (.goto (-17), 3, 0, 0, 0)),
  (24, [(.iload_n 1, 1, 0, 0, 0)], some (.ireturn, 1, 0, 0, 0))]
def iX4_bits : MI := (yX4_bits, cX4_bits, 3, (some .int), 3, 1, bX4_bits)
abbrev jX4_onSquare : Nat := 117
def bX4_onSquare : List Blk := [(0, [(.iconst 0, 1, 0, 0, 0), (.istore_n 2, 1, 0, 0, 0)], none),
  (2, [(.iload_n 2, 1, 0, 0, 0), (.aload_n 0, 1, 0, 0, 0), (.iconst 0, 1, 0, 0, 0), (.iaload, 1, 0, 0, 0)], some (.if_icmp .ge 22, 3, 0, 0, 0)),
  (9, [(.aload_n 0, 1, 0, 0, 0), (.iload_n 2, 1, 0, 0, 0), (.iconst 3, 1, 3, 0, 0)], some (.invokestatic 51, 3, 109, 2, 0)),
  (15, [(.iaload, 1, 0, 0, 0), (.iload_n 1, 1, 0, 0, 0)], some (.if_icmp .ne 5, 3, 0, 0, 0)),
  (20, [(.iload_n 2, 1, 0, 0, 0)], some (.ireturn, 1, 0, 0, 0)),
  (22, [(.iinc 2 1, 3, 1, 0, 0)], some (.goto (-23), 3, 0, 0, 0)),
  (28, [(.iconst (-1), 1, 1, 1, 0)], some (.ireturn, 1, 0, 0, 0))]
def iX4_onSquare : MI := (yX4_onSquare, cX4_onSquare, 3, (some .int), 3, 2, bX4_onSquare)
abbrev jX4_squareOn : Nat := 118
def bX4_squareOn : List Blk := [(0, [(.iload_n 0, 1, 0, 0, 0), (.bipush 6, 2, 6, 0, 0), (.idiv, 1, 0, 0, 0), (.iload_n 1, 1, 0, 0, 0), (.iadd, 1, 0, 0, 0), (.istore_n 3, 1, 0, 0, 0), (.iload_n 0, 1, 0, 0, 0), (.bipush 6, 2, 6, 0, 0), (.irem, 1, 0, 0, 0), (.iload_n 2, 1, 0, 0, 0), (.iadd, 1, 0, 0, 0), (.istore 4, 2, 0, 0, 0), (.iload_n 3, 1, 0, 0, 0), (.iconst 0, 1, 0, 0, 0), (.iconst 5, 1, 5, 0, 0)], some (.invokestatic 43, 3, 105, 3, 0)),
  (21, [], some (.ifCond .eq 23, 3, 0, 0, 0)),
  (24, [(.iload 4, 2, 0, 0, 0), (.iconst 0, 1, 0, 0, 0), (.iconst 5, 1, 5, 0, 0)], some (.invokestatic 43, 3, 105, 3, 0)),
  (31, [], some (.ifCond .eq 13, 3, 0, 0, 0)),
  (34, [(.bipush 6, 2, 6, 0, 0), (.iload_n 3, 1, 0, 0, 0), (.imul, 1, 0, 0, 0), (.iload 4, 2, 0, 0, 0), (.iadd, 1, 0, 0, 0)], some (.goto 5, 3, 0, 0, 0)),
  (44, [(.bipush (-2), 2, 2, 1, 0)], none),
  (46, [], some (.ireturn, 1, 0, 0, 0))]
def iX4_squareOn : MI := (yX4_squareOn, cX4_squareOn, 5, (some .int), 3, 3, bX4_squareOn)
abbrev jX4_isFree : Nat := 119
def bX4_isFree : List Blk := [(0, [(.iload_n 1, 1, 0, 0, 0)], some (.ifCond .lt 15, 3, 0, 0, 0)),
  (4, [(.aload_n 0, 1, 0, 0, 0), (.iload_n 1, 1, 0, 0, 0)], some (.invokestatic 55, 3, 117, 2, 0)),
  (9, [], some (.ifCond .ge 7, 3, 0, 0, 0)),
  (12, [(.iconst 1, 1, 1, 0, 0)], some (.goto 4, 3, 0, 0, 0)),
  (16, [(.iconst 0, 1, 0, 0, 0)], none),
  (17, [], some (.ireturn, 1, 1, 0, 0))]
def iX4_isFree : MI := (yX4_isFree, cX4_isFree, 2, (some .boolean), 3, 2, bX4_isFree)
abbrev jX4_isOfSide : Nat := 120
def bX4_isOfSide : List Blk := [(0, [(.iload_n 1, 1, 0, 0, 0)], some (.ifCond .ge 7, 3, 0, 0, 0)),
  (4, [(.iconst (-1), 1, 1, 1, 0)], some (.goto 8, 3, 0, 0, 0)),
  (8, [(.aload_n 0, 1, 0, 0, 0), (.iload_n 1, 1, 0, 0, 0)], some (.invokestatic 55, 3, 117, 2, 0)),
  (13, [(.istore_n 3, 1, 0, 0, 0), (.iload_n 3, 1, 0, 0, 0)], some (.ifCond .lt 18, 3, 0, 0, 0)),
  (18, [(.aload_n 0, 1, 0, 0, 0), (.iload_n 3, 1, 0, 0, 0), (.iconst 2, 1, 2, 0, 0)], some (.invokestatic 51, 3, 109, 2, 0)),
  (24, [(.iaload, 1, 0, 0, 0), (.iload_n 2, 1, 0, 0, 0)], some (.if_icmp .ne 7, 3, 0, 0, 0)),
  (29, [(.iconst 1, 1, 1, 0, 0)], some (.goto 4, 3, 0, 0, 0)),
  (33, [(.iconst 0, 1, 0, 0, 0)], none),
  (34, [], some (.ireturn, 1, 1, 0, 0))]
def iX4_isOfSide : MI := (yX4_isOfSide, cX4_isOfSide, 4, (some .boolean), 3, 3, bX4_isOfSide)
abbrev jX4_farOf : Nat := 121
def bX4_farOf : List Blk := [(0, [(.iload_n 0, 1, 0, 0, 0), (.bipush 6, 2, 6, 0, 0), (.idiv, 1, 0, 0, 0), (.iload_n 1, 1, 0, 0, 0), (.bipush 6, 2, 6, 0, 0), (.idiv, 1, 0, 0, 0), (.isub, 1, 0, 0, 0)], some (.invokestatic 59, 3, 106, 1, 0)),
  (12, [(.istore_n 2, 1, 0, 0, 0), (.iload_n 0, 1, 0, 0, 0), (.bipush 6, 2, 6, 0, 0), (.irem, 1, 0, 0, 0), (.iload_n 1, 1, 0, 0, 0), (.bipush 6, 2, 6, 0, 0), (.irem, 1, 0, 0, 0), (.isub, 1, 0, 0, 0)], some (.invokestatic 59, 3, 106, 1, 0)),
  (25, [(.istore_n 3, 1, 0, 0, 0), (.iload_n 2, 1, 0, 0, 0), (.iload_n 3, 1, 0, 0, 0)], some (.if_icmp .le 7, 3, 0, 0, 0)),
  (31, [(.iload_n 2, 1, 0, 0, 0)], some (.goto 4, 3, 0, 0, 0)),
  (35, [(.iload_n 3, 1, 0, 0, 0)], none),
  (36, [], some (.ireturn, 1, 0, 0, 0))]
def iX4_farOf : MI := (yX4_farOf, cX4_farOf, 4, (some .int), 3, 2, bX4_farOf)
abbrev jX4_forward : Nat := 122
def bX4_forward : List Blk := [(0, [(.aload_n 0, 1, 0, 0, 0), (.iload_n 1, 1, 0, 0, 0), (.iconst 2, 1, 2, 0, 0)], some (.invokestatic 51, 3, 109, 2, 0)),
  (6, [(.iaload, 1, 0, 0, 0)], some (.ifCond .ne 7, 3, 0, 0, 0)),
  (10, [(.iconst 1, 1, 1, 0, 0)], some (.goto 4, 3, 0, 0, 0)),
  (14, [(.iconst (-1), 1, 1, 1, 0)], none),
  (15, [], some (.ireturn, 1, 0, 0, 0))]
def iX4_forward : MI := (yX4_forward, cX4_forward, 2, (some .int), 3, 2, bX4_forward)
abbrev jX4_pawnIdea : Nat := 123
def bX4_pawnIdea : List Blk := [(0, [(.aload_n 0, 1, 0, 0, 0), (.iload_n 1, 1, 0, 0, 0), (.iconst 3, 1, 3, 0, 0)], some (.invokestatic 51, 3, 109, 2, 0)),
  (6, [(.iaload, 1, 0, 0, 0), (.istore_n 2, 1, 0, 0, 0), (.iload_n 2, 1, 0, 0, 0), (.aload_n 0, 1, 0, 0, 0), (.iload_n 1, 1, 0, 0, 0)], some (.invokestatic 63, 3, 122, 2, 0)),
  (14, [(.iconst 0, 1, 0, 0, 0)], some (.invokestatic 66, 3, 118, 3, 0)),
  (18, [(.istore_n 3, 1, 0, 0, 0), (.iload_n 2, 1, 0, 0, 0), (.aload_n 0, 1, 0, 0, 0), (.iload_n 1, 1, 0, 0, 0)], some (.invokestatic 63, 3, 122, 2, 0)),
  (25, [(.iconst 1, 1, 1, 0, 0)], some (.invokestatic 66, 3, 118, 3, 0)),
  (29, [(.istore 4, 2, 0, 0, 0), (.aload_n 0, 1, 0, 0, 0), (.iload_n 3, 1, 0, 0, 0)], some (.invokestatic 70, 3, 119, 2, 0)),
  (36, [], some (.ifCond .eq 7, 3, 0, 0, 0)),
  (39, [(.iload_n 3, 1, 0, 0, 0)], some (.goto 28, 3, 0, 0, 0)),
  (43, [(.aload_n 0, 1, 0, 0, 0), (.iload 4, 2, 0, 0, 0), (.iconst 1, 1, 1, 0, 0), (.aload_n 0, 1, 0, 0, 0), (.iload_n 1, 1, 0, 0, 0), (.iconst 2, 1, 2, 0, 0)], some (.invokestatic 51, 3, 109, 2, 0)),
  (53, [(.iaload, 1, 0, 0, 0), (.isub, 1, 0, 0, 0)], some (.invokestatic 74, 3, 120, 3, 0)),
  (58, [], some (.ifCond .eq 8, 3, 0, 0, 0)),
  (61, [(.iload 4, 2, 0, 0, 0)], some (.goto 5, 3, 0, 0, 0)),
  (66, [(.bipush (-4), 2, 4, 1, 0)], none),
  (68, [], some (.ireturn, 1, 0, 0, 0))]
def iX4_pawnIdea : MI := (yX4_pawnIdea, cX4_pawnIdea, 5, (some .int), 3, 2, bX4_pawnIdea)
abbrev jX4_knightIdea : Nat := 124
def bX4_knightIdea : List Blk := [(0, [(.aload_n 0, 1, 0, 0, 0), (.iload_n 1, 1, 0, 0, 0), (.iconst 3, 1, 3, 0, 0)], some (.invokestatic 51, 3, 109, 2, 0)),
  (6, [(.iaload, 1, 0, 0, 0), (.istore_n 2, 1, 0, 0, 0), (.iload_n 2, 1, 0, 0, 0), (.iconst 2, 1, 2, 0, 0), (.aload_n 0, 1, 0, 0, 0), (.iload_n 1, 1, 0, 0, 0)], some (.invokestatic 63, 3, 122, 2, 0)),
  (15, [(.imul, 1, 0, 0, 0), (.iconst 1, 1, 1, 0, 0)], some (.invokestatic 66, 3, 118, 3, 0)),
  (20, [(.istore_n 3, 1, 0, 0, 0), (.iload_n 2, 1, 0, 0, 0), (.iconst 2, 1, 2, 0, 0), (.aload_n 0, 1, 0, 0, 0), (.iload_n 1, 1, 0, 0, 0)], some (.invokestatic 63, 3, 122, 2, 0)),
  (28, [(.imul, 1, 0, 0, 0), (.iconst (-1), 1, 1, 1, 0)], some (.invokestatic 66, 3, 118, 3, 0)),
  (33, [(.istore 4, 2, 0, 0, 0), (.aload_n 0, 1, 0, 0, 0), (.iload_n 1, 1, 0, 0, 0), (.iconst 2, 1, 2, 0, 0)], some (.invokestatic 51, 3, 109, 2, 0)),
  (41, [(.iaload, 1, 0, 0, 0), (.istore 5, 2, 0, 0, 0), (.iload_n 3, 1, 0, 0, 0)], some (.ifCond .lt 17, 3, 0, 0, 0)),
  (48, [(.aload_n 0, 1, 0, 0, 0), (.iload_n 3, 1, 0, 0, 0), (.iload 5, 2, 0, 0, 0)], some (.invokestatic 74, 3, 120, 3, 0)),
  (55, [], some (.ifCond .ne 7, 3, 0, 0, 0)),
  (58, [(.iload_n 3, 1, 0, 0, 0)], some (.goto 26, 3, 0, 0, 0)),
  (62, [(.iload 4, 2, 0, 0, 0)], some (.ifCond .lt 19, 3, 0, 0, 0)),
  (67, [(.aload_n 0, 1, 0, 0, 0), (.iload 4, 2, 0, 0, 0), (.iload 5, 2, 0, 0, 0)], some (.invokestatic 74, 3, 120, 3, 0)),
  (75, [], some (.ifCond .ne 8, 3, 0, 0, 0)),
  (78, [(.iload 4, 2, 0, 0, 0)], some (.goto 5, 3, 0, 0, 0)),
  (83, [(.bipush (-4), 2, 4, 1, 0)], none),
  (85, [], some (.ireturn, 1, 0, 0, 0))]
def iX4_knightIdea : MI := (yX4_knightIdea, cX4_knightIdea, 6, (some .int), 3, 2, bX4_knightIdea)
abbrev jX4_slideIdea : Nat := 125
def bX4_slideIdea : List Blk := [(0, [(.aload_n 0, 1, 0, 0, 0), (.iload_n 1, 1, 0, 0, 0), (.iconst 3, 1, 3, 0, 0)], some (.invokestatic 51, 3, 109, 2, 0)),
  (6, [(.iaload, 1, 0, 0, 0), (.istore 4, 2, 0, 0, 0), (.bipush (-4), 2, 4, 1, 0), (.istore 5, 2, 0, 0, 0), (.iconst 1, 1, 1, 0, 0), (.istore 6, 2, 0, 0, 0)], none),
  (16, [(.iload 6, 2, 0, 0, 0), (.bipush 6, 2, 6, 0, 0)], some (.if_icmp .ge 61, 3, 0, 0, 0)),
  (23, [(.iload 4, 2, 0, 0, 0), (.iload_n 2, 1, 0, 0, 0), (.iload 6, 2, 0, 0, 0), (.imul, 1, 0, 0, 0), (.iload_n 3, 1, 0, 0, 0), (.iload 6, 2, 0, 0, 0), (.imul, 1, 0, 0, 0)], some (.invokestatic 66, 3, 118, 3, 0)),
  (36, [(.istore 7, 2, 0, 0, 0), (.aload_n 0, 1, 0, 0, 0), (.iload 7, 2, 0, 0, 0), (.iconst 1, 1, 1, 0, 0), (.aload_n 0, 1, 0, 0, 0), (.iload_n 1, 1, 0, 0, 0), (.iconst 2, 1, 2, 0, 0)], some (.invokestatic 51, 3, 109, 2, 0)),
  (48, [(.iaload, 1, 0, 0, 0), (.isub, 1, 0, 0, 0)], some (.invokestatic 74, 3, 120, 3, 0)),
  (53, [], some (.ifCond .eq 6, 3, 0, 0, 0)),
  (56, [(.iload 7, 2, 0, 0, 0)], some (.ireturn, 1, 0, 0, 0)),
  (59, [(.aload_n 0, 1, 0, 0, 0), (.iload 7, 2, 0, 0, 0)], some (.invokestatic 70, 3, 119, 2, 0)),
  (65, [], some (.ifCond .ne 6, 3, 0, 0, 0)),
  (68, [(.iload 5, 2, 0, 0, 0)], some (.ireturn, 1, 0, 0, 0)),
  (71, [(.iload 7, 2, 0, 0, 0), (.istore 5, 2, 0, 0, 0), (.iinc 6 1, 3, 1, 0, 0)], some (.goto (-62), 3, 0, 0, 0)),
  (81, [(.iload 5, 2, 0, 0, 0)], some (.ireturn, 1, 0, 0, 0))]
def iX4_slideIdea : MI := (yX4_slideIdea, cX4_slideIdea, 8, (some .int), 3, 4, bX4_slideIdea)
abbrev jX4_bishopIdea : Nat := 126
def bX4_bishopIdea : List Blk := [(0, [(.aload_n 0, 1, 0, 0, 0), (.iload_n 1, 1, 0, 0, 0), (.iconst 3, 1, 3, 0, 0)], some (.invokestatic 51, 3, 109, 2, 0)),
  (6, [(.iaload, 1, 0, 0, 0), (.aload_n 0, 1, 0, 0, 0), (.iload_n 1, 1, 0, 0, 0)], some (.invokestatic 63, 3, 122, 2, 0)),
  (12, [(.iconst 1, 1, 1, 0, 0)], some (.invokestatic 66, 3, 118, 3, 0)),
  (16, [(.istore_n 3, 1, 0, 0, 0), (.iload_n 3, 1, 0, 0, 0)], some (.ifCond .lt 36, 3, 0, 0, 0)),
  (21, [(.aload_n 0, 1, 0, 0, 0), (.iload_n 3, 1, 0, 0, 0), (.aload_n 0, 1, 0, 0, 0), (.iload_n 1, 1, 0, 0, 0), (.iconst 2, 1, 2, 0, 0)], some (.invokestatic 51, 3, 109, 2, 0)),
  (29, [(.iaload, 1, 0, 0, 0)], some (.invokestatic 74, 3, 120, 3, 0)),
  (33, [], some (.ifCond .ne 21, 3, 0, 0, 0)),
  (36, [(.iload_n 2, 1, 0, 0, 0), (.aload_n 0, 1, 0, 0, 0), (.iload_n 1, 1, 0, 0, 0), (.iconst 1, 1, 1, 0, 0)], some (.invokestatic 51, 3, 109, 2, 0)),
  (43, [(.iaload, 1, 0, 0, 0), (.iconst 2, 1, 2, 0, 0), (.iadd, 1, 0, 0, 0), (.irem, 1, 0, 0, 0)], some (.ifCond .ne 7, 3, 0, 0, 0)),
  (50, [(.iload_n 3, 1, 0, 0, 0)], some (.goto 5, 3, 0, 0, 0)),
  (54, [(.bipush (-4), 2, 4, 1, 0)], none),
  (56, [], some (.ireturn, 1, 0, 0, 0))]
def iX4_bishopIdea : MI := (yX4_bishopIdea, cX4_bishopIdea, 4, (some .int), 3, 3, bX4_bishopIdea)
abbrev jX4_kingIdea : Nat := 127
def bX4_kingIdea : List Blk := [(0, [(.aload_n 0, 1, 0, 0, 0), (.iload_n 1, 1, 0, 0, 0), (.iconst 3, 1, 3, 0, 0)], some (.invokestatic 51, 3, 109, 2, 0)),
  (6, [(.iaload, 1, 0, 0, 0), (.aload_n 0, 1, 0, 0, 0), (.iload_n 1, 1, 0, 0, 0)], some (.invokestatic 63, 3, 122, 2, 0)),
  (12, [(.ineg, 1, 0, 0, 0), (.iconst 0, 1, 0, 0, 0)], some (.invokestatic 66, 3, 118, 3, 0)),
  (17, [(.istore_n 2, 1, 0, 0, 0), (.aload_n 0, 1, 0, 0, 0), (.iload_n 2, 1, 0, 0, 0)], some (.invokestatic 70, 3, 119, 2, 0)),
  (23, [], some (.ifCond .ne 6, 3, 0, 0, 0)),
  (26, [(.bipush (-4), 2, 4, 1, 0)], some (.ireturn, 1, 0, 0, 0)),
  (29, [(.iconst 0, 1, 0, 0, 0), (.istore_n 3, 1, 0, 0, 0)], none),
  (31, [(.iload_n 3, 1, 0, 0, 0), (.aload_n 0, 1, 0, 0, 0), (.iconst 0, 1, 0, 0, 0), (.iaload, 1, 0, 0, 0)], some (.if_icmp .ge 57, 3, 0, 0, 0)),
  (38, [(.aload_n 0, 1, 0, 0, 0), (.iload_n 3, 1, 0, 0, 0)], some (.invokestatic 78, 3, 114, 2, 0)),
  (43, [], some (.ifCond .eq 43, 3, 0, 0, 0)),
  (46, [(.aload_n 0, 1, 0, 0, 0), (.iload_n 3, 1, 0, 0, 0), (.iconst 2, 1, 2, 0, 0)], some (.invokestatic 51, 3, 109, 2, 0)),
  (52, [(.iaload, 1, 0, 0, 0), (.aload_n 0, 1, 0, 0, 0), (.iload_n 1, 1, 0, 0, 0), (.iconst 2, 1, 2, 0, 0)], some (.invokestatic 51, 3, 109, 2, 0)),
  (59, [(.iaload, 1, 0, 0, 0)], some (.if_icmp .eq 26, 3, 0, 0, 0)),
  (63, [(.aload_n 0, 1, 0, 0, 0), (.iload_n 3, 1, 0, 0, 0), (.iconst 3, 1, 3, 0, 0)], some (.invokestatic 51, 3, 109, 2, 0)),
  (69, [(.iaload, 1, 0, 0, 0), (.aload_n 0, 1, 0, 0, 0), (.iload_n 1, 1, 0, 0, 0), (.iconst 3, 1, 3, 0, 0)], some (.invokestatic 51, 3, 109, 2, 0)),
  (76, [(.iaload, 1, 0, 0, 0)], some (.invokestatic 81, 3, 121, 2, 0)),
  (80, [(.iconst 1, 1, 1, 0, 0)], some (.if_icmp .gt 5, 3, 0, 0, 0)),
  (84, [(.iload_n 2, 1, 0, 0, 0)], some (.ireturn, 1, 0, 0, 0)),
  (86, [(.iinc 3 1, 3, 1, 0, 0)], some (.goto (-58), 3, 0, 0, 0)),
  (92, [(.bipush (-4), 2, 4, 1, 0)], some (.ireturn, 1, 0, 0, 0))]
def iX4_kingIdea : MI := (yX4_kingIdea, cX4_kingIdea, 4, (some .int), 3, 2, bX4_kingIdea)
abbrev jX4_idea : Nat := 128
def bX4_idea : List Blk := [(0, [(.aload_n 0, 1, 0, 0, 0), (.iload_n 1, 1, 0, 0, 0)], some (.invokestatic 78, 3, 114, 2, 0)),
  (5, [], some (.ifCond .eq 13, 3, 0, 0, 0)),
  (8, [(.aload_n 0, 1, 0, 0, 0), (.iconst 4, 1, 4, 0, 0), (.iaload, 1, 0, 0, 0), (.iload_n 1, 1, 0, 0, 0)], some (.invokestatic 84, 3, 115, 2, 0)),
  (15, [], some (.ifCond .eq 6, 3, 0, 0, 0)),
  (18, [(.bipush (-4), 2, 4, 1, 0)], some (.ireturn, 1, 0, 0, 0)),
  (21, [(.aload_n 0, 1, 0, 0, 0), (.iload_n 1, 1, 0, 0, 0)], some (.invokestatic 63, 3, 122, 2, 0)),
  (26, [(.istore_n 3, 1, 0, 0, 0), (.aload_n 0, 1, 0, 0, 0), (.iload_n 1, 1, 0, 0, 0), (.iconst 3, 1, 3, 0, 0)], some (.invokestatic 51, 3, 109, 2, 0)),
  (33, [(.iaload, 1, 0, 0, 0), (.iconst 0, 1, 0, 0, 0), (.iconst (-1), 1, 1, 1, 0)], some (.invokestatic 66, 3, 118, 3, 0)),
  (39, [(.istore 4, 2, 0, 0, 0), (.aload_n 0, 1, 0, 0, 0), (.iload_n 1, 1, 0, 0, 0), (.iconst 0, 1, 0, 0, 0)], some (.invokestatic 51, 3, 109, 2, 0)),
  (47, [(.iaload, 1, 0, 0, 0)], some (.tableswitch 120 1 7 #[44, 50, 58, 65, 93, 50, 99], 44, 0, 0, 0)),
  (92, [(.aload_n 0, 1, 0, 0, 0), (.iload_n 1, 1, 0, 0, 0)], some (.invokestatic 88, 3, 124, 2, 0)),
  (97, [], some (.ireturn, 1, 0, 0, 0)),
  (98, [(.aload_n 0, 1, 0, 0, 0), (.iload_n 1, 1, 0, 0, 0), (.iload_n 3, 1, 0, 0, 0), (.iconst 0, 1, 0, 0, 0)], some (.invokestatic 91, 3, 125, 4, 0)),
  (105, [], some (.ireturn, 1, 0, 0, 0)),
  (106, [(.aload_n 0, 1, 0, 0, 0), (.iload_n 1, 1, 0, 0, 0), (.iload_n 2, 1, 0, 0, 0)], some (.invokestatic 95, 3, 126, 3, 0)),
  (112, [], some (.ireturn, 1, 0, 0, 0)),
  (113, [(.aload_n 0, 1, 0, 0, 0), (.iload_n 1, 1, 0, 0, 0), (.iload_n 3, 1, 0, 0, 0), (.iconst 0, 1, 0, 0, 0)], some (.invokestatic 91, 3, 125, 4, 0)),
  (120, [], some (.ifCond .lt 13, 3, 0, 0, 0)),
  (123, [(.aload_n 0, 1, 0, 0, 0), (.iload_n 1, 1, 0, 0, 0), (.iload_n 3, 1, 0, 0, 0), (.iconst 0, 1, 0, 0, 0)], some (.invokestatic 91, 3, 125, 4, 0)),
  (130, [], some (.goto 10, 3, 0, 0, 0)),
  (133, [(.aload_n 0, 1, 0, 0, 0), (.iload_n 1, 1, 0, 0, 0), (.iconst 0, 1, 0, 0, 0), (.iconst 1, 1, 1, 0, 0)], some (.invokestatic 91, 3, 125, 4, 0)),
  (140, [], some (.ireturn, 1, 0, 0, 0)),
  (141, [(.aload_n 0, 1, 0, 0, 0), (.iload_n 1, 1, 0, 0, 0)], some (.invokestatic 99, 3, 127, 2, 0)),
  (146, [], some (.ireturn, 1, 0, 0, 0)),
  (147, [(.aload_n 0, 1, 0, 0, 0), (.iload 4, 2, 0, 0, 0)], some (.invokestatic 70, 3, 119, 2, 0)),
  (153, [], some (.ifCond .eq 8, 3, 0, 0, 0)),
  (156, [(.iload 4, 2, 0, 0, 0)], some (.goto 9, 3, 0, 0, 0)),
  (161, [(.aload_n 0, 1, 0, 0, 0), (.iload_n 1, 1, 0, 0, 0), (.iload_n 2, 1, 0, 0, 0)], some (.invokestatic 95, 3, 126, 3, 0)),
  (167, [], some (.ireturn, 1, 0, 0, 0)),
  (168, [(.aload_n 0, 1, 0, 0, 0), (.iload_n 1, 1, 0, 0, 0)], some (.invokestatic 102, 3, 123, 2, 0)),
  (173, [], some (.ireturn, 1, 0, 0, 0))]
def iX4_idea : MI := (yX4_idea, cX4_idea, 5, (some .int), 3, 3, bX4_idea)
abbrev jX4_earsBy : Nat := 129
def bX4_earsBy : List Blk := [(0, [(.iload_n 0, 1, 0, 0, 0)], some (.tableswitch 57 1 7 #[43, 45, 47, 49, 53, 55, 47], 43, 0, 0, 0)),
  (44, [(.iconst 3, 1, 3, 0, 0)], some (.ireturn, 1, 0, 0, 0)),
  (46, [(.iload_n 1, 1, 0, 0, 0)], some (.ireturn, 1, 0, 0, 0)),
  (48, [(.iconst 4, 1, 4, 0, 0)], some (.ireturn, 1, 0, 0, 0)),
  (50, [(.iload_n 1, 1, 0, 0, 0), (.iconst 3, 1, 3, 0, 0), (.iadd, 1, 0, 0, 0)], some (.ireturn, 1, 0, 0, 0)),
  (54, [(.iconst 5, 1, 5, 0, 0)], some (.ireturn, 1, 0, 0, 0)),
  (56, [(.iconst 0, 1, 0, 0, 0)], some (.ireturn, 1, 0, 0, 0)),
  (58, [(.iconst 2, 1, 2, 0, 0)], some (.ireturn, 1, 0, 0, 0))]
def iX4_earsBy : MI := (yX4_earsBy, cX4_earsBy, 2, (some .int), 3, 2, bX4_earsBy)
abbrev jX4_worthBy : Nat := 130
def bX4_worthBy : List Blk := [(0, [(.iload_n 0, 1, 0, 0, 0)], some (.tableswitch 58 1 7 #[43, 45, 47, 53, 53, 56, 47], 43, 0, 0, 0)),
  (44, [(.iconst 3, 1, 3, 0, 0)], some (.ireturn, 1, 0, 0, 0)),
  (46, [(.iconst 5, 1, 5, 0, 0)], some (.ireturn, 1, 0, 0, 0)),
  (48, [(.iconst 1, 1, 1, 0, 0), (.iload_n 1, 1, 0, 0, 0), (.iconst 3, 1, 3, 0, 0), (.idiv, 1, 0, 0, 0), (.iadd, 1, 0, 0, 0)], some (.ireturn, 1, 0, 0, 0)),
  (54, [(.bipush 9, 2, 9, 0, 0)], some (.ireturn, 1, 0, 0, 0)),
  (57, [(.iconst 4, 1, 4, 0, 0)], some (.ireturn, 1, 0, 0, 0)),
  (59, [(.iconst 1, 1, 1, 0, 0)], some (.ireturn, 1, 0, 0, 0))]
def iX4_worthBy : MI := (yX4_worthBy, cX4_worthBy, 2, (some .int), 3, 2, bX4_worthBy)
abbrev jX4_doesHear : Nat := 131
def bX4_doesHear : List Blk := [(0, [(.iload_n 1, 1, 0, 0, 0), (.iload_n 2, 1, 0, 0, 0)], some (.if_icmp .ne 5, 3, 0, 0, 0)),
  (5, [(.iconst 1, 1, 1, 0, 0)], some (.ireturn, 1, 1, 0, 0)),
  (7, [(.aload_n 0, 1, 0, 0, 0), (.iconst 5, 1, 5, 0, 0), (.iaload, 1, 0, 0, 0), (.iconst 1, 1, 1, 0, 0)], some (.if_icmp .ne 7, 3, 0, 0, 0)),
  (14, [(.iconst 1, 1, 1, 0, 0)], some (.goto 20, 3, 0, 0, 0)),
  (18, [(.aload_n 0, 1, 0, 0, 0), (.iload_n 1, 1, 0, 0, 0), (.iconst 0, 1, 0, 0, 0)], some (.invokestatic 51, 3, 109, 2, 0)),
  (24, [(.iaload, 1, 0, 0, 0), (.aload_n 0, 1, 0, 0, 0), (.iload_n 1, 1, 0, 0, 0), (.iconst 1, 1, 1, 0, 0)], some (.invokestatic 51, 3, 109, 2, 0)),
  (31, [(.iaload, 1, 0, 0, 0)], some (.invokestatic 105, 3, 129, 2, 0)),
  (35, [(.istore_n 3, 1, 0, 0, 0), (.aload_n 0, 1, 0, 0, 0), (.iload_n 1, 1, 0, 0, 0)], some (.invokestatic 78, 3, 114, 2, 0)),
  (41, [], some (.ifCond .eq 53, 3, 0, 0, 0)),
  (44, [(.aload_n 0, 1, 0, 0, 0), (.iload_n 2, 1, 0, 0, 0)], some (.invokestatic 78, 3, 114, 2, 0)),
  (49, [], some (.ifCond .eq 45, 3, 0, 0, 0)),
  (52, [(.aload_n 0, 1, 0, 0, 0), (.iload_n 1, 1, 0, 0, 0), (.iconst 2, 1, 2, 0, 0)], some (.invokestatic 51, 3, 109, 2, 0)),
  (58, [(.iaload, 1, 0, 0, 0), (.aload_n 0, 1, 0, 0, 0), (.iload_n 2, 1, 0, 0, 0), (.iconst 2, 1, 2, 0, 0)], some (.invokestatic 51, 3, 109, 2, 0)),
  (65, [(.iaload, 1, 0, 0, 0)], some (.if_icmp .ne 28, 3, 0, 0, 0)),
  (69, [(.aload_n 0, 1, 0, 0, 0), (.iload_n 1, 1, 0, 0, 0), (.iconst 3, 1, 3, 0, 0)], some (.invokestatic 51, 3, 109, 2, 0)),
  (75, [(.iaload, 1, 0, 0, 0), (.aload_n 0, 1, 0, 0, 0), (.iload_n 2, 1, 0, 0, 0), (.iconst 3, 1, 3, 0, 0)], some (.invokestatic 51, 3, 109, 2, 0)),
  (82, [(.iaload, 1, 0, 0, 0)], some (.invokestatic 81, 3, 121, 2, 0)),
  (86, [(.iload_n 3, 1, 0, 0, 0)], some (.if_icmp .gt 7, 3, 0, 0, 0)),
  (90, [(.iconst 1, 1, 1, 0, 0)], some (.goto 4, 3, 0, 0, 0)),
  (94, [(.iconst 0, 1, 0, 0, 0)], none),
  (95, [], some (.ireturn, 1, 1, 0, 0))]
def iX4_doesHear : MI := (yX4_doesHear, cX4_doesHear, 4, (some .boolean), 3, 3, bX4_doesHear)
abbrev jX4_heardBy : Nat := 132
def bX4_heardBy : List Blk := [(0, [(.iconst 0, 1, 0, 0, 0), (.istore_n 2, 1, 0, 0, 0), (.iconst 0, 1, 0, 0, 0), (.istore_n 3, 1, 0, 0, 0)], none),
  (4, [(.iload_n 3, 1, 0, 0, 0), (.aload_n 0, 1, 0, 0, 0), (.iconst 0, 1, 0, 0, 0), (.iaload, 1, 0, 0, 0)], some (.if_icmp .ge 28, 3, 0, 0, 0)),
  (11, [(.iload_n 2, 1, 0, 0, 0), (.aload_n 0, 1, 0, 0, 0), (.iload_n 3, 1, 0, 0, 0), (.iload_n 1, 1, 0, 0, 0)], some (.invokestatic 108, 3, 131, 3, 0)),
  (18, [], some (.ifCond .eq 9, 3, 0, 0, 0)),
  (21, [(.iconst 1, 1, 1, 0, 0), (.iload_n 3, 1, 0, 0, 0), (.ishl, 1, 0, 0, 0)], some (.goto 4, 3, 0, 0, 0)),
  (27, [(.iconst 0, 1, 0, 0, 0)], none),
  (28, [(.ior, 1, 0, 0, 0), (.istore_n 2, 1, 0, 0, 0), (.iinc 3 1, 3, 1, 0, 0)], some (.goto (-29), 3, 0, 0, 0)),
  (36, [(.iload_n 2, 1, 0, 0, 0)], some (.ireturn, 1, 0, 0, 0))]
def iX4_heardBy : MI := (yX4_heardBy, cX4_heardBy, 4, (some .int), 3, 2, bX4_heardBy)
abbrev jX4_hereIn : Nat := 133
def bX4_hereIn : List Blk := [(0, [(.iconst 0, 1, 0, 0, 0), (.istore_n 1, 1, 0, 0, 0), (.iconst 0, 1, 0, 0, 0), (.istore_n 2, 1, 0, 0, 0)], none),
  (4, [(.iload_n 2, 1, 0, 0, 0), (.aload_n 0, 1, 0, 0, 0), (.iconst 0, 1, 0, 0, 0), (.iaload, 1, 0, 0, 0)], some (.if_icmp .ge 27, 3, 0, 0, 0)),
  (11, [(.iload_n 1, 1, 0, 0, 0), (.aload_n 0, 1, 0, 0, 0), (.iload_n 2, 1, 0, 0, 0)], some (.invokestatic 78, 3, 114, 2, 0)),
  (17, [], some (.ifCond .eq 9, 3, 0, 0, 0)),
  (20, [(.iconst 1, 1, 1, 0, 0), (.iload_n 2, 1, 0, 0, 0), (.ishl, 1, 0, 0, 0)], some (.goto 4, 3, 0, 0, 0)),
  (26, [(.iconst 0, 1, 0, 0, 0)], none),
  (27, [(.ior, 1, 0, 0, 0), (.istore_n 1, 1, 0, 0, 0), (.iinc 2 1, 3, 1, 0, 0)], some (.goto (-28), 3, 0, 0, 0)),
  (35, [(.iload_n 1, 1, 0, 0, 0)], some (.ireturn, 1, 0, 0, 0))]
def iX4_hereIn : MI := (yX4_hereIn, cX4_hereIn, 3, (some .int), 3, 1, bX4_hereIn)
abbrev jX4_ofSide : Nat := 134
def bX4_ofSide : List Blk := [(0, [(.iconst 0, 1, 0, 0, 0), (.istore_n 2, 1, 0, 0, 0), (.iconst 0, 1, 0, 0, 0), (.istore_n 3, 1, 0, 0, 0)], none),
  (4, [(.iload_n 3, 1, 0, 0, 0), (.aload_n 0, 1, 0, 0, 0), (.iconst 0, 1, 0, 0, 0), (.iaload, 1, 0, 0, 0)], some (.if_icmp .ge 38, 3, 0, 0, 0)),
  (11, [(.iload_n 2, 1, 0, 0, 0), (.aload_n 0, 1, 0, 0, 0), (.iload_n 3, 1, 0, 0, 0)], some (.invokestatic 78, 3, 114, 2, 0)),
  (17, [], some (.ifCond .eq 20, 3, 0, 0, 0)),
  (20, [(.aload_n 0, 1, 0, 0, 0), (.iload_n 3, 1, 0, 0, 0), (.iconst 2, 1, 2, 0, 0)], some (.invokestatic 51, 3, 109, 2, 0)),
  (26, [(.iaload, 1, 0, 0, 0), (.iload_n 1, 1, 0, 0, 0)], some (.if_icmp .ne 9, 3, 0, 0, 0)),
  (31, [(.iconst 1, 1, 1, 0, 0), (.iload_n 3, 1, 0, 0, 0), (.ishl, 1, 0, 0, 0)], some (.goto 4, 3, 0, 0, 0)),
  (37, [(.iconst 0, 1, 0, 0, 0)], none),
  (38, [(.ior, 1, 0, 0, 0), (.istore_n 2, 1, 0, 0, 0), (.iinc 3 1, 3, 1, 0, 0)], some (.goto (-39), 3, 0, 0, 0)),
  (46, [(.iload_n 2, 1, 0, 0, 0)], some (.ireturn, 1, 0, 0, 0))]
def iX4_ofSide : MI := (yX4_ofSide, cX4_ofSide, 4, (some .int), 3, 2, bX4_ofSide)
abbrev jX4_worthOf : Nat := 135
def bX4_worthOf : List Blk := [(0, [(.iconst 0, 1, 0, 0, 0), (.istore_n 2, 1, 0, 0, 0), (.iconst 0, 1, 0, 0, 0), (.istore_n 3, 1, 0, 0, 0)], none),
  (4, [(.iload_n 3, 1, 0, 0, 0), (.aload_n 0, 1, 0, 0, 0), (.iconst 0, 1, 0, 0, 0), (.iaload, 1, 0, 0, 0)], some (.if_icmp .ge 41, 3, 0, 0, 0)),
  (11, [(.iload_n 2, 1, 0, 0, 0), (.iload_n 1, 1, 0, 0, 0), (.iload_n 3, 1, 0, 0, 0)], some (.invokestatic 84, 3, 115, 2, 0)),
  (17, [], some (.ifCond .eq 23, 3, 0, 0, 0)),
  (20, [(.aload_n 0, 1, 0, 0, 0), (.iload_n 3, 1, 0, 0, 0), (.iconst 0, 1, 0, 0, 0)], some (.invokestatic 51, 3, 109, 2, 0)),
  (26, [(.iaload, 1, 0, 0, 0), (.aload_n 0, 1, 0, 0, 0), (.iload_n 3, 1, 0, 0, 0), (.iconst 1, 1, 1, 0, 0)], some (.invokestatic 51, 3, 109, 2, 0)),
  (33, [(.iaload, 1, 0, 0, 0)], some (.invokestatic 111, 3, 130, 2, 0)),
  (37, [], some (.goto 4, 3, 0, 0, 0)),
  (40, [(.iconst 0, 1, 0, 0, 0)], none),
  (41, [(.iadd, 1, 0, 0, 0), (.istore_n 2, 1, 0, 0, 0), (.iinc 3 1, 3, 1, 0, 0)], some (.goto (-42), 3, 0, 0, 0)),
  (49, [(.iload_n 2, 1, 0, 0, 0)], some (.ireturn, 1, 0, 0, 0))]
def iX4_worthOf : MI := (yX4_worthOf, cX4_worthOf, 4, (some .int), 3, 2, bX4_worthOf)
abbrev jX4_goesOn : Nat := 136
def bX4_goesOn : List Blk := [(0, [(.bipush (-4), 2, 4, 1, 0), (.istore_n 2, 1, 0, 0, 0), (.aload_n 0, 1, 0, 0, 0), (.aload_n 0, 1, 0, 0, 0), (.iconst 2, 1, 2, 0, 0), (.iaload, 1, 0, 0, 0)], some (.invokestatic 114, 3, 134, 2, 0)),
  (10, [(.istore_n 3, 1, 0, 0, 0), (.iconst 0, 1, 0, 0, 0), (.istore 4, 2, 0, 0, 0)], none),
  (14, [(.iload 4, 2, 0, 0, 0), (.aload_n 0, 1, 0, 0, 0), (.iconst 0, 1, 0, 0, 0), (.iaload, 1, 0, 0, 0)], some (.if_icmp .ge 55, 3, 0, 0, 0)),
  (22, [(.iload_n 3, 1, 0, 0, 0), (.iload 4, 2, 0, 0, 0)], some (.invokestatic 84, 3, 115, 2, 0)),
  (28, [], some (.ifCond .eq 40, 3, 0, 0, 0)),
  (31, [(.aload_n 0, 1, 0, 0, 0), (.iload 4, 2, 0, 0, 0), (.iload_n 1, 1, 0, 0, 0)], some (.invokestatic 117, 3, 128, 3, 0)),
  (38, [], some (.ifCond .lt 30, 3, 0, 0, 0)),
  (41, [(.iload_n 2, 1, 0, 0, 0)], some (.ifCond .lt 23, 3, 0, 0, 0)),
  (45, [(.aload_n 0, 1, 0, 0, 0), (.iload 4, 2, 0, 0, 0)], some (.invokestatic 120, 3, 132, 2, 0)),
  (51, [], some (.invokestatic 123, 3, 116, 1, 0)),
  (54, [(.aload_n 0, 1, 0, 0, 0), (.iload_n 2, 1, 0, 0, 0)], some (.invokestatic 120, 3, 132, 2, 0)),
  (59, [], some (.invokestatic 123, 3, 116, 1, 0)),
  (62, [], some (.if_icmp .le 6, 3, 0, 0, 0)),
  (65, [(.iload 4, 2, 0, 0, 0), (.istore_n 2, 1, 0, 0, 0)], none),
  (68, [(.iinc 4 1, 3, 1, 0, 0)], some (.goto (-57), 3, 0, 0, 0)),
  (74, [(.iload_n 2, 1, 0, 0, 0)], some (.ifCond .lt 24, 3, 0, 0, 0)),
  (78, [(.iconst 2, 1, 2, 0, 0), (.aload_n 0, 1, 0, 0, 0), (.iload_n 2, 1, 0, 0, 0)], some (.invokestatic 120, 3, 132, 2, 0)),
  (84, [], some (.invokestatic 123, 3, 116, 1, 0)),
  (87, [(.imul, 1, 0, 0, 0), (.iload_n 3, 1, 0, 0, 0)], some (.invokestatic 123, 3, 116, 1, 0)),
  (92, [], some (.if_icmp .le 7, 3, 0, 0, 0)),
  (95, [(.iload_n 2, 1, 0, 0, 0)], some (.goto 5, 3, 0, 0, 0)),
  (99, [(.bipush (-4), 2, 4, 1, 0)], none),
  (101, [], some (.ireturn, 1, 0, 0, 0))]
def iX4_goesOn : MI := (yX4_goesOn, cX4_goesOn, 5, (some .int), 3, 2, bX4_goesOn)
abbrev jX4_day : Nat := 137
def bX4_day : List Blk := [(0, [(.aload_n 0, 1, 0, 0, 0), (.iconst 1, 1, 1, 0, 0), (.dup2, 1, 0, 0, 0), (.iaload, 1, 0, 0, 0), (.iconst 1, 1, 1, 0, 0), (.iadd, 1, 0, 0, 0), (.iastore, 1, 0, 0, 0), (.aload_n 0, 1, 0, 0, 0), (.aload_n 0, 1, 0, 0, 0), (.iconst 1, 1, 1, 0, 0), (.iaload, 1, 0, 0, 0)], some (.invokestatic 126, 3, 136, 2, 0)),
  (14, [(.istore_n 1, 1, 0, 0, 0), (.iload_n 1, 1, 0, 0, 0)], some (.ifCond .ge 20, 3, 0, 0, 0)),
  (19, [(.aload_n 0, 1, 0, 0, 0), (.iconst 3, 1, 3, 0, 0), (.sipush 9999, 3, 9999, 0, 0), (.aload_n 0, 1, 0, 0, 0), (.iconst 3, 1, 3, 0, 0), (.iaload, 1, 0, 0, 0), (.iconst 1, 1, 1, 0, 0), (.iadd, 1, 0, 0, 0)], some (.invokestatic 129, 3, 107, 2, 0)),
  (32, [(.iastore, 1, 0, 0, 0)], some (.goto 39, 3, 0, 0, 0)),
  (36, [(.aload_n 0, 1, 0, 0, 0), (.iload_n 1, 1, 0, 0, 0), (.aload_n 0, 1, 0, 0, 0), (.iconst 1, 1, 1, 0, 0), (.iaload, 1, 0, 0, 0)], some (.invokestatic 117, 3, 128, 3, 0)),
  (44, [(.istore_n 2, 1, 0, 0, 0), (.aload_n 0, 1, 0, 0, 0), (.iload_n 2, 1, 0, 0, 0)], some (.invokestatic 55, 3, 117, 2, 0)),
  (50, [(.istore_n 3, 1, 0, 0, 0), (.iload_n 3, 1, 0, 0, 0)], some (.ifCond .lt 12, 3, 0, 0, 0)),
  (55, [(.aload_n 0, 1, 0, 0, 0), (.iload_n 3, 1, 0, 0, 0), (.iconst 3, 1, 3, 0, 0)], some (.invokestatic 51, 3, 109, 2, 0)),
  (61, [(.bipush (-4), 2, 4, 1, 0), (.iastore, 1, 0, 0, 0)], none),
  (64, [(.aload_n 0, 1, 0, 0, 0), (.iload_n 1, 1, 0, 0, 0), (.iconst 3, 1, 3, 0, 0)], some (.invokestatic 51, 3, 109, 2, 0)),
  (70, [(.iload_n 2, 1, 0, 0, 0), (.iastore, 1, 0, 0, 0)], none),
  (72, [(.aload_n 0, 1, 0, 0, 0), (.iconst 2, 1, 2, 0, 0), (.iconst 1, 1, 1, 0, 0), (.aload_n 0, 1, 0, 0, 0), (.iconst 2, 1, 2, 0, 0), (.iaload, 1, 0, 0, 0), (.isub, 1, 0, 0, 0), (.iastore, 1, 0, 0, 0)], some (.return_, 1, 0, 0, 0))]
def iX4_day : MI := (yX4_day, cX4_day, 4, none, 3, 1, bX4_day)
abbrev jX4_daysOn : Nat := 138
def bX4_daysOn : List Blk := [(0, [(.iconst 0, 1, 0, 0, 0), (.istore_n 2, 1, 0, 0, 0)], none),
  (2, [(.iload_n 2, 1, 0, 0, 0), (.iload_n 1, 1, 0, 0, 0)], some (.if_icmp .ge 13, 3, 0, 0, 0)),
  (7, [(.aload_n 0, 1, 0, 0, 0)], some (.invokestatic 132, 3, 137, 1, 0)),
  (11, [(.iinc 2 1, 3, 1, 0, 0)], some (.goto (-12), 3, 0, 0, 0)),
  (17, [], some (.return_, 1, 0, 0, 0))]
def iX4_daysOn : MI := (yX4_daysOn, cX4_daysOn, 3, none, 3, 2, bX4_daysOn)
abbrev jX4_here : Nat := 139
def bX4_here : List Blk := [(0, [(.aload_n 0, 1, 0, 0, 0), (.getfield 136, 3, 3, 5, 0), (.aload_n 0, 1, 0, 0, 0), (.getfield 140, 3, 3, 7, 0)], some (.if_icmp .ge 24, 3, 0, 0, 0)),
  (11, [(.aload_n 0, 1, 0, 0, 0), (.getfield 40, 3, 3, 15, 0), (.aload_n 0, 1, 0, 0, 0), (.getfield 143, 3, 3, 6, 0), (.aload_n 0, 1, 0, 0, 0), (.getfield 136, 3, 3, 5, 0), (.iadd, 1, 0, 0, 0), (.iaload, 1, 0, 0, 0), (.sipush 255, 3, 255, 0, 0), (.iand, 1, 0, 0, 0)], some (.goto 4, 3, 0, 0, 0)),
  (32, [(.iconst (-1), 1, 1, 1, 0)], none),
  (33, [], some (.ireturn, 1, 0, 0, 0))]
def iX4_here : MI := (yX4_here, cX4_here, 1, (some .int), 3, 1, bX4_here)
abbrev jX4_readsNumber : Nat := 140
def bX4_readsNumber : List Blk := [(0, [(.aload_n 0, 1, 0, 0, 0), (.getfield 22, 3, 3, 8, 0), (.iload_n 1, 1, 0, 0, 0), (.iconst 0, 1, 0, 0, 0), (.iastore, 1, 0, 0, 0), (.iconst 0, 1, 0, 0, 0), (.istore_n 3, 1, 0, 0, 0)], none),
  (9, [(.iload_n 3, 1, 0, 0, 0), (.iload_n 2, 1, 0, 0, 0)], some (.if_icmp .ge 58, 3, 0, 0, 0)),
  (14, [(.aload_n 0, 1, 0, 0, 0)], some (.invokevirtual 146, 3, 139, 1, 3)),
  (18, [(.bipush 48, 2, 48, 0, 0), (.bipush 57, 2, 57, 0, 0)], some (.invokestatic 43, 3, 105, 3, 0)),
  (25, [], some (.ifCond .ne 5, 3, 0, 0, 0)),
  (28, [(.iconst 0, 1, 0, 0, 0)], some (.ireturn, 1, 1, 0, 0)),
  (30, [(.aload_n 0, 1, 0, 0, 0), (.getfield 22, 3, 3, 8, 0), (.iload_n 1, 1, 0, 0, 0), (.bipush 10, 2, 10, 0, 0), (.aload_n 0, 1, 0, 0, 0), (.getfield 22, 3, 3, 8, 0), (.iload_n 1, 1, 0, 0, 0), (.iaload, 1, 0, 0, 0), (.imul, 1, 0, 0, 0), (.aload_n 0, 1, 0, 0, 0)], some (.invokevirtual 146, 3, 139, 1, 3)),
  (48, [(.iadd, 1, 0, 0, 0), (.bipush 48, 2, 48, 0, 0), (.isub, 1, 0, 0, 0), (.iastore, 1, 0, 0, 0), (.aload_n 0, 1, 0, 0, 0), (.dup, 1, 0, 0, 0), (.getfield 136, 3, 3, 5, 0), (.iconst 1, 1, 1, 0, 0), (.iadd, 1, 0, 0, 0), (.putfield 136, 3, 3, 5, 0), (.iinc 3 1, 3, 1, 0, 0)], some (.goto (-57), 3, 0, 0, 0)),
  (69, [(.iconst 1, 1, 1, 0, 0)], some (.ireturn, 1, 1, 0, 0))]
def iX4_readsNumber : MI := (yX4_readsNumber, cX4_readsNumber, 4, (some .boolean), 3, 3, bX4_readsNumber)
abbrev jX4_readsStatement : Nat := 141
def bX4_readsStatement : List Blk := [(0, [(.aload_n 0, 1, 0, 0, 0)], some (.invokevirtual 146, 3, 139, 1, 3)),
  (4, [(.istore_n 1, 1, 0, 0, 0), (.aload_n 0, 1, 0, 0, 0), (.dup, 1, 0, 0, 0), (.getfield 136, 3, 3, 5, 0), (.iconst 1, 1, 1, 0, 0), (.iadd, 1, 0, 0, 0), (.putfield 136, 3, 3, 5, 0), (.iload_n 1, 1, 0, 0, 0)], some (.lookupswitch 188 #[(100, 178), (107, 142), (109, 105), (112, 60), (116, 132), (120, 132)], 60, 0, 0, 0)),
  (76, [(.aload_n 0, 1, 0, 0, 0), (.iconst 0, 1, 0, 0, 0), (.iconst 1, 1, 1, 0, 0)], some (.invokevirtual 150, 3, 140, 3, 3)),
  (82, [], some (.ifCond .eq 34, 3, 0, 0, 0)),
  (85, [(.aload_n 0, 1, 0, 0, 0), (.iconst 1, 1, 1, 0, 0), (.iconst 1, 1, 1, 0, 0)], some (.invokevirtual 150, 3, 140, 3, 3)),
  (91, [], some (.ifCond .eq 25, 3, 0, 0, 0)),
  (94, [(.aload_n 0, 1, 0, 0, 0), (.iconst 2, 1, 2, 0, 0), (.iconst 1, 1, 1, 0, 0)], some (.invokevirtual 150, 3, 140, 3, 3)),
  (100, [], some (.ifCond .eq 16, 3, 0, 0, 0)),
  (103, [(.aload_n 0, 1, 0, 0, 0), (.iconst 3, 1, 3, 0, 0), (.iconst 2, 1, 2, 0, 0)], some (.invokevirtual 150, 3, 140, 3, 3)),
  (109, [], some (.ifCond .eq 7, 3, 0, 0, 0)),
  (112, [(.iconst 1, 1, 1, 0, 0)], some (.goto 4, 3, 0, 0, 0)),
  (116, [(.iconst 0, 1, 0, 0, 0)], none),
  (117, [(.istore_n 2, 1, 0, 0, 0)], some (.goto 98, 3, 0, 0, 0)),
  (121, [(.aload_n 0, 1, 0, 0, 0), (.iconst 0, 1, 0, 0, 0), (.iconst 1, 1, 1, 0, 0)], some (.invokevirtual 150, 3, 140, 3, 3)),
  (127, [], some (.ifCond .eq 16, 3, 0, 0, 0)),
  (130, [(.aload_n 0, 1, 0, 0, 0), (.iconst 1, 1, 1, 0, 0), (.iconst 2, 1, 2, 0, 0)], some (.invokevirtual 150, 3, 140, 3, 3)),
  (136, [], some (.ifCond .eq 7, 3, 0, 0, 0)),
  (139, [(.iconst 1, 1, 1, 0, 0)], some (.goto 4, 3, 0, 0, 0)),
  (143, [(.iconst 0, 1, 0, 0, 0)], none),
  (144, [(.istore_n 2, 1, 0, 0, 0)], some (.goto 71, 3, 0, 0, 0)),
  (148, [(.aload_n 0, 1, 0, 0, 0), (.iconst 0, 1, 0, 0, 0), (.iconst 1, 1, 1, 0, 0)], some (.invokevirtual 150, 3, 140, 3, 3)),
  (154, [(.istore_n 2, 1, 0, 0, 0)], some (.goto 61, 3, 0, 0, 0)),
  (158, [(.aload_n 0, 1, 0, 0, 0), (.iconst 0, 1, 0, 0, 0), (.iconst 1, 1, 1, 0, 0)], some (.invokevirtual 150, 3, 140, 3, 3)),
  (164, [], some (.ifCond .eq 25, 3, 0, 0, 0)),
  (167, [(.aload_n 0, 1, 0, 0, 0), (.iconst 1, 1, 1, 0, 0), (.iconst 1, 1, 1, 0, 0)], some (.invokevirtual 150, 3, 140, 3, 3)),
  (173, [], some (.ifCond .eq 16, 3, 0, 0, 0)),
  (176, [(.aload_n 0, 1, 0, 0, 0), (.iconst 2, 1, 2, 0, 0), (.iconst 1, 1, 1, 0, 0)], some (.invokevirtual 150, 3, 140, 3, 3)),
  (182, [], some (.ifCond .eq 7, 3, 0, 0, 0)),
  (185, [(.iconst 1, 1, 1, 0, 0)], some (.goto 4, 3, 0, 0, 0)),
  (189, [(.iconst 0, 1, 0, 0, 0)], none),
  (190, [(.istore_n 2, 1, 0, 0, 0)], some (.goto 25, 3, 0, 0, 0)),
  (194, [(.aload_n 0, 1, 0, 0, 0), (.iconst 0, 1, 0, 0, 0), (.iconst 2, 1, 2, 0, 0)], some (.invokevirtual 150, 3, 140, 3, 3)),
  (200, [(.istore_n 2, 1, 0, 0, 0)], some (.goto 15, 3, 0, 0, 0)),
  (204, [(.aload_n 0, 1, 0, 0, 0), (.dup, 1, 0, 0, 0), (.getfield 136, 3, 3, 5, 0), (.iconst 1, 1, 1, 0, 0), (.isub, 1, 0, 0, 0), (.putfield 136, 3, 3, 5, 0), (.iconst 0, 1, 0, 0, 0)], some (.ireturn, 1, 1, 0, 0)),
  (216, [(.iload_n 2, 1, 0, 0, 0)], some (.ifCond .eq 12, 3, 0, 0, 0)),
  (220, [(.aload_n 0, 1, 0, 0, 0)], some (.invokevirtual 146, 3, 139, 1, 3)),
  (224, [(.bipush 59, 2, 59, 0, 0)], some (.if_icmp .eq 5, 3, 0, 0, 0)),
  (229, [(.iconst 0, 1, 0, 0, 0)], some (.ireturn, 1, 1, 0, 0)),
  (231, [(.aload_n 0, 1, 0, 0, 0), (.dup, 1, 0, 0, 0), (.getfield 136, 3, 3, 5, 0), (.iconst 1, 1, 1, 0, 0), (.iadd, 1, 0, 0, 0), (.putfield 136, 3, 3, 5, 0), (.iconst 1, 1, 1, 0, 0)], some (.ireturn, 1, 1, 0, 0))]
def iX4_readsStatement : MI := (yX4_readsStatement, cX4_readsStatement, 3, (some .boolean), 3, 1, bX4_readsStatement)
abbrev jX4_adds : Nat := 142
def bX4_adds : List Blk := [(0, [(.aload_n 0, 1, 0, 0, 0), (.getfield 9, 3, 3, 0, 0), (.iconst 0, 1, 0, 0, 0), (.iaload, 1, 0, 0, 0), (.istore 5, 2, 0, 0, 0), (.aload_n 0, 1, 0, 0, 0), (.getfield 9, 3, 3, 0, 0), (.iload 5, 2, 0, 0, 0), (.iconst 0, 1, 0, 0, 0)], some (.invokestatic 51, 3, 109, 2, 0)),
  (18, [(.iload_n 1, 1, 0, 0, 0), (.iastore, 1, 0, 0, 0), (.aload_n 0, 1, 0, 0, 0), (.getfield 9, 3, 3, 0, 0), (.iload 5, 2, 0, 0, 0), (.iconst 1, 1, 1, 0, 0)], some (.invokestatic 51, 3, 109, 2, 0)),
  (30, [(.iload_n 2, 1, 0, 0, 0), (.iastore, 1, 0, 0, 0), (.aload_n 0, 1, 0, 0, 0), (.getfield 9, 3, 3, 0, 0), (.iload 5, 2, 0, 0, 0), (.iconst 2, 1, 2, 0, 0)], some (.invokestatic 51, 3, 109, 2, 0)),
  (42, [(.iload_n 3, 1, 0, 0, 0), (.iastore, 1, 0, 0, 0), (.aload_n 0, 1, 0, 0, 0), (.getfield 9, 3, 3, 0, 0), (.iload 5, 2, 0, 0, 0), (.iconst 3, 1, 3, 0, 0)], some (.invokestatic 51, 3, 109, 2, 0)),
  (54, [(.iload 4, 2, 0, 0, 0), (.iastore, 1, 0, 0, 0), (.aload_n 0, 1, 0, 0, 0), (.getfield 9, 3, 3, 0, 0), (.iconst 0, 1, 0, 0, 0), (.dup2, 1, 0, 0, 0), (.iaload, 1, 0, 0, 0), (.iconst 1, 1, 1, 0, 0), (.iadd, 1, 0, 0, 0), (.iastore, 1, 0, 0, 0)], some (.return_, 1, 0, 0, 0))]
def iX4_adds : MI := (yX4_adds, cX4_adds, 6, none, 3, 5, bX4_adds)
abbrev jX4_mayStand : Nat := 143
def bX4_mayStand : List Blk := [(0, [(.aload_n 0, 1, 0, 0, 0), (.getfield 9, 3, 3, 0, 0), (.iload_n 2, 1, 0, 0, 0)], some (.invokestatic 55, 3, 117, 2, 0)),
  (8, [], some (.ifCond .lt 15, 3, 0, 0, 0)),
  (11, [(.aload_n 0, 1, 0, 0, 0), (.getfield 9, 3, 3, 0, 0), (.iload_n 2, 1, 0, 0, 0)], some (.invokestatic 55, 3, 117, 2, 0)),
  (19, [(.iload_n 1, 1, 0, 0, 0)], some (.if_icmp .ne 7, 3, 0, 0, 0)),
  (23, [(.iconst 1, 1, 1, 0, 0)], some (.goto 4, 3, 0, 0, 0)),
  (27, [(.iconst 0, 1, 0, 0, 0)], none),
  (28, [], some (.ireturn, 1, 1, 0, 0))]
def iX4_mayStand : MI := (yX4_mayStand, cX4_mayStand, 3, (some .boolean), 3, 3, bX4_mayStand)
abbrev jX4_isDone : Nat := 144
def bX4_isDone : List Blk := [(0, [(.aload_n 0, 1, 0, 0, 0), (.getfield 22, 3, 3, 8, 0), (.iconst 0, 1, 0, 0, 0), (.iaload, 1, 0, 0, 0), (.istore_n 2, 1, 0, 0, 0), (.aload_n 0, 1, 0, 0, 0), (.getfield 22, 3, 3, 8, 0), (.iconst 1, 1, 1, 0, 0), (.iaload, 1, 0, 0, 0), (.istore_n 3, 1, 0, 0, 0), (.iload_n 1, 1, 0, 0, 0)], some (.tableswitch 285 107 120 #[240, 285, 148, 285, 285, 69, 285, 285, 285, 222, 285, 285, 285, 187], 69, 0, 0, 0)),
  (84, [(.iload_n 2, 1, 0, 0, 0), (.bipush 8, 2, 8, 0, 0)], some (.if_icmp .ge 54, 3, 0, 0, 0)),
  (90, [(.aload_n 0, 1, 0, 0, 0), (.getfield 22, 3, 3, 8, 0), (.iconst 2, 1, 2, 0, 0), (.iaload, 1, 0, 0, 0)], some (.invokestatic 153, 3, 113, 1, 0)),
  (99, [], some (.ifCond .eq 42, 3, 0, 0, 0)),
  (102, [(.aload_n 0, 1, 0, 0, 0), (.getfield 22, 3, 3, 8, 0), (.iconst 3, 1, 3, 0, 0), (.iaload, 1, 0, 0, 0)], some (.invokestatic 156, 3, 112, 1, 0)),
  (111, [], some (.ifCond .eq 30, 3, 0, 0, 0)),
  (114, [(.aload_n 0, 1, 0, 0, 0), (.getfield 9, 3, 3, 0, 0), (.iconst 0, 1, 0, 0, 0), (.iaload, 1, 0, 0, 0), (.bipush 10, 2, 10, 0, 0)], some (.if_icmp .eq 19, 3, 0, 0, 0)),
  (125, [(.aload_n 0, 1, 0, 0, 0), (.getfield 9, 3, 3, 0, 0), (.aload_n 0, 1, 0, 0, 0), (.getfield 22, 3, 3, 8, 0), (.iconst 3, 1, 3, 0, 0), (.iaload, 1, 0, 0, 0)], some (.invokestatic 55, 3, 117, 2, 0)),
  (138, [], some (.ifCond .lt 5, 3, 0, 0, 0)),
  (141, [(.iconst 0, 1, 0, 0, 0)], some (.ireturn, 1, 1, 0, 0)),
  (143, [(.aload_n 0, 1, 0, 0, 0), (.iload_n 2, 1, 0, 0, 0), (.iload_n 3, 1, 0, 0, 0), (.aload_n 0, 1, 0, 0, 0), (.getfield 22, 3, 3, 8, 0), (.iconst 2, 1, 2, 0, 0), (.iaload, 1, 0, 0, 0), (.aload_n 0, 1, 0, 0, 0), (.getfield 22, 3, 3, 8, 0), (.iconst 3, 1, 3, 0, 0), (.iaload, 1, 0, 0, 0)], some (.invokevirtual 159, 3, 142, 5, 3)),
  (161, [(.iconst 1, 1, 1, 0, 0)], some (.ireturn, 1, 1, 0, 0)),
  (163, [(.aload_n 0, 1, 0, 0, 0), (.iload_n 2, 1, 0, 0, 0)], some (.invokevirtual 47, 3, 110, 2, 3)),
  (168, [], some (.ifCond .eq 19, 3, 0, 0, 0)),
  (171, [(.iload_n 3, 1, 0, 0, 0)], some (.invokestatic 156, 3, 112, 1, 0)),
  (175, [], some (.ifCond .eq 12, 3, 0, 0, 0)),
  (178, [(.aload_n 0, 1, 0, 0, 0), (.iload_n 2, 1, 0, 0, 0), (.iload_n 3, 1, 0, 0, 0)], some (.invokevirtual 163, 3, 143, 3, 3)),
  (184, [], some (.ifCond .ne 5, 3, 0, 0, 0)),
  (187, [(.iconst 0, 1, 0, 0, 0)], some (.ireturn, 1, 1, 0, 0)),
  (189, [(.aload_n 0, 1, 0, 0, 0), (.getfield 9, 3, 3, 0, 0), (.iload_n 2, 1, 0, 0, 0), (.iconst 3, 1, 3, 0, 0)], some (.invokestatic 51, 3, 109, 2, 0)),
  (198, [(.iload_n 3, 1, 0, 0, 0), (.iastore, 1, 0, 0, 0), (.iconst 1, 1, 1, 0, 0)], some (.ireturn, 1, 1, 0, 0)),
  (202, [(.aload_n 0, 1, 0, 0, 0), (.iload_n 2, 1, 0, 0, 0)], some (.invokevirtual 47, 3, 110, 2, 3)),
  (207, [], some (.ifCond .eq 14, 3, 0, 0, 0)),
  (210, [(.aload_n 0, 1, 0, 0, 0), (.getfield 9, 3, 3, 0, 0), (.iload_n 2, 1, 0, 0, 0)], some (.invokestatic 78, 3, 114, 2, 0)),
  (218, [], some (.ifCond .ne 5, 3, 0, 0, 0)),
  (221, [(.iconst 0, 1, 0, 0, 0)], some (.ireturn, 1, 1, 0, 0)),
  (223, [(.aload_n 0, 1, 0, 0, 0), (.getfield 9, 3, 3, 0, 0), (.iload_n 2, 1, 0, 0, 0), (.iconst 3, 1, 3, 0, 0)], some (.invokestatic 51, 3, 109, 2, 0)),
  (232, [(.bipush (-4), 2, 4, 1, 0), (.iastore, 1, 0, 0, 0), (.iconst 1, 1, 1, 0, 0)], some (.ireturn, 1, 1, 0, 0)),
  (237, [(.iload_n 2, 1, 0, 0, 0)], some (.invokestatic 153, 3, 113, 1, 0)),
  (241, [], some (.ifCond .ne 5, 3, 0, 0, 0)),
  (244, [(.iconst 0, 1, 0, 0, 0)], some (.ireturn, 1, 1, 0, 0)),
  (246, [(.aload_n 0, 1, 0, 0, 0), (.getfield 9, 3, 3, 0, 0), (.iconst 2, 1, 2, 0, 0), (.iload_n 2, 1, 0, 0, 0), (.iastore, 1, 0, 0, 0), (.iconst 1, 1, 1, 0, 0)], some (.ireturn, 1, 1, 0, 0)),
  (255, [(.aload_n 0, 1, 0, 0, 0), (.iload_n 2, 1, 0, 0, 0)], some (.invokevirtual 47, 3, 110, 2, 3)),
  (260, [], some (.ifCond .eq 9, 3, 0, 0, 0)),
  (263, [(.iload_n 3, 1, 0, 0, 0), (.bipush 8, 2, 8, 0, 0)], some (.if_icmp .lt 5, 3, 0, 0, 0)),
  (269, [(.iconst 0, 1, 0, 0, 0)], some (.ireturn, 1, 1, 0, 0)),
  (271, [(.aload_n 0, 1, 0, 0, 0), (.getfield 9, 3, 3, 0, 0), (.iload_n 2, 1, 0, 0, 0), (.iconst 0, 1, 0, 0, 0)], some (.invokestatic 51, 3, 109, 2, 0)),
  (280, [(.iload_n 3, 1, 0, 0, 0), (.iastore, 1, 0, 0, 0), (.aload_n 0, 1, 0, 0, 0), (.getfield 9, 3, 3, 0, 0), (.iload_n 2, 1, 0, 0, 0), (.iconst 1, 1, 1, 0, 0)], some (.invokestatic 51, 3, 109, 2, 0)),
  (291, [(.aload_n 0, 1, 0, 0, 0), (.getfield 22, 3, 3, 8, 0), (.iconst 2, 1, 2, 0, 0), (.iaload, 1, 0, 0, 0), (.iastore, 1, 0, 0, 0), (.iconst 1, 1, 1, 0, 0)], some (.ireturn, 1, 1, 0, 0)),
  (300, [(.iload_n 2, 1, 0, 0, 0), (.iconst 1, 1, 1, 0, 0), (.bipush 60, 2, 60, 0, 0)], some (.invokestatic 43, 3, 105, 3, 0)),
  (307, [], some (.ifCond .eq 17, 3, 0, 0, 0)),
  (310, [(.aload_n 0, 1, 0, 0, 0), (.getfield 9, 3, 3, 0, 0), (.iconst 1, 1, 1, 0, 0), (.iaload, 1, 0, 0, 0), (.iload_n 2, 1, 0, 0, 0), (.iadd, 1, 0, 0, 0), (.sipush 999, 3, 999, 0, 0)], some (.if_icmp .le 5, 3, 0, 0, 0)),
  (324, [(.iconst 0, 1, 0, 0, 0)], some (.ireturn, 1, 1, 0, 0)),
  (326, [(.aload_n 0, 1, 0, 0, 0), (.getfield 9, 3, 3, 0, 0), (.iload_n 2, 1, 0, 0, 0)], some (.invokestatic 166, 3, 138, 2, 0)),
  (334, [(.iconst 1, 1, 1, 0, 0)], some (.ireturn, 1, 1, 0, 0))]
def iX4_isDone : MI := (yX4_isDone, cX4_isDone, 4, (some .boolean), 3, 2, bX4_isDone)
abbrev jX4_isShelf : Nat := 145
def bX4_isShelf : List Blk := [(0, [(.iload_n 0, 1, 0, 0, 0), (.iconst 0, 1, 0, 0, 0), (.bipush 7, 2, 7, 0, 0)], some (.invokestatic 43, 3, 105, 3, 0)),
  (7, [], some (.ireturn, 1, 1, 0, 0))]
def iX4_isShelf : MI := (yX4_isShelf, cX4_isShelf, 1, (some .boolean), 3, 1, bX4_isShelf)
abbrev jX4_wrongRow : Nat := 146
def bX4_wrongRow : List Blk := [(0, [(.iload_n 1, 1, 0, 0, 0)], some (.invokestatic 246, 3, 145, 1, 0)),
  (4, [], some (.ifCond .ne 7, 3, 0, 0, 0)),
  (7, [(.iconst (-1), 1, 1, 1, 0)], some (.goto 47, 3, 0, 0, 0)),
  (11, [(.aload_n 0, 1, 0, 0, 0), (.getfield 25, 3, 3, 10, 0), (.iload_n 1, 1, 0, 0, 0), (.iaload, 1, 0, 0, 0)], some (.ifCond .ne 8, 3, 0, 0, 0)),
  (20, [(.bipush (-11), 2, 11, 1, 0)], some (.goto 33, 3, 0, 0, 0)),
  (25, [(.aload_n 0, 1, 0, 0, 0), (.getfield 25, 3, 3, 10, 0), (.iload_n 1, 1, 0, 0, 0), (.iaload, 1, 0, 0, 0), (.iconst 2, 1, 2, 0, 0)], some (.if_icmp .ne 17, 3, 0, 0, 0)),
  (35, [(.iload_n 2, 1, 0, 0, 0)], some (.ifCond .lt 18, 3, 0, 0, 0)),
  (39, [(.aload_n 0, 1, 0, 0, 0), (.getfield 34, 3, 3, 13, 0), (.iload_n 1, 1, 0, 0, 0), (.iaload, 1, 0, 0, 0), (.iload_n 2, 1, 0, 0, 0)], some (.if_icmp .eq 8, 3, 0, 0, 0)),
  (49, [(.bipush (-12), 2, 12, 1, 0)], some (.goto 4, 3, 0, 0, 0)),
  (54, [(.iconst 0, 1, 0, 0, 0)], none),
  (55, [], some (.ireturn, 1, 0, 0, 0))]
def iX4_wrongRow : MI := (yX4_wrongRow, cX4_wrongRow, 3, (some .int), 3, 3, bX4_wrongRow)
abbrev jX4_game : Nat := 147
def bX4_game : List Blk := [(0, [(.aload_n 0, 1, 0, 0, 0), (.iload_n 1, 1, 0, 0, 0), (.iconst 0, 1, 0, 0, 0)], some (.invokevirtual 170, 3, 146, 3, 3)),
  (6, [(.istore_n 2, 1, 0, 0, 0), (.iload_n 2, 1, 0, 0, 0)], some (.ifCond .eq 5, 3, 0, 0, 0)),
  (11, [(.iload_n 2, 1, 0, 0, 0)], some (.ireturn, 1, 0, 0, 0)),
  (13, [(.aload_n 0, 1, 0, 0, 0), (.bipush 100, 2, 100, 0, 0), (.iload_n 1, 1, 0, 0, 0), (.imul, 1, 0, 0, 0), (.putfield 143, 3, 3, 6, 0), (.aload_n 0, 1, 0, 0, 0), (.aload_n 0, 1, 0, 0, 0), (.getfield 37, 3, 3, 14, 0), (.iload_n 1, 1, 0, 0, 0), (.iaload, 1, 0, 0, 0), (.putfield 140, 3, 3, 7, 0), (.aload_n 0, 1, 0, 0, 0), (.iconst 0, 1, 0, 0, 0), (.putfield 136, 3, 3, 5, 0), (.iconst 0, 1, 0, 0, 0), (.istore_n 3, 1, 0, 0, 0), (.iconst 0, 1, 0, 0, 0), (.istore 4, 2, 0, 0, 0)], none),
  (41, [(.aload_n 0, 1, 0, 0, 0)], some (.invokevirtual 173, 3, 141, 1, 3)),
  (45, [], some (.ifCond .ne 13, 3, 0, 0, 0)),
  (48, [(.sipush (-1000), 3, 1000, 1, 0), (.aload_n 0, 1, 0, 0, 0), (.getfield 136, 3, 3, 5, 0), (.isub, 1, 0, 0, 0), (.istore 4, 2, 0, 0, 0)], none),
  (58, [(.iinc 3 1, 3, 1, 0, 0), (.iload 4, 2, 0, 0, 0)], some (.ifCond .ne 14, 3, 0, 0, 0)),
  (66, [(.aload_n 0, 1, 0, 0, 0), (.getfield 136, 3, 3, 5, 0), (.aload_n 0, 1, 0, 0, 0), (.getfield 140, 3, 3, 7, 0)], some (.if_icmp .lt (-33), 3, 0, 0, 0)),
  (77, [(.aload_n 0, 1, 0, 0, 0), (.getfield 9, 3, 3, 0, 0), (.aload_n 0, 1, 0, 0, 0), (.getfield 19, 3, 3, 3, 0)], some (.invokestatic 177, 3, 108, 2, 0)),
  (88, [(.aload_n 0, 1, 0, 0, 0), (.iconst 0, 1, 0, 0, 0), (.putfield 136, 3, 3, 5, 0)], none),
  (93, [(.iload 4, 2, 0, 0, 0)], some (.ifCond .ne 66, 3, 0, 0, 0)),
  (98, [(.aload_n 0, 1, 0, 0, 0), (.getfield 136, 3, 3, 5, 0), (.aload_n 0, 1, 0, 0, 0), (.getfield 140, 3, 3, 7, 0)], some (.if_icmp .ge 55, 3, 0, 0, 0)),
  (109, [(.aload_n 0, 1, 0, 0, 0), (.getfield 136, 3, 3, 5, 0), (.istore 5, 2, 0, 0, 0), (.aload_n 0, 1, 0, 0, 0)], some (.invokevirtual 146, 3, 139, 1, 3)),
  (119, [(.istore 6, 2, 0, 0, 0), (.aload_n 0, 1, 0, 0, 0)], some (.invokevirtual 173, 3, 141, 1, 3)),
  (125, [(.istore 7, 2, 0, 0, 0), (.aload_n 0, 1, 0, 0, 0), (.iload 6, 2, 0, 0, 0)], some (.invokevirtual 181, 3, 144, 2, 3)),
  (133, [], some (.ifCond .eq 6, 3, 0, 0, 0)),
  (136, [], some (.goto (-43), 3, 0, 0, 0)),
  (139, [(.sipush (-2000), 3, 2000, 1, 0), (.iload 5, 2, 0, 0, 0), (.isub, 1, 0, 0, 0), (.istore 4, 2, 0, 0, 0), (.aload_n 0, 1, 0, 0, 0), (.getfield 19, 3, 3, 3, 0), (.aload_n 0, 1, 0, 0, 0), (.getfield 9, 3, 3, 0, 0)], some (.invokestatic 177, 3, 108, 2, 0)),
  (158, [], some (.goto (-65), 3, 0, 0, 0)),
  (161, [(.iload 4, 2, 0, 0, 0)], some (.ifCond .ne 7, 3, 0, 0, 0)),
  (166, [(.iload_n 3, 1, 0, 0, 0)], some (.goto 5, 3, 0, 0, 0)),
  (170, [(.iload 4, 2, 0, 0, 0)], none),
  (172, [], some (.ireturn, 1, 0, 0, 0))]
def iX4_game : MI := (yX4_game, cX4_game, 8, (some .int), 3, 2, bX4_game)
abbrev jX4_nextIdea : Nat := 148
def bX4_nextIdea : List Blk := [(0, [(.aload_n 0, 1, 0, 0, 0), (.getfield 9, 3, 3, 0, 0), (.iload_n 1, 1, 0, 0, 0), (.aload_n 0, 1, 0, 0, 0), (.getfield 9, 3, 3, 0, 0), (.iconst 1, 1, 1, 0, 0), (.iaload, 1, 0, 0, 0), (.iconst 1, 1, 1, 0, 0), (.iadd, 1, 0, 0, 0)], some (.invokestatic 117, 3, 128, 3, 0)),
  (16, [], some (.ireturn, 1, 0, 0, 0))]
def iX4_nextIdea : MI := (yX4_nextIdea, cX4_nextIdea, 2, (some .int), 3, 2, bX4_nextIdea)
abbrev jX4_piece : Nat := 149
def bX4_piece : List Blk := [(0, [(.aload_n 0, 1, 0, 0, 0), (.iload_n 1, 1, 0, 0, 0)], some (.invokevirtual 47, 3, 110, 2, 3)),
  (5, [], some (.ifCond .eq 13, 3, 0, 0, 0)),
  (8, [(.iload_n 2, 1, 0, 0, 0), (.iconst 0, 1, 0, 0, 0), (.bipush 6, 2, 6, 0, 0)], some (.invokestatic 43, 3, 105, 3, 0)),
  (15, [], some (.ifCond .ne 5, 3, 0, 0, 0)),
  (18, [(.iconst (-1), 1, 1, 1, 0)], some (.ireturn, 1, 0, 0, 0)),
  (20, [(.aload_n 0, 1, 0, 0, 0), (.getfield 9, 3, 3, 0, 0), (.iload_n 1, 1, 0, 0, 0), (.iconst 0, 1, 0, 0, 0)], some (.invokestatic 51, 3, 109, 2, 0)),
  (29, [(.iaload, 1, 0, 0, 0), (.istore_n 3, 1, 0, 0, 0), (.aload_n 0, 1, 0, 0, 0), (.getfield 9, 3, 3, 0, 0), (.iload_n 1, 1, 0, 0, 0), (.iconst 1, 1, 1, 0, 0)], some (.invokestatic 51, 3, 109, 2, 0)),
  (40, [(.iaload, 1, 0, 0, 0), (.istore 4, 2, 0, 0, 0), (.iload_n 2, 1, 0, 0, 0), (.iconst 4, 1, 4, 0, 0)], some (.if_icmp .ge 16, 3, 0, 0, 0)),
  (48, [(.aload_n 0, 1, 0, 0, 0), (.getfield 9, 3, 3, 0, 0), (.iload_n 1, 1, 0, 0, 0), (.iload_n 2, 1, 0, 0, 0)], some (.invokestatic 51, 3, 109, 2, 0)),
  (57, [(.iaload, 1, 0, 0, 0)], some (.goto 36, 3, 0, 0, 0)),
  (61, [(.iload_n 2, 1, 0, 0, 0), (.iconst 4, 1, 4, 0, 0)], some (.if_icmp .ne 12, 3, 0, 0, 0)),
  (66, [(.iload_n 3, 1, 0, 0, 0), (.iload 4, 2, 0, 0, 0)], some (.invokestatic 105, 3, 129, 2, 0)),
  (72, [], some (.goto 22, 3, 0, 0, 0)),
  (75, [(.iload_n 2, 1, 0, 0, 0), (.iconst 5, 1, 5, 0, 0)], some (.if_icmp .ne 12, 3, 0, 0, 0)),
  (80, [(.iload_n 3, 1, 0, 0, 0), (.iload 4, 2, 0, 0, 0)], some (.invokestatic 111, 3, 130, 2, 0)),
  (86, [], some (.goto 8, 3, 0, 0, 0)),
  (89, [(.aload_n 0, 1, 0, 0, 0), (.iload_n 1, 1, 0, 0, 0)], some (.invokevirtual 184, 3, 148, 2, 3)),
  (94, [], some (.ireturn, 1, 0, 0, 0))]
def iX4_piece : MI := (yX4_piece, cX4_piece, 5, (some .int), 3, 3, bX4_piece)
abbrev jX4_on : Nat := 150
def bX4_on : List Blk := [(0, [(.iload_n 1, 1, 0, 0, 0)], some (.invokestatic 156, 3, 112, 1, 0)),
  (4, [], some (.ifCond .ne 5, 3, 0, 0, 0)),
  (7, [(.iconst (-1), 1, 1, 1, 0)], some (.ireturn, 1, 0, 0, 0)),
  (9, [(.aload_n 0, 1, 0, 0, 0), (.getfield 9, 3, 3, 0, 0), (.iload_n 1, 1, 0, 0, 0)], some (.invokestatic 55, 3, 117, 2, 0)),
  (17, [(.istore_n 2, 1, 0, 0, 0), (.iload_n 2, 1, 0, 0, 0)], some (.ifCond .ge 8, 3, 0, 0, 0)),
  (22, [(.bipush (-4), 2, 4, 1, 0)], some (.goto 4, 3, 0, 0, 0)),
  (27, [(.iload_n 2, 1, 0, 0, 0)], none),
  (28, [], some (.ireturn, 1, 0, 0, 0))]
def iX4_on : MI := (yX4_on, cX4_on, 3, (some .int), 3, 2, bX4_on)
abbrev jX4_wrongKept : Nat := 151
def bX4_wrongKept : List Blk := [(0, [(.iload_n 1, 1, 0, 0, 0)], some (.invokestatic 246, 3, 145, 1, 0)),
  (4, [], some (.ifCond .ne 7, 3, 0, 0, 0)),
  (7, [(.iconst (-1), 1, 1, 1, 0)], some (.goto 33, 3, 0, 0, 0)),
  (11, [(.aload_n 0, 1, 0, 0, 0), (.getfield 25, 3, 3, 10, 0), (.iload_n 1, 1, 0, 0, 0), (.iaload, 1, 0, 0, 0)], some (.ifCond .ne 8, 3, 0, 0, 0)),
  (20, [(.bipush (-11), 2, 11, 1, 0)], some (.goto 19, 3, 0, 0, 0)),
  (25, [(.aload_n 0, 1, 0, 0, 0), (.getfield 25, 3, 3, 10, 0), (.iload_n 1, 1, 0, 0, 0), (.iaload, 1, 0, 0, 0), (.iconst 2, 1, 2, 0, 0)], some (.if_icmp .ne 8, 3, 0, 0, 0)),
  (35, [(.bipush (-12), 2, 12, 1, 0)], some (.goto 4, 3, 0, 0, 0)),
  (40, [(.iconst 0, 1, 0, 0, 0)], none),
  (41, [], some (.ireturn, 1, 0, 0, 0))]
def iX4_wrongKept : MI := (yX4_wrongKept, cX4_wrongKept, 2, (some .int), 3, 2, bX4_wrongKept)
abbrev jX4_comes : Nat := 152
def bX4_comes : List Blk := [(0, [(.iload_n 2, 1, 0, 0, 0)], some (.invokestatic 153, 3, 113, 1, 0)),
  (4, [], some (.ifCond .eq 10, 3, 0, 0, 0)),
  (7, [(.iload_n 3, 1, 0, 0, 0)], some (.invokestatic 156, 3, 112, 1, 0)),
  (11, [], some (.ifCond .ne 5, 3, 0, 0, 0)),
  (14, [(.iconst (-1), 1, 1, 1, 0)], some (.ireturn, 1, 0, 0, 0)),
  (16, [(.aload_n 0, 1, 0, 0, 0), (.iload_n 1, 1, 0, 0, 0)], some (.invokevirtual 187, 3, 151, 2, 3)),
  (21, [(.istore 4, 2, 0, 0, 0), (.iload 4, 2, 0, 0, 0)], some (.ifCond .eq 6, 3, 0, 0, 0)),
  (28, [(.iload 4, 2, 0, 0, 0)], some (.ireturn, 1, 0, 0, 0)),
  (31, [(.aload_n 0, 1, 0, 0, 0), (.getfield 9, 3, 3, 0, 0), (.iconst 0, 1, 0, 0, 0), (.iaload, 1, 0, 0, 0), (.bipush 10, 2, 10, 0, 0)], some (.if_icmp .ne 6, 3, 0, 0, 0)),
  (42, [(.bipush (-2), 2, 2, 1, 0)], some (.ireturn, 1, 0, 0, 0)),
  (45, [(.aload_n 0, 1, 0, 0, 0), (.getfield 9, 3, 3, 0, 0), (.iload_n 3, 1, 0, 0, 0)], some (.invokestatic 55, 3, 117, 2, 0)),
  (53, [], some (.ifCond .lt 6, 3, 0, 0, 0)),
  (56, [(.bipush (-3), 2, 3, 1, 0)], some (.ireturn, 1, 0, 0, 0)),
  (59, [(.aload_n 0, 1, 0, 0, 0), (.aload_n 0, 1, 0, 0, 0), (.getfield 28, 3, 3, 11, 0), (.iload_n 1, 1, 0, 0, 0), (.iaload, 1, 0, 0, 0), (.aload_n 0, 1, 0, 0, 0), (.getfield 31, 3, 3, 12, 0), (.iload_n 1, 1, 0, 0, 0), (.iaload, 1, 0, 0, 0), (.iload_n 2, 1, 0, 0, 0), (.iload_n 3, 1, 0, 0, 0)], some (.invokevirtual 159, 3, 142, 5, 3)),
  (77, [(.aload_n 0, 1, 0, 0, 0), (.getfield 9, 3, 3, 0, 0), (.iconst 0, 1, 0, 0, 0), (.iaload, 1, 0, 0, 0), (.iconst 1, 1, 1, 0, 0), (.isub, 1, 0, 0, 0)], some (.ireturn, 1, 0, 0, 0))]
def iX4_comes : MI := (yX4_comes, cX4_comes, 5, (some .int), 3, 4, bX4_comes)
abbrev jX4_sets : Nat := 153
def bX4_sets : List Blk := [(0, [(.aload_n 0, 1, 0, 0, 0), (.getfield 9, 3, 3, 0, 0), (.iload_n 1, 1, 0, 0, 0), (.iaload, 1, 0, 0, 0), (.istore_n 3, 1, 0, 0, 0), (.aload_n 0, 1, 0, 0, 0), (.getfield 9, 3, 3, 0, 0), (.iload_n 1, 1, 0, 0, 0), (.iload_n 2, 1, 0, 0, 0), (.iastore, 1, 0, 0, 0), (.iload_n 3, 1, 0, 0, 0)], some (.ireturn, 1, 0, 0, 0))]
def iX4_sets : MI := (yX4_sets, cX4_sets, 4, (some .int), 3, 3, bX4_sets)
abbrev jX4_stands : Nat := 154
def bX4_stands : List Blk := [(0, [(.aload_n 0, 1, 0, 0, 0), (.iload_n 1, 1, 0, 0, 0)], some (.invokevirtual 47, 3, 110, 2, 3)),
  (5, [], some (.ifCond .eq 10, 3, 0, 0, 0)),
  (8, [(.iload_n 2, 1, 0, 0, 0)], some (.invokestatic 156, 3, 112, 1, 0)),
  (12, [], some (.ifCond .ne 5, 3, 0, 0, 0)),
  (15, [(.iconst (-1), 1, 1, 1, 0)], some (.ireturn, 1, 0, 0, 0)),
  (17, [(.aload_n 0, 1, 0, 0, 0), (.iload_n 1, 1, 0, 0, 0), (.iload_n 2, 1, 0, 0, 0)], some (.invokevirtual 163, 3, 143, 3, 3)),
  (23, [], some (.ifCond .eq 16, 3, 0, 0, 0)),
  (26, [(.aload_n 0, 1, 0, 0, 0), (.iload_n 1, 1, 0, 0, 0), (.iconst 3, 1, 3, 0, 0)], some (.invokestatic 51, 3, 109, 2, 0)),
  (32, [(.iload_n 2, 1, 0, 0, 0)], some (.invokevirtual 190, 3, 153, 3, 3)),
  (36, [], some (.goto 5, 3, 0, 0, 0)),
  (39, [(.bipush (-3), 2, 3, 1, 0)], none),
  (41, [], some (.ireturn, 1, 0, 0, 0))]
def iX4_stands : MI := (yX4_stands, cX4_stands, 3, (some .int), 3, 3, bX4_stands)
abbrev jX4_takes : Nat := 155
def bX4_takes : List Blk := [(0, [(.aload_n 0, 1, 0, 0, 0), (.iload_n 1, 1, 0, 0, 0)], some (.invokevirtual 47, 3, 110, 2, 3)),
  (5, [], some (.ifCond .ne 5, 3, 0, 0, 0)),
  (8, [(.iconst (-1), 1, 1, 1, 0)], some (.ireturn, 1, 0, 0, 0)),
  (10, [(.aload_n 0, 1, 0, 0, 0), (.getfield 9, 3, 3, 0, 0), (.iload_n 1, 1, 0, 0, 0)], some (.invokestatic 78, 3, 114, 2, 0)),
  (18, [], some (.ifCond .eq 17, 3, 0, 0, 0)),
  (21, [(.aload_n 0, 1, 0, 0, 0), (.iload_n 1, 1, 0, 0, 0), (.iconst 3, 1, 3, 0, 0)], some (.invokestatic 51, 3, 109, 2, 0)),
  (27, [(.bipush (-4), 2, 4, 1, 0)], some (.invokevirtual 190, 3, 153, 3, 3)),
  (32, [], some (.goto 5, 3, 0, 0, 0)),
  (35, [(.bipush (-3), 2, 3, 1, 0)], none),
  (37, [], some (.ireturn, 1, 0, 0, 0))]
def iX4_takes : MI := (yX4_takes, cX4_takes, 2, (some .int), 3, 2, bX4_takes)
abbrev jX4_turn : Nat := 156
def bX4_turn : List Blk := [(0, [(.iload_n 1, 1, 0, 0, 0)], some (.invokestatic 153, 3, 113, 1, 0)),
  (4, [], some (.ifCond .eq 12, 3, 0, 0, 0)),
  (7, [(.aload_n 0, 1, 0, 0, 0), (.iconst 2, 1, 2, 0, 0), (.iload_n 1, 1, 0, 0, 0)], some (.invokevirtual 190, 3, 153, 3, 3)),
  (13, [], some (.goto 4, 3, 0, 0, 0)),
  (16, [(.iconst (-1), 1, 1, 1, 0)], none),
  (17, [], some (.ireturn, 1, 0, 0, 0))]
def iX4_turn : MI := (yX4_turn, cX4_turn, 2, (some .int), 3, 2, bX4_turn)
abbrev jX4_days : Nat := 157
def bX4_days : List Blk := [(0, [(.iload_n 1, 1, 0, 0, 0), (.iconst 1, 1, 1, 0, 0), (.bipush 60, 2, 60, 0, 0)], some (.invokestatic 43, 3, 105, 3, 0)),
  (7, [], some (.ifCond .ne 5, 3, 0, 0, 0)),
  (10, [(.iconst (-1), 1, 1, 1, 0)], some (.ireturn, 1, 0, 0, 0)),
  (12, [(.aload_n 0, 1, 0, 0, 0), (.getfield 9, 3, 3, 0, 0), (.iconst 1, 1, 1, 0, 0), (.iaload, 1, 0, 0, 0), (.iload_n 1, 1, 0, 0, 0), (.iadd, 1, 0, 0, 0), (.sipush 999, 3, 999, 0, 0)], some (.if_icmp .le 6, 3, 0, 0, 0)),
  (26, [(.bipush (-3), 2, 3, 1, 0)], some (.ireturn, 1, 0, 0, 0)),
  (29, [(.aload_n 0, 1, 0, 0, 0), (.getfield 9, 3, 3, 0, 0), (.iload_n 1, 1, 0, 0, 0)], some (.invokestatic 166, 3, 138, 2, 0)),
  (37, [(.aload_n 0, 1, 0, 0, 0), (.getfield 9, 3, 3, 0, 0)], some (.invokestatic 193, 3, 133, 1, 0)),
  (44, [], some (.invokestatic 123, 3, 116, 1, 0)),
  (47, [], some (.ireturn, 1, 0, 0, 0))]
def iX4_days : MI := (yX4_days, cX4_days, 2, (some .int), 3, 2, bX4_days)
abbrev jX4_isLate : Nat := 158
def bX4_isLate : List Blk := [(0, [(.iload_n 0, 1, 0, 0, 0), (.iconst 0, 1, 0, 0, 0), (.bipush 60, 2, 60, 0, 0)], some (.invokestatic 43, 3, 105, 3, 0)),
  (7, [], some (.ireturn, 1, 1, 0, 0))]
def iX4_isLate : MI := (yX4_isLate, cX4_isLate, 1, (some .boolean), 3, 1, bX4_isLate)
abbrev jX4_inMind : Nat := 159
def bX4_inMind : List Blk := [(0, [(.aload_n 0, 1, 0, 0, 0), (.getfield 9, 3, 3, 0, 0), (.aload_n 0, 1, 0, 0, 0), (.getfield 13, 3, 3, 1, 0)], some (.invokestatic 177, 3, 108, 2, 0)),
  (11, [(.aload_n 0, 1, 0, 0, 0), (.getfield 13, 3, 3, 1, 0), (.iload_n 1, 1, 0, 0, 0)], some (.invokestatic 166, 3, 138, 2, 0)),
  (19, [], some (.return_, 1, 0, 0, 0))]
def iX4_inMind : MI := (yX4_inMind, cX4_inMind, 2, none, 3, 2, bX4_inMind)
abbrev jX4_squareThen : Nat := 160
def bX4_squareThen : List Blk := [(0, [(.aload_n 0, 1, 0, 0, 0), (.iload_n 1, 1, 0, 0, 0)], some (.invokevirtual 47, 3, 110, 2, 3)),
  (5, [], some (.ifCond .eq 10, 3, 0, 0, 0)),
  (8, [(.iload_n 2, 1, 0, 0, 0)], some (.invokestatic 197, 3, 158, 1, 0)),
  (12, [], some (.ifCond .ne 5, 3, 0, 0, 0)),
  (15, [(.iconst (-1), 1, 1, 1, 0)], some (.ireturn, 1, 0, 0, 0)),
  (17, [(.aload_n 0, 1, 0, 0, 0), (.iload_n 2, 1, 0, 0, 0)], some (.invokevirtual 200, 3, 159, 2, 3)),
  (22, [(.aload_n 0, 1, 0, 0, 0), (.getfield 13, 3, 3, 1, 0), (.iload_n 1, 1, 0, 0, 0), (.iconst 3, 1, 3, 0, 0)], some (.invokestatic 51, 3, 109, 2, 0)),
  (31, [(.iaload, 1, 0, 0, 0)], some (.ireturn, 1, 0, 0, 0))]
def iX4_squareThen : MI := (yX4_squareThen, cX4_squareThen, 3, (some .int), 3, 3, bX4_squareThen)
abbrev jX4_then : Nat := 161
def bX4_then : List Blk := [(0, [(.iload_n 1, 1, 0, 0, 0)], some (.invokestatic 197, 3, 158, 1, 0)),
  (4, [], some (.ifCond .eq 12, 3, 0, 0, 0)),
  (7, [(.iload_n 2, 1, 0, 0, 0), (.iconst 0, 1, 0, 0, 0), (.iconst 3, 1, 3, 0, 0)], some (.invokestatic 43, 3, 105, 3, 0)),
  (13, [], some (.ifCond .ne 5, 3, 0, 0, 0)),
  (16, [(.iconst (-1), 1, 1, 1, 0)], some (.ireturn, 1, 0, 0, 0)),
  (18, [(.aload_n 0, 1, 0, 0, 0), (.iload_n 1, 1, 0, 0, 0)], some (.invokevirtual 200, 3, 159, 2, 3)),
  (23, [(.iload_n 2, 1, 0, 0, 0)], some (.ifCond .ne 13, 3, 0, 0, 0)),
  (27, [(.aload_n 0, 1, 0, 0, 0), (.getfield 13, 3, 3, 1, 0)], some (.invokestatic 193, 3, 133, 1, 0)),
  (34, [], some (.goto 34, 3, 0, 0, 0)),
  (37, [(.iload_n 2, 1, 0, 0, 0), (.iconst 1, 1, 1, 0, 0)], some (.if_icmp .ne 12, 3, 0, 0, 0)),
  (42, [(.aload_n 0, 1, 0, 0, 0), (.getfield 13, 3, 3, 1, 0), (.iconst 3, 1, 3, 0, 0), (.iaload, 1, 0, 0, 0)], some (.goto 20, 3, 0, 0, 0)),
  (51, [(.aload_n 0, 1, 0, 0, 0), (.getfield 13, 3, 3, 1, 0), (.aload_n 0, 1, 0, 0, 0), (.getfield 13, 3, 3, 1, 0), (.iload_n 2, 1, 0, 0, 0), (.iconst 2, 1, 2, 0, 0), (.isub, 1, 0, 0, 0)], some (.invokestatic 114, 3, 134, 2, 0)),
  (65, [], some (.invokestatic 204, 3, 135, 2, 0)),
  (68, [], some (.ireturn, 1, 0, 0, 0))]
def iX4_then : MI := (yX4_then, cX4_then, 3, (some .int), 3, 3, bX4_then)
abbrev jX4_fallsOf : Nat := 162
def bX4_fallsOf : List Blk := [(0, [(.aload_n 0, 1, 0, 0, 0), (.getfield 9, 3, 3, 0, 0), (.aload_n 0, 1, 0, 0, 0), (.getfield 13, 3, 3, 1, 0)], some (.invokestatic 177, 3, 108, 2, 0)),
  (11, [(.iconst 0, 1, 0, 0, 0), (.istore_n 2, 1, 0, 0, 0)], none),
  (13, [(.iload_n 2, 1, 0, 0, 0), (.bipush 60, 2, 60, 0, 0)], some (.if_icmp .gt 29, 3, 0, 0, 0)),
  (19, [(.aload_n 0, 1, 0, 0, 0), (.getfield 13, 3, 3, 1, 0), (.iload_n 1, 1, 0, 0, 0)], some (.invokestatic 78, 3, 114, 2, 0)),
  (27, [], some (.ifCond .ne 5, 3, 0, 0, 0)),
  (30, [(.iload_n 2, 1, 0, 0, 0)], some (.ireturn, 1, 0, 0, 0)),
  (32, [(.aload_n 0, 1, 0, 0, 0), (.getfield 13, 3, 3, 1, 0)], some (.invokestatic 132, 3, 137, 1, 0)),
  (39, [(.iinc 2 1, 3, 1, 0, 0)], some (.goto (-29), 3, 0, 0, 0)),
  (45, [(.bipush (-4), 2, 4, 1, 0)], some (.ireturn, 1, 0, 0, 0))]
def iX4_fallsOf : MI := (yX4_fallsOf, cX4_fallsOf, 3, (some .int), 3, 2, bX4_fallsOf)
abbrev jX4_firstFalls : Nat := 163
def bX4_firstFalls : List Blk := [(0, [(.bipush (-4), 2, 4, 1, 0), (.istore_n 1, 1, 0, 0, 0), (.ldc 207, 2, 1000000000, 0, 0), (.istore_n 2, 1, 0, 0, 0), (.iconst 0, 1, 0, 0, 0), (.istore_n 3, 1, 0, 0, 0)], none),
  (8, [(.iload_n 3, 1, 0, 0, 0), (.aload_n 0, 1, 0, 0, 0), (.getfield 9, 3, 3, 0, 0), (.iconst 0, 1, 0, 0, 0), (.iaload, 1, 0, 0, 0)], some (.if_icmp .ge 51, 3, 0, 0, 0)),
  (18, [(.aload_n 0, 1, 0, 0, 0), (.getfield 9, 3, 3, 0, 0), (.iload_n 3, 1, 0, 0, 0)], some (.invokestatic 78, 3, 114, 2, 0)),
  (26, [], some (.ifCond .eq 11, 3, 0, 0, 0)),
  (29, [(.aload_n 0, 1, 0, 0, 0), (.iload_n 3, 1, 0, 0, 0)], some (.invokevirtual 208, 3, 162, 2, 3)),
  (34, [], some (.goto 5, 3, 0, 0, 0)),
  (37, [(.bipush (-4), 2, 4, 1, 0)], none),
  (39, [(.istore 4, 2, 0, 0, 0), (.iload 4, 2, 0, 0, 0)], some (.ifCond .lt 17, 3, 0, 0, 0)),
  (46, [(.iload 4, 2, 0, 0, 0), (.iload_n 2, 1, 0, 0, 0)], some (.if_icmp .lt 6, 3, 0, 0, 0)),
  (52, [], some (.goto 8, 3, 0, 0, 0)),
  (55, [(.iload_n 3, 1, 0, 0, 0), (.istore_n 1, 1, 0, 0, 0), (.iload 4, 2, 0, 0, 0), (.istore_n 2, 1, 0, 0, 0)], none),
  (60, [(.iinc 3 1, 3, 1, 0, 0)], some (.goto (-55), 3, 0, 0, 0)),
  (66, [(.iload_n 1, 1, 0, 0, 0)], some (.ireturn, 1, 0, 0, 0))]
def iX4_firstFalls : MI := (yX4_firstFalls, cX4_firstFalls, 5, (some .int), 3, 1, bX4_firstFalls)
abbrev jX4_falls : Nat := 164
def bX4_falls : List Blk := [(0, [(.iload_n 1, 1, 0, 0, 0), (.iconst (-1), 1, 1, 1, 0)], some (.if_icmp .ne 10, 3, 0, 0, 0)),
  (5, [(.aload_n 0, 1, 0, 0, 0)], some (.invokevirtual 211, 3, 163, 1, 3)),
  (9, [], some (.goto 20, 3, 0, 0, 0)),
  (12, [(.aload_n 0, 1, 0, 0, 0), (.iload_n 1, 1, 0, 0, 0)], some (.invokevirtual 47, 3, 110, 2, 3)),
  (17, [], some (.ifCond .eq 11, 3, 0, 0, 0)),
  (20, [(.aload_n 0, 1, 0, 0, 0), (.iload_n 1, 1, 0, 0, 0)], some (.invokevirtual 208, 3, 162, 2, 3)),
  (25, [], some (.goto 4, 3, 0, 0, 0)),
  (28, [(.iconst (-1), 1, 1, 1, 0)], none),
  (29, [], some (.ireturn, 1, 0, 0, 0))]
def iX4_falls : MI := (yX4_falls, cX4_falls, 2, (some .int), 3, 2, bX4_falls)
abbrev jX4_isMoved : Nat := 165
def bX4_isMoved : List Blk := [(0, [(.iconst 0, 1, 0, 0, 0), (.istore_n 1, 1, 0, 0, 0), (.aload_n 0, 1, 0, 0, 0), (.getfield 13, 3, 3, 1, 0), (.aload_n 0, 1, 0, 0, 0), (.getfield 19, 3, 3, 3, 0)], some (.invokestatic 177, 3, 108, 2, 0)),
  (13, [(.aload_n 0, 1, 0, 0, 0), (.getfield 13, 3, 3, 1, 0)], some (.invokestatic 132, 3, 137, 1, 0)),
  (20, [(.iconst 0, 1, 0, 0, 0), (.istore_n 2, 1, 0, 0, 0)], none),
  (22, [(.iload_n 2, 1, 0, 0, 0), (.aload_n 0, 1, 0, 0, 0), (.getfield 13, 3, 3, 1, 0), (.iconst 0, 1, 0, 0, 0), (.iaload, 1, 0, 0, 0)], some (.if_icmp .ge 40, 3, 0, 0, 0)),
  (32, [(.iload_n 1, 1, 0, 0, 0), (.aload_n 0, 1, 0, 0, 0), (.getfield 13, 3, 3, 1, 0), (.iload_n 2, 1, 0, 0, 0), (.iconst 3, 1, 3, 0, 0)], some (.invokestatic 51, 3, 109, 2, 0)),
  (42, [(.iaload, 1, 0, 0, 0), (.aload_n 0, 1, 0, 0, 0), (.getfield 19, 3, 3, 3, 0), (.iload_n 2, 1, 0, 0, 0), (.iconst 3, 1, 3, 0, 0)], some (.invokestatic 51, 3, 109, 2, 0)),
  (52, [(.iaload, 1, 0, 0, 0)], some (.if_icmp .eq 7, 3, 0, 0, 0)),
  (56, [(.iconst 1, 1, 1, 0, 0)], some (.goto 4, 3, 0, 0, 0)),
  (60, [(.iconst 0, 1, 0, 0, 0)], none),
  (61, [(.ior, 1, 0, 0, 0), (.istore_n 1, 1, 0, 0, 0), (.iinc 2 1, 3, 1, 0, 0)], some (.goto (-44), 3, 0, 0, 0)),
  (69, [(.iload_n 1, 1, 0, 0, 0)], some (.ireturn, 1, 1, 0, 0))]
def iX4_isMoved : MI := (yX4_isMoved, cX4_isMoved, 3, (some .boolean), 3, 1, bX4_isMoved)
abbrev jX4_still : Nat := 166
def bX4_still : List Blk := [(0, [(.aload_n 0, 1, 0, 0, 0), (.getfield 9, 3, 3, 0, 0), (.aload_n 0, 1, 0, 0, 0), (.getfield 13, 3, 3, 1, 0)], some (.invokestatic 177, 3, 108, 2, 0)),
  (11, [(.iconst 0, 1, 0, 0, 0), (.istore_n 1, 1, 0, 0, 0), (.iconst 0, 1, 0, 0, 0), (.istore_n 2, 1, 0, 0, 0)], none),
  (15, [(.iload_n 2, 1, 0, 0, 0), (.bipush 60, 2, 60, 0, 0)], some (.if_icmp .ge 35, 3, 0, 0, 0)),
  (21, [(.aload_n 0, 1, 0, 0, 0)], some (.invokevirtual 214, 3, 165, 1, 3)),
  (25, [], some (.ifCond .eq 7, 3, 0, 0, 0)),
  (28, [(.iconst 0, 1, 0, 0, 0)], some (.goto 6, 3, 0, 0, 0)),
  (32, [(.iload_n 1, 1, 0, 0, 0), (.iconst 1, 1, 1, 0, 0), (.iadd, 1, 0, 0, 0)], none),
  (35, [(.istore_n 1, 1, 0, 0, 0), (.iload_n 1, 1, 0, 0, 0), (.bipush 20, 2, 20, 0, 0)], some (.if_icmp .ne 8, 3, 0, 0, 0)),
  (42, [(.iload_n 2, 1, 0, 0, 0), (.bipush 19, 2, 19, 0, 0), (.isub, 1, 0, 0, 0)], some (.ireturn, 1, 0, 0, 0)),
  (47, [(.iinc 2 1, 3, 1, 0, 0)], some (.goto (-35), 3, 0, 0, 0)),
  (53, [(.bipush (-4), 2, 4, 1, 0)], some (.ireturn, 1, 0, 0, 0))]
def iX4_still : MI := (yX4_still, cX4_still, 3, (some .int), 3, 1, bX4_still)
abbrev jX4_next : Nat := 167
def bX4_next : List Blk := [(0, [(.iload_n 1, 1, 0, 0, 0), (.iconst 0, 1, 0, 0, 0), (.iconst 2, 1, 2, 0, 0)], some (.invokestatic 43, 3, 105, 3, 0)),
  (6, [], some (.ifCond .ne 5, 3, 0, 0, 0)),
  (9, [(.iconst (-1), 1, 1, 1, 0)], some (.ireturn, 1, 0, 0, 0)),
  (11, [(.aload_n 0, 1, 0, 0, 0), (.getfield 9, 3, 3, 0, 0), (.aload_n 0, 1, 0, 0, 0), (.getfield 9, 3, 3, 0, 0), (.iconst 1, 1, 1, 0, 0), (.iaload, 1, 0, 0, 0), (.iconst 1, 1, 1, 0, 0), (.iadd, 1, 0, 0, 0)], some (.invokestatic 126, 3, 136, 2, 0)),
  (26, [(.istore_n 2, 1, 0, 0, 0), (.iload_n 2, 1, 0, 0, 0)], some (.ifCond .ge 15, 3, 0, 0, 0)),
  (31, [(.iload_n 1, 1, 0, 0, 0), (.iconst 2, 1, 2, 0, 0)], some (.if_icmp .ne 7, 3, 0, 0, 0)),
  (36, [(.iconst 0, 1, 0, 0, 0)], some (.goto 5, 3, 0, 0, 0)),
  (40, [(.bipush (-4), 2, 4, 1, 0)], none),
  (42, [], some (.ireturn, 1, 0, 0, 0)),
  (43, [(.iload_n 1, 1, 0, 0, 0)], some (.ifCond .ne 7, 3, 0, 0, 0)),
  (47, [(.iload_n 2, 1, 0, 0, 0)], some (.goto 27, 3, 0, 0, 0)),
  (51, [(.iload_n 1, 1, 0, 0, 0), (.iconst 1, 1, 1, 0, 0)], some (.if_icmp .ne 11, 3, 0, 0, 0)),
  (56, [(.aload_n 0, 1, 0, 0, 0), (.iload_n 2, 1, 0, 0, 0)], some (.invokevirtual 184, 3, 148, 2, 3)),
  (61, [], some (.goto 14, 3, 0, 0, 0)),
  (64, [(.aload_n 0, 1, 0, 0, 0), (.getfield 9, 3, 3, 0, 0), (.iload_n 2, 1, 0, 0, 0)], some (.invokestatic 120, 3, 132, 2, 0)),
  (72, [], some (.invokestatic 123, 3, 116, 1, 0)),
  (75, [], some (.ireturn, 1, 0, 0, 0))]
def iX4_next : MI := (yX4_next, cX4_next, 3, (some .int), 3, 2, bX4_next)
abbrev jX4_heard : Nat := 168
def bX4_heard : List Blk := [(0, [(.aload_n 0, 1, 0, 0, 0), (.iload_n 1, 1, 0, 0, 0)], some (.invokevirtual 47, 3, 110, 2, 3)),
  (5, [], some (.ifCond .ne 5, 3, 0, 0, 0)),
  (8, [(.iconst (-1), 1, 1, 1, 0)], some (.ireturn, 1, 0, 0, 0)),
  (10, [(.aload_n 0, 1, 0, 0, 0), (.getfield 9, 3, 3, 0, 0), (.iload_n 1, 1, 0, 0, 0)], some (.invokestatic 78, 3, 114, 2, 0)),
  (18, [], some (.ifCond .eq 14, 3, 0, 0, 0)),
  (21, [(.aload_n 0, 1, 0, 0, 0), (.getfield 9, 3, 3, 0, 0), (.iload_n 1, 1, 0, 0, 0)], some (.invokestatic 120, 3, 132, 2, 0)),
  (29, [], some (.goto 5, 3, 0, 0, 0)),
  (32, [(.bipush (-3), 2, 3, 1, 0)], none),
  (34, [], some (.ireturn, 1, 0, 0, 0))]
def iX4_heard : MI := (yX4_heard, cX4_heard, 2, (some .int), 3, 2, bX4_heard)
abbrev jX4_danger : Nat := 169
def bX4_danger : List Blk := [(0, [(.iload_n 1, 1, 0, 0, 0)], some (.invokestatic 153, 3, 113, 1, 0)),
  (4, [], some (.ifCond .ne 5, 3, 0, 0, 0)),
  (7, [(.iconst (-1), 1, 1, 1, 0)], some (.ireturn, 1, 0, 0, 0)),
  (9, [(.iconst 0, 1, 0, 0, 0), (.istore_n 2, 1, 0, 0, 0), (.iconst 0, 1, 0, 0, 0), (.istore_n 3, 1, 0, 0, 0)], none),
  (13, [(.iload_n 3, 1, 0, 0, 0), (.aload_n 0, 1, 0, 0, 0), (.getfield 9, 3, 3, 0, 0), (.iconst 0, 1, 0, 0, 0), (.iaload, 1, 0, 0, 0)], some (.if_icmp .ge 86, 3, 0, 0, 0)),
  (23, [(.aload_n 0, 1, 0, 0, 0), (.getfield 9, 3, 3, 0, 0), (.iload_n 3, 1, 0, 0, 0), (.iconst 2, 1, 2, 0, 0)], some (.invokestatic 51, 3, 109, 2, 0)),
  (32, [(.iaload, 1, 0, 0, 0), (.iload_n 1, 1, 0, 0, 0)], some (.if_icmp .ne 8, 3, 0, 0, 0)),
  (37, [(.bipush (-4), 2, 4, 1, 0)], some (.goto 8, 3, 0, 0, 0)),
  (42, [(.aload_n 0, 1, 0, 0, 0), (.iload_n 3, 1, 0, 0, 0)], some (.invokevirtual 184, 3, 148, 2, 3)),
  (47, [(.istore 4, 2, 0, 0, 0), (.iload 4, 2, 0, 0, 0)], some (.ifCond .ge 7, 3, 0, 0, 0)),
  (54, [(.iconst (-1), 1, 1, 1, 0)], some (.goto 12, 3, 0, 0, 0)),
  (58, [(.aload_n 0, 1, 0, 0, 0), (.getfield 9, 3, 3, 0, 0), (.iload 4, 2, 0, 0, 0)], some (.invokestatic 55, 3, 117, 2, 0)),
  (67, [(.istore 5, 2, 0, 0, 0), (.iload_n 2, 1, 0, 0, 0), (.iload 5, 2, 0, 0, 0)], some (.ifCond .lt 25, 3, 0, 0, 0)),
  (75, [(.aload_n 0, 1, 0, 0, 0), (.getfield 9, 3, 3, 0, 0), (.iload 5, 2, 0, 0, 0), (.iconst 2, 1, 2, 0, 0)], some (.invokestatic 51, 3, 109, 2, 0)),
  (85, [(.iaload, 1, 0, 0, 0), (.iload_n 1, 1, 0, 0, 0)], some (.if_icmp .ne 10, 3, 0, 0, 0)),
  (90, [(.iconst 1, 1, 1, 0, 0), (.iload 5, 2, 0, 0, 0), (.ishl, 1, 0, 0, 0)], some (.goto 4, 3, 0, 0, 0)),
  (97, [(.iconst 0, 1, 0, 0, 0)], none),
  (98, [(.ior, 1, 0, 0, 0), (.istore_n 2, 1, 0, 0, 0), (.iinc 3 1, 3, 1, 0, 0)], some (.goto (-90), 3, 0, 0, 0)),
  (106, [(.iload_n 2, 1, 0, 0, 0)], some (.ireturn, 1, 0, 0, 0))]
def iX4_danger : MI := (yX4_danger, cX4_danger, 6, (some .int), 3, 2, bX4_danger)
abbrev jX4_stand : Nat := 170
def bX4_stand : List Blk := [(0, [(.aload_n 0, 1, 0, 0, 0), (.iload_n 1, 1, 0, 0, 0)], some (.invokevirtual 47, 3, 110, 2, 3)),
  (5, [], some (.ifCond .eq 22, 3, 0, 0, 0)),
  (8, [(.iload_n 2, 1, 0, 0, 0), (.iconst 0, 1, 0, 0, 0), (.bipush 20, 2, 20, 0, 0)], some (.invokestatic 43, 3, 105, 3, 0)),
  (15, [], some (.ifCond .eq 12, 3, 0, 0, 0)),
  (18, [(.iload_n 3, 1, 0, 0, 0), (.iconst 0, 1, 0, 0, 0), (.iconst 1, 1, 1, 0, 0)], some (.invokestatic 43, 3, 105, 3, 0)),
  (24, [], some (.ifCond .ne 5, 3, 0, 0, 0)),
  (27, [(.iconst (-1), 1, 1, 1, 0)], some (.ireturn, 1, 0, 0, 0)),
  (29, [(.aload_n 0, 1, 0, 0, 0), (.getfield 9, 3, 3, 0, 0), (.iload_n 1, 1, 0, 0, 0)], some (.invokestatic 78, 3, 114, 2, 0)),
  (37, [], some (.ifCond .ne 6, 3, 0, 0, 0)),
  (40, [(.bipush (-3), 2, 3, 1, 0)], some (.ireturn, 1, 0, 0, 0)),
  (43, [(.aload_n 0, 1, 0, 0, 0), (.getfield 9, 3, 3, 0, 0), (.iload_n 1, 1, 0, 0, 0), (.iconst 2, 1, 2, 0, 0)], some (.invokestatic 51, 3, 109, 2, 0)),
  (52, [(.iaload, 1, 0, 0, 0), (.istore 4, 2, 0, 0, 0), (.iconst 0, 1, 0, 0, 0), (.istore 5, 2, 0, 0, 0), (.ldc 217, 2, 1000000000, 1, 0), (.istore 6, 2, 0, 0, 0), (.iconst 0, 1, 0, 0, 0), (.istore 7, 2, 0, 0, 0)], none),
  (65, [(.iload 7, 2, 0, 0, 0), (.bipush 36, 2, 36, 0, 0)], some (.if_icmp .ge 108, 3, 0, 0, 0)),
  (72, [(.aload_n 0, 1, 0, 0, 0), (.iload_n 1, 1, 0, 0, 0), (.iload 7, 2, 0, 0, 0)], some (.invokevirtual 163, 3, 143, 3, 3)),
  (79, [], some (.ifCond .ne 6, 3, 0, 0, 0)),
  (82, [], some (.goto 89, 3, 0, 0, 0)),
  (85, [(.aload_n 0, 1, 0, 0, 0), (.getfield 9, 3, 3, 0, 0), (.aload_n 0, 1, 0, 0, 0), (.getfield 13, 3, 3, 1, 0)], some (.invokestatic 177, 3, 108, 2, 0)),
  (96, [(.aload_n 0, 1, 0, 0, 0), (.getfield 13, 3, 3, 1, 0), (.iload_n 1, 1, 0, 0, 0), (.iconst 3, 1, 3, 0, 0)], some (.invokestatic 51, 3, 109, 2, 0)),
  (105, [(.iload 7, 2, 0, 0, 0), (.iastore, 1, 0, 0, 0), (.aload_n 0, 1, 0, 0, 0), (.getfield 13, 3, 3, 1, 0), (.iload_n 2, 1, 0, 0, 0)], some (.invokestatic 166, 3, 138, 2, 0)),
  (116, [(.aload_n 0, 1, 0, 0, 0), (.getfield 13, 3, 3, 1, 0), (.aload_n 0, 1, 0, 0, 0), (.getfield 13, 3, 3, 1, 0), (.iload 4, 2, 0, 0, 0)], some (.invokestatic 114, 3, 134, 2, 0)),
  (129, [], some (.invokestatic 204, 3, 135, 2, 0)),
  (132, [(.aload_n 0, 1, 0, 0, 0), (.getfield 13, 3, 3, 1, 0), (.aload_n 0, 1, 0, 0, 0), (.getfield 13, 3, 3, 1, 0), (.iconst 1, 1, 1, 0, 0), (.iload 4, 2, 0, 0, 0), (.isub, 1, 0, 0, 0)], some (.invokestatic 114, 3, 134, 2, 0)),
  (147, [], some (.invokestatic 204, 3, 135, 2, 0)),
  (150, [(.isub, 1, 0, 0, 0), (.istore 8, 2, 0, 0, 0), (.iload 8, 2, 0, 0, 0), (.iload 6, 2, 0, 0, 0)], some (.if_icmp .gt 6, 3, 0, 0, 0)),
  (160, [], some (.goto 11, 3, 0, 0, 0)),
  (163, [(.iload 7, 2, 0, 0, 0), (.istore 5, 2, 0, 0, 0), (.iload 8, 2, 0, 0, 0), (.istore 6, 2, 0, 0, 0)], none),
  (171, [(.iinc 7 1, 3, 1, 0, 0)], some (.goto (-109), 3, 0, 0, 0)),
  (177, [(.iload_n 3, 1, 0, 0, 0)], some (.ifCond .ne 8, 3, 0, 0, 0)),
  (181, [(.iload 5, 2, 0, 0, 0)], some (.goto 8, 3, 0, 0, 0)),
  (186, [(.iload 6, 2, 0, 0, 0), (.bipush 100, 2, 100, 0, 0), (.iadd, 1, 0, 0, 0)], none),
  (191, [], some (.ireturn, 1, 0, 0, 0))]
def iX4_stand : MI := (yX4_stand, cX4_stand, 9, (some .int), 3, 4, bX4_stand)
abbrev jX4_off : Nat := 171
def bX4_off : List Blk := [(0, [(.iload_n 1, 1, 0, 0, 0), (.iconst 0, 1, 0, 0, 0), (.bipush 30, 2, 30, 0, 0)], some (.invokestatic 43, 3, 105, 3, 0)),
  (7, [], some (.ifCond .ne 5, 3, 0, 0, 0)),
  (10, [(.iconst (-1), 1, 1, 1, 0)], some (.ireturn, 1, 0, 0, 0)),
  (12, [(.bipush (-4), 2, 4, 1, 0), (.istore_n 2, 1, 0, 0, 0), (.iconst (-1), 1, 1, 1, 0), (.istore_n 3, 1, 0, 0, 0), (.iconst 0, 1, 0, 0, 0), (.istore 4, 2, 0, 0, 0)], none),
  (20, [(.iload 4, 2, 0, 0, 0), (.aload_n 0, 1, 0, 0, 0), (.getfield 9, 3, 3, 0, 0), (.iconst 0, 1, 0, 0, 0), (.iaload, 1, 0, 0, 0)], some (.if_icmp .ge 139, 3, 0, 0, 0)),
  (31, [(.aload_n 0, 1, 0, 0, 0), (.getfield 9, 3, 3, 0, 0), (.iload 4, 2, 0, 0, 0)], some (.invokestatic 78, 3, 114, 2, 0)),
  (40, [], some (.ifCond .ne 6, 3, 0, 0, 0)),
  (43, [], some (.goto 118, 3, 0, 0, 0)),
  (46, [(.aload_n 0, 1, 0, 0, 0), (.getfield 9, 3, 3, 0, 0), (.iload 4, 2, 0, 0, 0), (.iconst 2, 1, 2, 0, 0)], some (.invokestatic 51, 3, 109, 2, 0)),
  (56, [(.iaload, 1, 0, 0, 0), (.istore 5, 2, 0, 0, 0), (.aload_n 0, 1, 0, 0, 0), (.iload_n 1, 1, 0, 0, 0)], some (.invokevirtual 200, 3, 159, 2, 3)),
  (64, [(.aload_n 0, 1, 0, 0, 0), (.getfield 13, 3, 3, 1, 0), (.aload_n 0, 1, 0, 0, 0), (.getfield 13, 3, 3, 1, 0), (.iload 5, 2, 0, 0, 0)], some (.invokestatic 114, 3, 134, 2, 0)),
  (77, [(.iconst 1, 1, 1, 0, 0), (.iload 4, 2, 0, 0, 0), (.ishl, 1, 0, 0, 0), (.iconst (-1), 1, 1, 1, 0), (.ixor, 1, 0, 0, 0), (.iand, 1, 0, 0, 0)], some (.invokestatic 204, 3, 135, 2, 0)),
  (87, [(.istore 6, 2, 0, 0, 0), (.aload_n 0, 1, 0, 0, 0), (.getfield 9, 3, 3, 0, 0), (.aload_n 0, 1, 0, 0, 0), (.getfield 13, 3, 3, 1, 0)], some (.invokestatic 177, 3, 108, 2, 0)),
  (100, [(.aload_n 0, 1, 0, 0, 0), (.getfield 13, 3, 3, 1, 0), (.iload 4, 2, 0, 0, 0), (.iconst 3, 1, 3, 0, 0)], some (.invokestatic 51, 3, 109, 2, 0)),
  (110, [(.bipush (-4), 2, 4, 1, 0), (.iastore, 1, 0, 0, 0), (.aload_n 0, 1, 0, 0, 0), (.getfield 13, 3, 3, 1, 0), (.iload_n 1, 1, 0, 0, 0)], some (.invokestatic 166, 3, 138, 2, 0)),
  (121, [(.aload_n 0, 1, 0, 0, 0), (.getfield 13, 3, 3, 1, 0), (.aload_n 0, 1, 0, 0, 0), (.getfield 13, 3, 3, 1, 0), (.iload 5, 2, 0, 0, 0)], some (.invokestatic 114, 3, 134, 2, 0)),
  (134, [], some (.invokestatic 204, 3, 135, 2, 0)),
  (137, [(.istore 7, 2, 0, 0, 0), (.iload 7, 2, 0, 0, 0), (.iload 6, 2, 0, 0, 0)], some (.if_icmp .le 18, 3, 0, 0, 0)),
  (146, [(.iload 7, 2, 0, 0, 0), (.iload_n 3, 1, 0, 0, 0)], some (.if_icmp .gt 6, 3, 0, 0, 0)),
  (152, [], some (.goto 9, 3, 0, 0, 0)),
  (155, [(.iload 4, 2, 0, 0, 0), (.istore_n 2, 1, 0, 0, 0), (.iload 7, 2, 0, 0, 0), (.istore_n 3, 1, 0, 0, 0)], none),
  (161, [(.iinc 4 1, 3, 1, 0, 0)], some (.goto (-144), 3, 0, 0, 0)),
  (167, [(.iload_n 2, 1, 0, 0, 0)], some (.ireturn, 1, 0, 0, 0))]
def iX4_off : MI := (yX4_off, cX4_off, 8, (some .int), 3, 2, bX4_off)
abbrev jX4_ears : Nat := 172
def bX4_ears : List Blk := [(0, [(.aload_n 0, 1, 0, 0, 0), (.iload_n 1, 1, 0, 0, 0), (.iload_n 2, 1, 0, 0, 0)], some (.invokevirtual 218, 3, 111, 3, 3)),
  (6, [], some (.ifCond .ne 5, 3, 0, 0, 0)),
  (9, [(.iconst (-1), 1, 1, 1, 0)], some (.ireturn, 1, 0, 0, 0)),
  (11, [(.iconst 0, 1, 0, 0, 0), (.istore_n 3, 1, 0, 0, 0)], none),
  (13, [(.iload_n 3, 1, 0, 0, 0), (.bipush 10, 2, 10, 0, 0)], some (.if_icmp .ge 45, 3, 0, 0, 0)),
  (19, [(.aload_n 0, 1, 0, 0, 0), (.getfield 9, 3, 3, 0, 0), (.aload_n 0, 1, 0, 0, 0), (.getfield 13, 3, 3, 1, 0)], some (.invokestatic 177, 3, 108, 2, 0)),
  (30, [(.aload_n 0, 1, 0, 0, 0), (.getfield 13, 3, 3, 1, 0), (.iload_n 1, 1, 0, 0, 0), (.iconst 1, 1, 1, 0, 0)], some (.invokestatic 51, 3, 109, 2, 0)),
  (39, [(.iload_n 3, 1, 0, 0, 0), (.iastore, 1, 0, 0, 0), (.aload_n 0, 1, 0, 0, 0), (.getfield 13, 3, 3, 1, 0), (.iload_n 1, 1, 0, 0, 0), (.iload_n 2, 1, 0, 0, 0)], some (.invokestatic 108, 3, 131, 3, 0)),
  (50, [], some (.ifCond .eq 5, 3, 0, 0, 0)),
  (53, [(.iload_n 3, 1, 0, 0, 0)], some (.ireturn, 1, 0, 0, 0)),
  (55, [(.iinc 3 1, 3, 1, 0, 0)], some (.goto (-45), 3, 0, 0, 0)),
  (61, [(.bipush (-4), 2, 4, 1, 0)], some (.ireturn, 1, 0, 0, 0))]
def iX4_ears : MI := (yX4_ears, cX4_ears, 4, (some .int), 3, 3, bX4_ears)
abbrev jX4_groupsOf : Nat := 173
def bX4_groupsOf : List Blk := [(0, [(.aload_n 0, 1, 0, 0, 0), (.getfield 9, 3, 3, 0, 0), (.iload_n 1, 1, 0, 0, 0)], some (.invokestatic 114, 3, 134, 2, 0)),
  (8, [(.istore_n 2, 1, 0, 0, 0), (.iconst 0, 1, 0, 0, 0), (.istore_n 3, 1, 0, 0, 0), (.iconst 0, 1, 0, 0, 0), (.istore 4, 2, 0, 0, 0)], none),
  (14, [(.iload 4, 2, 0, 0, 0), (.aload_n 0, 1, 0, 0, 0), (.getfield 9, 3, 3, 0, 0), (.iconst 0, 1, 0, 0, 0), (.iaload, 1, 0, 0, 0)], some (.if_icmp .ge 140, 3, 0, 0, 0)),
  (25, [(.iload_n 2, 1, 0, 0, 0), (.iload 4, 2, 0, 0, 0)], some (.invokestatic 84, 3, 115, 2, 0)),
  (31, [], some (.ifCond .ne 6, 3, 0, 0, 0)),
  (34, [], some (.goto 122, 3, 0, 0, 0)),
  (37, [(.iconst 1, 1, 1, 0, 0), (.iload 4, 2, 0, 0, 0), (.ishl, 1, 0, 0, 0), (.istore 5, 2, 0, 0, 0), (.iconst 0, 1, 0, 0, 0), (.istore 6, 2, 0, 0, 0)], none),
  (46, [(.iload 6, 2, 0, 0, 0), (.bipush 10, 2, 10, 0, 0)], some (.if_icmp .ge 96, 3, 0, 0, 0)),
  (53, [(.iconst 0, 1, 0, 0, 0), (.istore 7, 2, 0, 0, 0)], none),
  (56, [(.iload 7, 2, 0, 0, 0), (.aload_n 0, 1, 0, 0, 0), (.getfield 9, 3, 3, 0, 0), (.iconst 0, 1, 0, 0, 0), (.iaload, 1, 0, 0, 0)], some (.if_icmp .ge 76, 3, 0, 0, 0)),
  (67, [(.iconst 0, 1, 0, 0, 0), (.istore 8, 2, 0, 0, 0)], none),
  (70, [(.iload 8, 2, 0, 0, 0), (.aload_n 0, 1, 0, 0, 0), (.getfield 9, 3, 3, 0, 0), (.iconst 0, 1, 0, 0, 0), (.iaload, 1, 0, 0, 0)], some (.if_icmp .ge 56, 3, 0, 0, 0)),
  (81, [(.iload 5, 2, 0, 0, 0), (.iload 7, 2, 0, 0, 0)], some (.invokestatic 84, 3, 115, 2, 0)),
  (88, [], some (.ifCond .eq 40, 3, 0, 0, 0)),
  (91, [(.aload_n 0, 1, 0, 0, 0), (.getfield 9, 3, 3, 0, 0), (.iload 7, 2, 0, 0, 0), (.iload 8, 2, 0, 0, 0)], some (.invokestatic 108, 3, 131, 3, 0)),
  (102, [], some (.ifCond .ne 17, 3, 0, 0, 0)),
  (105, [(.aload_n 0, 1, 0, 0, 0), (.getfield 9, 3, 3, 0, 0), (.iload 8, 2, 0, 0, 0), (.iload 7, 2, 0, 0, 0)], some (.invokestatic 108, 3, 131, 3, 0)),
  (116, [], some (.ifCond .eq 12, 3, 0, 0, 0)),
  (119, [(.iload 5, 2, 0, 0, 0), (.iconst 1, 1, 1, 0, 0), (.iload 8, 2, 0, 0, 0), (.ishl, 1, 0, 0, 0), (.ior, 1, 0, 0, 0), (.istore 5, 2, 0, 0, 0)], none),
  (128, [(.iinc 8 1, 3, 1, 0, 0)], some (.goto (-61), 3, 0, 0, 0)),
  (134, [(.iinc 7 1, 3, 1, 0, 0)], some (.goto (-81), 3, 0, 0, 0)),
  (140, [(.iinc 6 1, 3, 1, 0, 0)], some (.goto (-97), 3, 0, 0, 0)),
  (146, [(.iload_n 2, 1, 0, 0, 0), (.iload 5, 2, 0, 0, 0), (.iconst (-1), 1, 1, 1, 0), (.ixor, 1, 0, 0, 0), (.iand, 1, 0, 0, 0), (.istore_n 2, 1, 0, 0, 0), (.iinc 3 1, 3, 1, 0, 0)], none),
  (156, [(.iinc 4 1, 3, 1, 0, 0)], some (.goto (-145), 3, 0, 0, 0)),
  (162, [(.iload_n 3, 1, 0, 0, 0)], some (.ireturn, 1, 0, 0, 0))]
def iX4_groupsOf : MI := (yX4_groupsOf, cX4_groupsOf, 9, (some .int), 3, 2, bX4_groupsOf)
abbrev jX4_farthestOf : Nat := 174
def bX4_farthestOf : List Blk := [(0, [(.bipush (-4), 2, 4, 1, 0), (.istore_n 2, 1, 0, 0, 0), (.iconst 0, 1, 0, 0, 0), (.istore_n 3, 1, 0, 0, 0)], none),
  (5, [(.iload_n 3, 1, 0, 0, 0), (.aload_n 0, 1, 0, 0, 0), (.getfield 9, 3, 3, 0, 0), (.iconst 0, 1, 0, 0, 0), (.iaload, 1, 0, 0, 0)], some (.if_icmp .ge 90, 3, 0, 0, 0)),
  (15, [(.aload_n 0, 1, 0, 0, 0), (.getfield 9, 3, 3, 0, 0), (.iload_n 3, 1, 0, 0, 0)], some (.invokestatic 78, 3, 114, 2, 0)),
  (23, [], some (.ifCond .eq 73, 3, 0, 0, 0)),
  (26, [(.aload_n 0, 1, 0, 0, 0), (.getfield 9, 3, 3, 0, 0), (.iload_n 3, 1, 0, 0, 0), (.iconst 2, 1, 2, 0, 0)], some (.invokestatic 51, 3, 109, 2, 0)),
  (35, [(.iaload, 1, 0, 0, 0), (.iload_n 1, 1, 0, 0, 0)], some (.if_icmp .eq 6, 3, 0, 0, 0)),
  (40, [], some (.goto 56, 3, 0, 0, 0)),
  (43, [(.iload_n 2, 1, 0, 0, 0)], some (.ifCond .ge 7, 3, 0, 0, 0)),
  (47, [(.iconst 1, 1, 1, 0, 0)], some (.goto 39, 3, 0, 0, 0)),
  (51, [(.aload_n 0, 1, 0, 0, 0), (.getfield 9, 3, 3, 0, 0), (.iload_n 3, 1, 0, 0, 0), (.iconst 3, 1, 3, 0, 0)], some (.invokestatic 51, 3, 109, 2, 0)),
  (60, [(.iaload, 1, 0, 0, 0), (.bipush 6, 2, 6, 0, 0), (.idiv, 1, 0, 0, 0), (.aload_n 0, 1, 0, 0, 0), (.getfield 9, 3, 3, 0, 0), (.iload_n 2, 1, 0, 0, 0), (.iconst 3, 1, 3, 0, 0)], some (.invokestatic 51, 3, 109, 2, 0)),
  (73, [(.iaload, 1, 0, 0, 0), (.bipush 6, 2, 6, 0, 0), (.idiv, 1, 0, 0, 0), (.isub, 1, 0, 0, 0), (.aload_n 0, 1, 0, 0, 0), (.getfield 9, 3, 3, 0, 0), (.iload_n 3, 1, 0, 0, 0)], some (.invokestatic 63, 3, 122, 2, 0)),
  (86, [(.imul, 1, 0, 0, 0)], none),
  (87, [(.istore 4, 2, 0, 0, 0), (.iload 4, 2, 0, 0, 0)], some (.ifCond .le 5, 3, 0, 0, 0)),
  (94, [(.iload_n 3, 1, 0, 0, 0), (.istore_n 2, 1, 0, 0, 0)], none),
  (96, [(.iinc 3 1, 3, 1, 0, 0)], some (.goto (-94), 3, 0, 0, 0)),
  (102, [(.iload_n 2, 1, 0, 0, 0)], some (.ireturn, 1, 0, 0, 0))]
def iX4_farthestOf : MI := (yX4_farthestOf, cX4_farthestOf, 5, (some .int), 3, 2, bX4_farthestOf)
abbrev jX4_side : Nat := 175
def bX4_side : List Blk := [(0, [(.iload_n 1, 1, 0, 0, 0)], some (.invokestatic 153, 3, 113, 1, 0)),
  (4, [], some (.ifCond .eq 12, 3, 0, 0, 0)),
  (7, [(.iload_n 2, 1, 0, 0, 0), (.iconst 0, 1, 0, 0, 0), (.iconst 3, 1, 3, 0, 0)], some (.invokestatic 43, 3, 105, 3, 0)),
  (13, [], some (.ifCond .ne 5, 3, 0, 0, 0)),
  (16, [(.iconst (-1), 1, 1, 1, 0)], some (.ireturn, 1, 0, 0, 0)),
  (18, [(.aload_n 0, 1, 0, 0, 0), (.getfield 9, 3, 3, 0, 0), (.iload_n 1, 1, 0, 0, 0)], some (.invokestatic 114, 3, 134, 2, 0)),
  (26, [(.istore_n 3, 1, 0, 0, 0), (.iload_n 2, 1, 0, 0, 0)], some (.ifCond .ne 11, 3, 0, 0, 0)),
  (31, [(.aload_n 0, 1, 0, 0, 0), (.iload_n 1, 1, 0, 0, 0)], some (.invokevirtual 221, 3, 173, 2, 3)),
  (36, [], some (.goto 36, 3, 0, 0, 0)),
  (39, [(.iload_n 2, 1, 0, 0, 0), (.iconst 1, 1, 1, 0, 0)], some (.if_icmp .ne 14, 3, 0, 0, 0)),
  (44, [(.aload_n 0, 1, 0, 0, 0), (.getfield 9, 3, 3, 0, 0), (.iload_n 3, 1, 0, 0, 0)], some (.invokestatic 204, 3, 135, 2, 0)),
  (52, [], some (.goto 20, 3, 0, 0, 0)),
  (55, [(.iload_n 2, 1, 0, 0, 0), (.iconst 2, 1, 2, 0, 0)], some (.if_icmp .ne 11, 3, 0, 0, 0)),
  (60, [(.aload_n 0, 1, 0, 0, 0), (.iload_n 1, 1, 0, 0, 0)], some (.invokevirtual 224, 3, 174, 2, 3)),
  (65, [], some (.goto 7, 3, 0, 0, 0)),
  (68, [(.iload_n 3, 1, 0, 0, 0)], some (.invokestatic 123, 3, 116, 1, 0)),
  (72, [], some (.ireturn, 1, 0, 0, 0))]
def iX4_side : MI := (yX4_side, cX4_side, 4, (some .int), 3, 3, bX4_side)
abbrev jX4_pairs : Nat := 176
def bX4_pairs : List Blk := [(0, [(.iconst 0, 1, 0, 0, 0), (.istore_n 1, 1, 0, 0, 0), (.iconst 0, 1, 0, 0, 0), (.istore_n 2, 1, 0, 0, 0)], none),
  (4, [(.iload_n 2, 1, 0, 0, 0), (.aload_n 0, 1, 0, 0, 0), (.getfield 9, 3, 3, 0, 0), (.iconst 0, 1, 0, 0, 0), (.iaload, 1, 0, 0, 0)], some (.if_icmp .ge 109, 3, 0, 0, 0)),
  (14, [(.iload_n 2, 1, 0, 0, 0), (.iconst 1, 1, 1, 0, 0), (.iadd, 1, 0, 0, 0), (.istore_n 3, 1, 0, 0, 0)], none),
  (18, [(.iload_n 3, 1, 0, 0, 0), (.aload_n 0, 1, 0, 0, 0), (.getfield 9, 3, 3, 0, 0), (.iconst 0, 1, 0, 0, 0), (.iaload, 1, 0, 0, 0)], some (.if_icmp .ge 89, 3, 0, 0, 0)),
  (28, [(.iload_n 1, 1, 0, 0, 0), (.aload_n 0, 1, 0, 0, 0), (.getfield 9, 3, 3, 0, 0), (.iload_n 2, 1, 0, 0, 0)], some (.invokestatic 78, 3, 114, 2, 0)),
  (37, [], some (.ifCond .eq 68, 3, 0, 0, 0)),
  (40, [(.aload_n 0, 1, 0, 0, 0), (.getfield 9, 3, 3, 0, 0), (.iload_n 3, 1, 0, 0, 0)], some (.invokestatic 78, 3, 114, 2, 0)),
  (48, [], some (.ifCond .eq 57, 3, 0, 0, 0)),
  (51, [(.aload_n 0, 1, 0, 0, 0), (.getfield 9, 3, 3, 0, 0), (.iload_n 2, 1, 0, 0, 0), (.iconst 2, 1, 2, 0, 0)], some (.invokestatic 51, 3, 109, 2, 0)),
  (60, [(.iaload, 1, 0, 0, 0), (.aload_n 0, 1, 0, 0, 0), (.getfield 9, 3, 3, 0, 0), (.iload_n 3, 1, 0, 0, 0), (.iconst 2, 1, 2, 0, 0)], some (.invokestatic 51, 3, 109, 2, 0)),
  (70, [(.iaload, 1, 0, 0, 0)], some (.if_icmp .eq 34, 3, 0, 0, 0)),
  (74, [(.aload_n 0, 1, 0, 0, 0), (.getfield 9, 3, 3, 0, 0), (.iload_n 2, 1, 0, 0, 0), (.iconst 3, 1, 3, 0, 0)], some (.invokestatic 51, 3, 109, 2, 0)),
  (83, [(.iaload, 1, 0, 0, 0), (.aload_n 0, 1, 0, 0, 0), (.getfield 9, 3, 3, 0, 0), (.iload_n 3, 1, 0, 0, 0), (.iconst 3, 1, 3, 0, 0)], some (.invokestatic 51, 3, 109, 2, 0)),
  (93, [(.iaload, 1, 0, 0, 0)], some (.invokestatic 81, 3, 121, 2, 0)),
  (97, [(.iconst 1, 1, 1, 0, 0)], some (.if_icmp .ne 7, 3, 0, 0, 0)),
  (101, [(.iconst 1, 1, 1, 0, 0)], some (.goto 4, 3, 0, 0, 0)),
  (105, [(.iconst 0, 1, 0, 0, 0)], none),
  (106, [(.iadd, 1, 0, 0, 0), (.istore_n 1, 1, 0, 0, 0), (.iinc 3 1, 3, 1, 0, 0)], some (.goto (-93), 3, 0, 0, 0)),
  (114, [(.iinc 2 1, 3, 1, 0, 0)], some (.goto (-113), 3, 0, 0, 0)),
  (120, [(.iload_n 1, 1, 0, 0, 0)], some (.ireturn, 1, 0, 0, 0))]
def iX4_pairs : MI := (yX4_pairs, cX4_pairs, 4, (some .int), 3, 1, bX4_pairs)
abbrev jX4_quietOnes : Nat := 177
def bX4_quietOnes : List Blk := [(0, [(.iconst 0, 1, 0, 0, 0), (.istore_n 1, 1, 0, 0, 0), (.iconst 0, 1, 0, 0, 0), (.istore_n 2, 1, 0, 0, 0)], none),
  (4, [(.iload_n 2, 1, 0, 0, 0), (.aload_n 0, 1, 0, 0, 0), (.getfield 9, 3, 3, 0, 0), (.iconst 0, 1, 0, 0, 0), (.iaload, 1, 0, 0, 0)], some (.if_icmp .ge 38, 3, 0, 0, 0)),
  (14, [(.iload_n 1, 1, 0, 0, 0), (.aload_n 0, 1, 0, 0, 0), (.getfield 9, 3, 3, 0, 0), (.iload_n 2, 1, 0, 0, 0)], some (.invokestatic 78, 3, 114, 2, 0)),
  (23, [], some (.ifCond .eq 17, 3, 0, 0, 0)),
  (26, [(.aload_n 0, 1, 0, 0, 0), (.iload_n 2, 1, 0, 0, 0)], some (.invokevirtual 184, 3, 148, 2, 3)),
  (31, [], some (.ifCond .ge 9, 3, 0, 0, 0)),
  (34, [(.iconst 1, 1, 1, 0, 0), (.iload_n 2, 1, 0, 0, 0), (.ishl, 1, 0, 0, 0)], some (.goto 4, 3, 0, 0, 0)),
  (40, [(.iconst 0, 1, 0, 0, 0)], none),
  (41, [(.ior, 1, 0, 0, 0), (.istore_n 1, 1, 0, 0, 0), (.iinc 2 1, 3, 1, 0, 0)], some (.goto (-42), 3, 0, 0, 0)),
  (49, [(.iload_n 1, 1, 0, 0, 0)], some (.ireturn, 1, 0, 0, 0))]
def iX4_quietOnes : MI := (yX4_quietOnes, cX4_quietOnes, 3, (some .int), 3, 1, bX4_quietOnes)
abbrev jX4_free : Nat := 178
def bX4_free : List Blk := [(0, [(.iload_n 1, 1, 0, 0, 0)], some (.ifCond .ne 19, 3, 0, 0, 0)),
  (4, [(.bipush 36, 2, 36, 0, 0), (.aload_n 0, 1, 0, 0, 0), (.getfield 9, 3, 3, 0, 0)], some (.invokestatic 193, 3, 133, 1, 0)),
  (13, [], some (.invokestatic 123, 3, 116, 1, 0)),
  (16, [(.isub, 1, 0, 0, 0)], some (.goto 28, 3, 0, 0, 0)),
  (20, [(.iload_n 1, 1, 0, 0, 0), (.iconst 1, 1, 1, 0, 0)], some (.if_icmp .ne 10, 3, 0, 0, 0)),
  (25, [(.aload_n 0, 1, 0, 0, 0)], some (.invokevirtual 227, 3, 176, 1, 3)),
  (29, [], some (.goto 16, 3, 0, 0, 0)),
  (32, [(.iload_n 1, 1, 0, 0, 0), (.iconst 2, 1, 2, 0, 0)], some (.if_icmp .ne 10, 3, 0, 0, 0)),
  (37, [(.aload_n 0, 1, 0, 0, 0)], some (.invokevirtual 230, 3, 177, 1, 3)),
  (41, [], some (.goto 4, 3, 0, 0, 0)),
  (44, [(.iconst (-1), 1, 1, 1, 0)], none),
  (45, [], some (.ireturn, 1, 0, 0, 0))]
def iX4_free : MI := (yX4_free, cX4_free, 2, (some .int), 3, 2, bX4_free)
abbrev jX4_leastOf : Nat := 179
def bX4_leastOf : List Blk := [(0, [(.iload_n 0, 1, 0, 0, 0)], some (.ifCond .ne 8, 3, 0, 0, 0)),
  (4, [(.bipush (-128), 2, 128, 1, 0)], some (.goto 16, 3, 0, 0, 0)),
  (9, [(.iload_n 0, 1, 0, 0, 0), (.iconst 1, 1, 1, 0, 0)], some (.if_icmp .ne 9, 3, 0, 0, 0)),
  (14, [(.sipush (-32768), 3, 32768, 1, 0)], some (.goto 5, 3, 0, 0, 0)),
  (20, [(.ldc 233, 2, 2147483648, 1, 0)], none),
  (22, [], some (.ireturn, 1, 0, 0, 0))]
def iX4_leastOf : MI := (yX4_leastOf, cX4_leastOf, 1, (some .int), 3, 1, bX4_leastOf)
abbrev jX4_isTold : Nat := 180
def bX4_isTold : List Blk := [(0, [(.aload_n 0, 1, 0, 0, 0), (.getfield 40, 3, 3, 15, 0), (.bipush 100, 2, 100, 0, 0), (.iload_n 1, 1, 0, 0, 0), (.imul, 1, 0, 0, 0), (.iload_n 2, 1, 0, 0, 0), (.iadd, 1, 0, 0, 0), (.iaload, 1, 0, 0, 0), (.aload_n 0, 1, 0, 0, 0), (.getfield 34, 3, 3, 13, 0), (.iload_n 1, 1, 0, 0, 0), (.iaload, 1, 0, 0, 0)], some (.invokestatic 234, 3, 179, 1, 0)),
  (20, [], some (.if_icmp .eq 18, 3, 0, 0, 0)),
  (23, [(.aload_n 0, 1, 0, 0, 0), (.getfield 40, 3, 3, 15, 0), (.bipush 100, 2, 100, 0, 0), (.iload_n 1, 1, 0, 0, 0), (.imul, 1, 0, 0, 0), (.iload_n 2, 1, 0, 0, 0), (.iadd, 1, 0, 0, 0), (.iaload, 1, 0, 0, 0), (.iload_n 3, 1, 0, 0, 0)], some (.if_icmp .ne 7, 3, 0, 0, 0)),
  (38, [(.iconst 1, 1, 1, 0, 0)], some (.goto 4, 3, 0, 0, 0)),
  (42, [(.iconst 0, 1, 0, 0, 0)], none),
  (43, [], some (.ireturn, 1, 1, 0, 0))]
def iX4_isTold : MI := (yX4_isTold, cX4_isTold, 4, (some .boolean), 3, 4, bX4_isTold)
abbrev jX4_toldSquare : Nat := 181
def bX4_toldSquare : List Blk := [(0, [(.aload_n 0, 1, 0, 0, 0), (.iload_n 1, 1, 0, 0, 0)], some (.invokestatic 78, 3, 114, 2, 0)),
  (5, [], some (.ifCond .eq 13, 3, 0, 0, 0)),
  (8, [(.aload_n 0, 1, 0, 0, 0), (.iload_n 1, 1, 0, 0, 0), (.iconst 3, 1, 3, 0, 0)], some (.invokestatic 51, 3, 109, 2, 0)),
  (14, [(.iaload, 1, 0, 0, 0)], some (.goto 5, 3, 0, 0, 0)),
  (18, [(.bipush 36, 2, 36, 0, 0)], none),
  (20, [], some (.ireturn, 1, 0, 0, 0))]
def iX4_toldSquare : MI := (yX4_toldSquare, cX4_toldSquare, 2, (some .int), 3, 2, bX4_toldSquare)
abbrev jX4_isWhereSo : Nat := 182
def bX4_isWhereSo : List Blk := [(0, [(.iconst 0, 1, 0, 0, 0), (.istore_n 3, 1, 0, 0, 0)], none),
  (2, [(.iload_n 3, 1, 0, 0, 0), (.aload_n 0, 1, 0, 0, 0), (.getfield 37, 3, 3, 14, 0), (.iload_n 1, 1, 0, 0, 0), (.iaload, 1, 0, 0, 0)], some (.if_icmp .ge 35, 3, 0, 0, 0)),
  (12, [(.aload_n 0, 1, 0, 0, 0), (.iload_n 1, 1, 0, 0, 0), (.iload_n 3, 1, 0, 0, 0), (.aload_n 0, 1, 0, 0, 0), (.getfield 13, 3, 3, 1, 0), (.iload_n 2, 1, 0, 0, 0)], some (.invokestatic 237, 3, 181, 2, 0)),
  (23, [], some (.invokevirtual 240, 3, 180, 4, 3)),
  (26, [], some (.ifCond .ne 5, 3, 0, 0, 0)),
  (29, [(.iconst 0, 1, 0, 0, 0)], some (.ireturn, 1, 1, 0, 0)),
  (31, [(.aload_n 0, 1, 0, 0, 0), (.getfield 13, 3, 3, 1, 0)], some (.invokestatic 132, 3, 137, 1, 0)),
  (38, [(.iinc 3 1, 3, 1, 0, 0)], some (.goto (-39), 3, 0, 0, 0)),
  (44, [(.iconst 1, 1, 1, 0, 0)], some (.ireturn, 1, 1, 0, 0))]
def iX4_isWhereSo : MI := (yX4_isWhereSo, cX4_isWhereSo, 4, (some .boolean), 3, 3, bX4_isWhereSo)
abbrev jX4_whatIs : Nat := 183
def bX4_whatIs : List Blk := [(0, [(.aload_n 0, 1, 0, 0, 0), (.iload_n 2, 1, 0, 0, 0)], some (.invokevirtual 47, 3, 110, 2, 3)),
  (5, [], some (.ifCond .eq 12, 3, 0, 0, 0)),
  (8, [(.iload_n 3, 1, 0, 0, 0), (.iconst 0, 1, 0, 0, 0), (.iconst 1, 1, 1, 0, 0)], some (.invokestatic 43, 3, 105, 3, 0)),
  (14, [], some (.ifCond .ne 5, 3, 0, 0, 0)),
  (17, [(.iconst (-1), 1, 1, 1, 0)], some (.ireturn, 1, 0, 0, 0)),
  (19, [(.aload_n 0, 1, 0, 0, 0), (.iload_n 1, 1, 0, 0, 0), (.iconst (-1), 1, 1, 1, 0)], some (.invokevirtual 170, 3, 146, 3, 3)),
  (25, [(.istore 4, 2, 0, 0, 0), (.iload 4, 2, 0, 0, 0)], some (.ifCond .eq 6, 3, 0, 0, 0)),
  (32, [(.iload 4, 2, 0, 0, 0)], some (.ireturn, 1, 0, 0, 0)),
  (35, [(.iconst 0, 1, 0, 0, 0), (.istore 5, 2, 0, 0, 0), (.iconst 0, 1, 0, 0, 0), (.istore 6, 2, 0, 0, 0)], none),
  (41, [(.iload 6, 2, 0, 0, 0), (.iload_n 3, 1, 0, 0, 0)], some (.ifCond .ne 8, 3, 0, 0, 0)),
  (47, [(.bipush 8, 2, 8, 0, 0)], some (.goto 5, 3, 0, 0, 0)),
  (52, [(.bipush 10, 2, 10, 0, 0)], none),
  (54, [], some (.if_icmp .ge 54, 3, 0, 0, 0)),
  (57, [(.aload_n 0, 1, 0, 0, 0), (.getfield 9, 3, 3, 0, 0), (.aload_n 0, 1, 0, 0, 0), (.getfield 13, 3, 3, 1, 0)], some (.invokestatic 177, 3, 108, 2, 0)),
  (68, [(.aload_n 0, 1, 0, 0, 0), (.getfield 13, 3, 3, 1, 0), (.iload_n 2, 1, 0, 0, 0), (.iload_n 3, 1, 0, 0, 0)], some (.invokestatic 51, 3, 109, 2, 0)),
  (77, [(.iload 6, 2, 0, 0, 0), (.iastore, 1, 0, 0, 0), (.iload 5, 2, 0, 0, 0), (.aload_n 0, 1, 0, 0, 0), (.iload_n 1, 1, 0, 0, 0), (.iload_n 2, 1, 0, 0, 0)], some (.invokevirtual 243, 3, 182, 3, 3)),
  (88, [], some (.ifCond .eq 10, 3, 0, 0, 0)),
  (91, [(.iconst 1, 1, 1, 0, 0), (.iload 6, 2, 0, 0, 0), (.ishl, 1, 0, 0, 0)], some (.goto 4, 3, 0, 0, 0)),
  (98, [(.iconst 0, 1, 0, 0, 0)], none),
  (99, [(.ior, 1, 0, 0, 0), (.istore 5, 2, 0, 0, 0), (.iinc 6 1, 3, 1, 0, 0)], some (.goto (-64), 3, 0, 0, 0)),
  (108, [(.iload 5, 2, 0, 0, 0)], some (.ireturn, 1, 0, 0, 0))]
def iX4_whatIs : MI := (yX4_whatIs, cX4_whatIs, 7, (some .int), 3, 4, bX4_whatIs)
abbrev jX4_whereFrom : Nat := 184
def bX4_whereFrom : List Blk := [(0, [(.iload_n 1, 1, 0, 0, 0)], some (.invokestatic 246, 3, 145, 1, 0)),
  (4, [], some (.ifCond .eq 20, 3, 0, 0, 0)),
  (7, [(.aload_n 0, 1, 0, 0, 0), (.iload_n 2, 1, 0, 0, 0)], some (.invokevirtual 47, 3, 110, 2, 3)),
  (12, [], some (.ifCond .eq 12, 3, 0, 0, 0)),
  (15, [(.iload_n 3, 1, 0, 0, 0), (.iconst 0, 1, 0, 0, 0), (.iconst 2, 1, 2, 0, 0)], some (.invokestatic 43, 3, 105, 3, 0)),
  (21, [], some (.ifCond .ne 5, 3, 0, 0, 0)),
  (24, [(.iconst (-1), 1, 1, 1, 0)], some (.ireturn, 1, 0, 0, 0)),
  (26, [(.aload_n 0, 1, 0, 0, 0), (.getfield 9, 3, 3, 0, 0), (.iload_n 2, 1, 0, 0, 0)], some (.invokestatic 78, 3, 114, 2, 0)),
  (34, [], some (.ifCond .ne 6, 3, 0, 0, 0)),
  (37, [(.bipush (-3), 2, 3, 1, 0)], some (.ireturn, 1, 0, 0, 0)),
  (40, [(.aload_n 0, 1, 0, 0, 0), (.iload_n 1, 1, 0, 0, 0), (.iconst (-1), 1, 1, 1, 0)], some (.invokevirtual 170, 3, 146, 3, 3)),
  (46, [(.istore 4, 2, 0, 0, 0), (.iload 4, 2, 0, 0, 0)], some (.ifCond .eq 6, 3, 0, 0, 0)),
  (53, [(.iload 4, 2, 0, 0, 0)], some (.ireturn, 1, 0, 0, 0)),
  (56, [(.iconst 0, 1, 0, 0, 0), (.istore 5, 2, 0, 0, 0), (.bipush (-4), 2, 4, 1, 0), (.istore 6, 2, 0, 0, 0), (.bipush (-4), 2, 4, 1, 0), (.istore 7, 2, 0, 0, 0), (.iconst 0, 1, 0, 0, 0), (.istore 8, 2, 0, 0, 0)], none),
  (70, [(.iload 8, 2, 0, 0, 0), (.bipush 36, 2, 36, 0, 0)], some (.if_icmp .ge 85, 3, 0, 0, 0)),
  (77, [(.aload_n 0, 1, 0, 0, 0), (.iload_n 2, 1, 0, 0, 0), (.iload 8, 2, 0, 0, 0)], some (.invokevirtual 163, 3, 143, 3, 3)),
  (84, [], some (.ifCond .ne 6, 3, 0, 0, 0)),
  (87, [], some (.goto 66, 3, 0, 0, 0)),
  (90, [(.aload_n 0, 1, 0, 0, 0), (.getfield 9, 3, 3, 0, 0), (.aload_n 0, 1, 0, 0, 0), (.getfield 13, 3, 3, 1, 0)], some (.invokestatic 177, 3, 108, 2, 0)),
  (101, [(.aload_n 0, 1, 0, 0, 0), (.getfield 13, 3, 3, 1, 0), (.iload_n 2, 1, 0, 0, 0), (.iconst 3, 1, 3, 0, 0)], some (.invokestatic 51, 3, 109, 2, 0)),
  (110, [(.iload 8, 2, 0, 0, 0), (.iastore, 1, 0, 0, 0), (.aload_n 0, 1, 0, 0, 0), (.getfield 13, 3, 3, 1, 0)], some (.invokestatic 132, 3, 137, 1, 0)),
  (120, [(.aload_n 0, 1, 0, 0, 0), (.iload_n 1, 1, 0, 0, 0), (.iload_n 2, 1, 0, 0, 0)], some (.invokevirtual 243, 3, 182, 3, 3)),
  (126, [], some (.ifCond .ne 6, 3, 0, 0, 0)),
  (129, [], some (.goto 24, 3, 0, 0, 0)),
  (132, [(.iload 5, 2, 0, 0, 0)], some (.ifCond .ne 8, 3, 0, 0, 0)),
  (137, [(.iload 8, 2, 0, 0, 0)], some (.goto 5, 3, 0, 0, 0)),
  (142, [(.iload 6, 2, 0, 0, 0)], none),
  (144, [(.istore 6, 2, 0, 0, 0), (.iload 8, 2, 0, 0, 0), (.istore 7, 2, 0, 0, 0), (.iinc 5 1, 3, 1, 0, 0)], none),
  (153, [(.iinc 8 1, 3, 1, 0, 0)], some (.goto (-86), 3, 0, 0, 0)),
  (159, [(.iload_n 3, 1, 0, 0, 0)], some (.ifCond .ne 8, 3, 0, 0, 0)),
  (163, [(.iload 5, 2, 0, 0, 0)], some (.goto 15, 3, 0, 0, 0)),
  (168, [(.iload_n 3, 1, 0, 0, 0), (.iconst 1, 1, 1, 0, 0)], some (.if_icmp .ne 8, 3, 0, 0, 0)),
  (173, [(.iload 6, 2, 0, 0, 0)], some (.goto 5, 3, 0, 0, 0)),
  (178, [(.iload 7, 2, 0, 0, 0)], none),
  (180, [], some (.ireturn, 1, 0, 0, 0))]
def iX4_whereFrom : MI := (yX4_whereFrom, cX4_whereFrom, 9, (some .int), 3, 4, bX4_whereFrom)
abbrev jX4_hasBy : Nat := 185
def bX4_hasBy : List Blk := [(0, [(.aload_n 0, 1, 0, 0, 0), (.getfield 9, 3, 3, 0, 0), (.aload_n 0, 1, 0, 0, 0), (.getfield 13, 3, 3, 1, 0)], some (.invokestatic 177, 3, 108, 2, 0)),
  (11, [(.aload_n 0, 1, 0, 0, 0), (.getfield 13, 3, 3, 1, 0), (.iconst 4, 1, 4, 0, 0), (.iconst 1, 1, 1, 0, 0), (.iload_n 3, 1, 0, 0, 0), (.isub, 1, 0, 0, 0), (.iload_n 2, 1, 0, 0, 0), (.ishl, 1, 0, 0, 0), (.iconst 1, 1, 1, 0, 0), (.iload 5, 2, 0, 0, 0), (.isub, 1, 0, 0, 0), (.iload 4, 2, 0, 0, 0), (.ishl, 1, 0, 0, 0), (.ior, 1, 0, 0, 0), (.iastore, 1, 0, 0, 0), (.aload_n 0, 1, 0, 0, 0), (.getfield 13, 3, 3, 1, 0), (.iload 6, 2, 0, 0, 0)], some (.invokestatic 166, 3, 138, 2, 0)),
  (39, [(.aload_n 0, 1, 0, 0, 0), (.getfield 13, 3, 3, 1, 0), (.aload_n 0, 1, 0, 0, 0), (.getfield 13, 3, 3, 1, 0), (.aload_n 0, 1, 0, 0, 0), (.getfield 9, 3, 3, 0, 0), (.iload_n 1, 1, 0, 0, 0), (.iconst 2, 1, 2, 0, 0)], some (.invokestatic 51, 3, 109, 2, 0)),
  (56, [(.iaload, 1, 0, 0, 0)], some (.invokestatic 114, 3, 134, 2, 0)),
  (60, [], some (.invokestatic 204, 3, 135, 2, 0)),
  (63, [(.aload_n 0, 1, 0, 0, 0), (.getfield 13, 3, 3, 1, 0), (.iload_n 1, 1, 0, 0, 0)], some (.invokestatic 78, 3, 114, 2, 0)),
  (71, [], some (.ifCond .eq 7, 3, 0, 0, 0)),
  (74, [(.iconst 0, 1, 0, 0, 0)], some (.goto 4, 3, 0, 0, 0)),
  (78, [(.iconst 5, 1, 5, 0, 0)], none),
  (79, [(.isub, 1, 0, 0, 0)], some (.ireturn, 1, 0, 0, 0))]
def iX4_hasBy : MI := (yX4_hasBy, cX4_hasBy, 7, (some .int), 3, 7, bX4_hasBy)
abbrev jX4_two : Nat := 186
def bX4_two : List Blk := [(0, [(.aload_n 0, 1, 0, 0, 0), (.iload_n 1, 1, 0, 0, 0), (.iload_n 2, 1, 0, 0, 0)], some (.invokevirtual 218, 3, 111, 3, 3)),
  (6, [], some (.ifCond .eq 13, 3, 0, 0, 0)),
  (9, [(.iload_n 3, 1, 0, 0, 0), (.iconst 1, 1, 1, 0, 0), (.bipush 30, 2, 30, 0, 0)], some (.invokestatic 43, 3, 105, 3, 0)),
  (16, [], some (.ifCond .ne 5, 3, 0, 0, 0)),
  (19, [(.iconst (-1), 1, 1, 1, 0)], some (.ireturn, 1, 0, 0, 0)),
  (21, [(.aload_n 0, 1, 0, 0, 0), (.getfield 9, 3, 3, 0, 0), (.iload_n 1, 1, 0, 0, 0)], some (.invokestatic 78, 3, 114, 2, 0)),
  (29, [], some (.ifCond .eq 14, 3, 0, 0, 0)),
  (32, [(.aload_n 0, 1, 0, 0, 0), (.getfield 9, 3, 3, 0, 0), (.iload_n 2, 1, 0, 0, 0)], some (.invokestatic 78, 3, 114, 2, 0)),
  (40, [], some (.ifCond .ne 6, 3, 0, 0, 0)),
  (43, [(.bipush (-3), 2, 3, 1, 0)], some (.ireturn, 1, 0, 0, 0)),
  (46, [(.iconst 0, 1, 0, 0, 0), (.istore 4, 2, 0, 0, 0)], none),
  (49, [(.iload 4, 2, 0, 0, 0), (.iconst 4, 1, 4, 0, 0)], some (.if_icmp .ge 88, 3, 0, 0, 0)),
  (55, [(.iload 4, 2, 0, 0, 0), (.iconst 2, 1, 2, 0, 0), (.idiv, 1, 0, 0, 0), (.istore 5, 2, 0, 0, 0), (.iload 4, 2, 0, 0, 0), (.iconst 2, 1, 2, 0, 0), (.irem, 1, 0, 0, 0), (.istore 6, 2, 0, 0, 0), (.aload_n 0, 1, 0, 0, 0), (.iload_n 1, 1, 0, 0, 0), (.iload_n 1, 1, 0, 0, 0), (.iconst 1, 1, 1, 0, 0), (.iload 5, 2, 0, 0, 0), (.isub, 1, 0, 0, 0), (.iload_n 2, 1, 0, 0, 0), (.iload 6, 2, 0, 0, 0), (.iload_n 3, 1, 0, 0, 0)], some (.invokevirtual 249, 3, 185, 7, 3)),
  (81, [(.aload_n 0, 1, 0, 0, 0), (.iload_n 1, 1, 0, 0, 0), (.iload_n 1, 1, 0, 0, 0), (.iload 5, 2, 0, 0, 0), (.iload_n 2, 1, 0, 0, 0), (.iload 6, 2, 0, 0, 0), (.iload_n 3, 1, 0, 0, 0)], some (.invokevirtual 249, 3, 185, 7, 3)),
  (93, [], some (.if_icmp .gt 41, 3, 0, 0, 0)),
  (96, [(.aload_n 0, 1, 0, 0, 0), (.iload_n 2, 1, 0, 0, 0), (.iload_n 1, 1, 0, 0, 0), (.iload 5, 2, 0, 0, 0), (.iload_n 2, 1, 0, 0, 0), (.iconst 1, 1, 1, 0, 0), (.iload 6, 2, 0, 0, 0), (.isub, 1, 0, 0, 0), (.iload_n 3, 1, 0, 0, 0)], some (.invokevirtual 249, 3, 185, 7, 3)),
  (110, [(.aload_n 0, 1, 0, 0, 0), (.iload_n 2, 1, 0, 0, 0), (.iload_n 1, 1, 0, 0, 0), (.iload 5, 2, 0, 0, 0), (.iload_n 2, 1, 0, 0, 0), (.iload 6, 2, 0, 0, 0), (.iload_n 3, 1, 0, 0, 0)], some (.invokevirtual 249, 3, 185, 7, 3)),
  (122, [], some (.if_icmp .gt 12, 3, 0, 0, 0)),
  (125, [(.bipush 10, 2, 10, 0, 0), (.iload 5, 2, 0, 0, 0), (.imul, 1, 0, 0, 0), (.iload 6, 2, 0, 0, 0), (.iadd, 1, 0, 0, 0)], some (.ireturn, 1, 0, 0, 0)),
  (134, [(.iinc 4 1, 3, 1, 0, 0)], some (.goto (-88), 3, 0, 0, 0)),
  (140, [(.bipush (-4), 2, 4, 1, 0)], some (.ireturn, 1, 0, 0, 0))]
def iX4_two : MI := (yX4_two, cX4_two, 7, (some .int), 3, 4, bX4_two)
abbrev jX4_gcd : Nat := 187
def bX4_gcd : List Blk := [(0, [(.lload_n 0, 1, 0, 0, 0), (.lstore 4, 2, 0, 0, 0), (.lload_n 2, 1, 0, 0, 0), (.lstore 6, 2, 0, 0, 0)], none),
  (6, [(.lload 6, 2, 0, 0, 0), (.lconst 0, 1, 0, 0, 0), (.lcmp, 1, 0, 0, 0)], some (.ifCond .eq 21, 3, 0, 0, 0)),
  (13, [(.lload 4, 2, 0, 0, 0), (.lload 6, 2, 0, 0, 0), (.lrem, 1, 0, 0, 0), (.lstore 8, 2, 0, 0, 0), (.lload 6, 2, 0, 0, 0), (.lstore 4, 2, 0, 0, 0), (.lload 8, 2, 0, 0, 0), (.lstore 6, 2, 0, 0, 0)], some (.goto (-22), 3, 0, 0, 0)),
  (31, [(.lload 4, 2, 0, 0, 0)], some (.lreturn, 1, 0, 0, 0))]
def iX4_gcd : MI := (yX4_gcd, cX4_gcd, 10, (some .long), 3, 2, bX4_gcd)
abbrev jX4_partOf : Nat := 188
def bX4_partOf : List Blk := [(0, [(.lload_n 0, 1, 0, 0, 0), (.lconst 0, 1, 0, 0, 0), (.lcmp, 1, 0, 0, 0)], some (.ifCond .ne 7, 3, 0, 0, 0)),
  (6, [(.iload 4, 2, 0, 0, 0), (.i2l, 1, 0, 0, 0)], some (.lreturn, 1, 0, 0, 0)),
  (10, [(.iload 4, 2, 0, 0, 0)], some (.ifCond .ne 7, 3, 0, 0, 0)),
  (15, [(.lload_n 0, 1, 0, 0, 0)], some (.goto 4, 3, 0, 0, 0)),
  (19, [(.lload_n 2, 1, 0, 0, 0)], none),
  (20, [(.lload_n 0, 1, 0, 0, 0), (.lload_n 2, 1, 0, 0, 0)], some (.invokestatic 253, 3, 187, 2, 0)),
  (25, [(.ldiv, 1, 0, 0, 0)], some (.lreturn, 1, 0, 0, 0))]
def iX4_partOf : MI := (yX4_partOf, cX4_partOf, 5, (some .long), 3, 3, bX4_partOf)
abbrev jX4_rain : Nat := 189
def bX4_rain : List Blk := [(0, [(.aload_n 0, 1, 0, 0, 0), (.iload_n 1, 1, 0, 0, 0)], some (.invokevirtual 47, 3, 110, 2, 3)),
  (5, [], some (.ifCond .eq 33, 3, 0, 0, 0)),
  (8, [(.iload_n 2, 1, 0, 0, 0), (.iconst 0, 1, 0, 0, 0), (.bipush 7, 2, 7, 0, 0)], some (.invokestatic 43, 3, 105, 3, 0)),
  (15, [], some (.ifCond .eq 23, 3, 0, 0, 0)),
  (18, [(.iload_n 3, 1, 0, 0, 0), (.iconst 2, 1, 2, 0, 0), (.bipush 20, 2, 20, 0, 0)], some (.invokestatic 43, 3, 105, 3, 0)),
  (25, [], some (.ifCond .eq 13, 3, 0, 0, 0)),
  (28, [(.iload 4, 2, 0, 0, 0), (.iconst 0, 1, 0, 0, 0), (.iconst 1, 1, 1, 0, 0)], some (.invokestatic 43, 3, 105, 3, 0)),
  (35, [], some (.ifCond .ne 7, 3, 0, 0, 0)),
  (38, [(.ldc2_w 257, 3, 1000000001, 0, 0)], some (.lreturn, 1, 0, 0, 0)),
  (42, [(.lconst 0, 1, 0, 0, 0), (.lstore 5, 2, 0, 0, 0), (.lconst 1, 1, 1, 0, 0), (.lstore 7, 2, 0, 0, 0), (.iconst 0, 1, 0, 0, 0), (.istore 9, 2, 0, 0, 0)], none),
  (51, [(.iload 9, 2, 0, 0, 0), (.iload_n 2, 1, 0, 0, 0)], some (.if_icmp .ge 16, 3, 0, 0, 0)),
  (57, [(.lload 7, 2, 0, 0, 0), (.iload_n 3, 1, 0, 0, 0), (.i2l, 1, 0, 0, 0), (.lmul, 1, 0, 0, 0), (.lstore 7, 2, 0, 0, 0), (.iinc 9 1, 3, 1, 0, 0)], some (.goto (-16), 3, 0, 0, 0)),
  (70, [(.iconst 0, 1, 0, 0, 0), (.istore 9, 2, 0, 0, 0)], none),
  (73, [(.iload 9, 2, 0, 0, 0), (.iconst 1, 1, 1, 0, 0), (.iload_n 2, 1, 0, 0, 0), (.ishl, 1, 0, 0, 0)], some (.if_icmp .ge 111, 3, 0, 0, 0)),
  (81, [(.lconst 1, 1, 1, 0, 0), (.lstore 10, 2, 0, 0, 0), (.aload_n 0, 1, 0, 0, 0), (.getfield 9, 3, 3, 0, 0), (.aload_n 0, 1, 0, 0, 0), (.getfield 13, 3, 3, 1, 0)], some (.invokestatic 177, 3, 108, 2, 0)),
  (95, [(.iconst 0, 1, 0, 0, 0), (.istore 12, 2, 0, 0, 0)], none),
  (98, [(.iload 12, 2, 0, 0, 0), (.iload_n 2, 1, 0, 0, 0)], some (.if_icmp .ge 60, 3, 0, 0, 0)),
  (104, [(.lload 10, 2, 0, 0, 0), (.iload 9, 2, 0, 0, 0), (.iload 12, 2, 0, 0, 0)], some (.invokestatic 84, 3, 115, 2, 0)),
  (113, [], some (.ifCond .eq 7, 3, 0, 0, 0)),
  (116, [(.lconst 1, 1, 1, 0, 0)], some (.goto 7, 3, 0, 0, 0)),
  (120, [(.iload_n 3, 1, 0, 0, 0), (.iconst 1, 1, 1, 0, 0), (.isub, 1, 0, 0, 0), (.i2l, 1, 0, 0, 0)], none),
  (124, [(.lmul, 1, 0, 0, 0), (.lstore 10, 2, 0, 0, 0), (.aload_n 0, 1, 0, 0, 0), (.getfield 13, 3, 3, 1, 0), (.iconst 5, 1, 5, 0, 0), (.iload 9, 2, 0, 0, 0), (.iload 12, 2, 0, 0, 0)], some (.invokestatic 84, 3, 115, 2, 0)),
  (139, [], some (.ifCond .eq 7, 3, 0, 0, 0)),
  (142, [(.iconst 1, 1, 1, 0, 0)], some (.goto 4, 3, 0, 0, 0)),
  (146, [(.iconst 0, 1, 0, 0, 0)], none),
  (147, [(.iastore, 1, 0, 0, 0), (.aload_n 0, 1, 0, 0, 0), (.getfield 13, 3, 3, 1, 0)], some (.invokestatic 132, 3, 137, 1, 0)),
  (155, [(.iinc 12 1, 3, 1, 0, 0)], some (.goto (-60), 3, 0, 0, 0)),
  (161, [(.lload 5, 2, 0, 0, 0), (.aload_n 0, 1, 0, 0, 0), (.getfield 13, 3, 3, 1, 0), (.iload_n 1, 1, 0, 0, 0)], some (.invokestatic 78, 3, 114, 2, 0)),
  (171, [], some (.ifCond .eq 8, 3, 0, 0, 0)),
  (174, [(.lload 10, 2, 0, 0, 0)], some (.goto 4, 3, 0, 0, 0)),
  (179, [(.lconst 0, 1, 0, 0, 0)], none),
  (180, [(.ladd, 1, 0, 0, 0), (.lstore 5, 2, 0, 0, 0), (.iinc 9 1, 3, 1, 0, 0)], some (.goto (-113), 3, 0, 0, 0)),
  (189, [(.lload 5, 2, 0, 0, 0), (.lload 7, 2, 0, 0, 0), (.iload 4, 2, 0, 0, 0)], some (.invokestatic 259, 3, 188, 3, 0)),
  (198, [], some (.lreturn, 1, 0, 0, 0))]
def iX4_rain : MI := (yX4_rain, cX4_rain, 13, (some .long), 3, 5, bX4_rain)
abbrev jX4_share : Nat := 190
def bX4_share : List Blk := [(0, [(.iload_n 1, 1, 0, 0, 0)], some (.invokestatic 153, 3, 113, 1, 0)),
  (4, [], some (.ifCond .eq 50, 3, 0, 0, 0)),
  (7, [(.iload_n 2, 1, 0, 0, 0), (.iconst 0, 1, 0, 0, 0), (.iconst 1, 1, 1, 0, 0)], some (.invokestatic 43, 3, 105, 3, 0)),
  (13, [], some (.ifCond .eq 41, 3, 0, 0, 0)),
  (16, [(.aload_n 0, 1, 0, 0, 0), (.getfield 9, 3, 3, 0, 0), (.aload_n 0, 1, 0, 0, 0), (.getfield 9, 3, 3, 0, 0), (.iload_n 1, 1, 0, 0, 0)], some (.invokestatic 114, 3, 134, 2, 0)),
  (28, [], some (.invokestatic 204, 3, 135, 2, 0)),
  (31, [(.i2l, 1, 0, 0, 0), (.aload_n 0, 1, 0, 0, 0), (.getfield 9, 3, 3, 0, 0), (.aload_n 0, 1, 0, 0, 0), (.getfield 9, 3, 3, 0, 0)], some (.invokestatic 193, 3, 133, 1, 0)),
  (43, [], some (.invokestatic 204, 3, 135, 2, 0)),
  (46, [(.i2l, 1, 0, 0, 0), (.iload_n 2, 1, 0, 0, 0)], some (.invokestatic 259, 3, 188, 3, 0)),
  (51, [], some (.goto 6, 3, 0, 0, 0)),
  (54, [(.ldc2_w 257, 3, 1000000001, 0, 0)], none),
  (57, [], some (.lreturn, 1, 0, 0, 0))]
def iX4_share : MI := (yX4_share, cX4_share, 3, (some .long), 3, 3, bX4_share)
abbrev jX4_forged : Nat := 191
def bX4_forged : List Blk := [(0, [(.aload_n 0, 1, 0, 0, 0), (.iload_n 1, 1, 0, 0, 0), (.iconst (-1), 1, 1, 1, 0)], some (.invokevirtual 170, 3, 146, 3, 3)),
  (6, [(.istore_n 2, 1, 0, 0, 0), (.iload_n 2, 1, 0, 0, 0)], some (.ifCond .eq 5, 3, 0, 0, 0)),
  (11, [(.iload_n 2, 1, 0, 0, 0)], some (.ireturn, 1, 0, 0, 0)),
  (13, [(.iconst 0, 1, 0, 0, 0), (.istore_n 3, 1, 0, 0, 0)], none),
  (15, [(.iload_n 3, 1, 0, 0, 0), (.aload_n 0, 1, 0, 0, 0), (.getfield 37, 3, 3, 14, 0), (.iload_n 1, 1, 0, 0, 0), (.iaload, 1, 0, 0, 0)], some (.if_icmp .ge 41, 3, 0, 0, 0)),
  (25, [(.aload_n 0, 1, 0, 0, 0), (.iload_n 3, 1, 0, 0, 0)], some (.invokevirtual 47, 3, 110, 2, 3)),
  (30, [], some (.ifCond .eq 25, 3, 0, 0, 0)),
  (33, [(.aload_n 0, 1, 0, 0, 0), (.getfield 40, 3, 3, 15, 0), (.bipush 100, 2, 100, 0, 0), (.iload_n 1, 1, 0, 0, 0), (.imul, 1, 0, 0, 0), (.iload_n 3, 1, 0, 0, 0), (.iadd, 1, 0, 0, 0), (.iaload, 1, 0, 0, 0), (.aload_n 0, 1, 0, 0, 0), (.getfield 9, 3, 3, 0, 0), (.iload_n 3, 1, 0, 0, 0)], some (.invokestatic 237, 3, 181, 2, 0)),
  (52, [], some (.if_icmp .eq 5, 3, 0, 0, 0)),
  (55, [(.iload_n 3, 1, 0, 0, 0)], some (.ireturn, 1, 0, 0, 0)),
  (57, [(.iinc 3 1, 3, 1, 0, 0)], some (.goto (-45), 3, 0, 0, 0)),
  (63, [(.bipush (-4), 2, 4, 1, 0)], some (.ireturn, 1, 0, 0, 0))]
def iX4_forged : MI := (yX4_forged, cX4_forged, 4, (some .int), 3, 2, bX4_forged)
abbrev jX4_judge : Nat := 192
def bX4_judge : List Blk := [(0, [(.aload_n 0, 1, 0, 0, 0), (.iload_n 1, 1, 0, 0, 0), (.iconst (-1), 1, 1, 1, 0)], some (.invokevirtual 170, 3, 146, 3, 3)),
  (6, [(.istore_n 2, 1, 0, 0, 0), (.iload_n 2, 1, 0, 0, 0)], some (.ifCond .eq 5, 3, 0, 0, 0)),
  (11, [(.iload_n 2, 1, 0, 0, 0)], some (.ireturn, 1, 0, 0, 0)),
  (13, [(.aload_n 0, 1, 0, 0, 0), (.getfield 9, 3, 3, 0, 0), (.aload_n 0, 1, 0, 0, 0), (.getfield 13, 3, 3, 1, 0)], some (.invokestatic 177, 3, 108, 2, 0)),
  (24, [(.iconst 0, 1, 0, 0, 0), (.istore_n 3, 1, 0, 0, 0)], none),
  (26, [(.iload_n 3, 1, 0, 0, 0), (.aload_n 0, 1, 0, 0, 0), (.getfield 37, 3, 3, 14, 0), (.iload_n 1, 1, 0, 0, 0), (.iaload, 1, 0, 0, 0)], some (.if_icmp .ge 37, 3, 0, 0, 0)),
  (36, [(.aload_n 0, 1, 0, 0, 0), (.iload_n 1, 1, 0, 0, 0), (.iload_n 3, 1, 0, 0, 0), (.aload_n 0, 1, 0, 0, 0), (.getfield 13, 3, 3, 1, 0)], some (.invokestatic 193, 3, 133, 1, 0)),
  (46, [], some (.invokestatic 123, 3, 116, 1, 0)),
  (49, [], some (.invokevirtual 240, 3, 180, 4, 3)),
  (52, [], some (.ifCond .ne 5, 3, 0, 0, 0)),
  (55, [(.iload_n 3, 1, 0, 0, 0)], some (.ireturn, 1, 0, 0, 0)),
  (57, [(.aload_n 0, 1, 0, 0, 0), (.getfield 13, 3, 3, 1, 0)], some (.invokestatic 132, 3, 137, 1, 0)),
  (64, [(.iinc 3 1, 3, 1, 0, 0)], some (.goto (-41), 3, 0, 0, 0)),
  (70, [(.bipush (-4), 2, 4, 1, 0)], some (.ireturn, 1, 0, 0, 0))]
def iX4_judge : MI := (yX4_judge, cX4_judge, 4, (some .int), 3, 2, bX4_judge)
abbrev jX4_drawn : Nat := 193
def bX4_drawn : List Blk := [(0, [(.aload_n 0, 1, 0, 0, 0), (.aload_n 0, 1, 0, 0, 0), (.getfield 263, 3, 3, 9, 0), (.ldc_w 266, 3, 1103515245, 0, 0), (.imul, 1, 0, 0, 0), (.sipush 12345, 3, 12345, 0, 0), (.iadd, 1, 0, 0, 0), (.putfield 263, 3, 3, 9, 0), (.aload_n 0, 1, 0, 0, 0), (.getfield 263, 3, 3, 9, 0), (.ldc_w 267, 3, 2147483647, 0, 0), (.iand, 1, 0, 0, 0), (.ldc_w 268, 3, 65536, 0, 0), (.idiv, 1, 0, 0, 0), (.iload_n 1, 1, 0, 0, 0), (.irem, 1, 0, 0, 0)], some (.ireturn, 1, 0, 0, 0))]
def iX4_drawn : MI := (yX4_drawn, cX4_drawn, 2, (some .int), 3, 2, bX4_drawn)
abbrev jX4_setsUp : Nat := 194
def bX4_setsUp : List Blk := [(0, [(.iconst 0, 1, 0, 0, 0), (.istore_n 1, 1, 0, 0, 0)], none),
  (2, [(.iload_n 1, 1, 0, 0, 0), (.aload_n 0, 1, 0, 0, 0), (.getfield 9, 3, 3, 0, 0), (.iconst 0, 1, 0, 0, 0), (.iaload, 1, 0, 0, 0)], some (.if_icmp .ge 21, 3, 0, 0, 0)),
  (12, [(.aload_n 0, 1, 0, 0, 0), (.getfield 13, 3, 3, 1, 0), (.iload_n 1, 1, 0, 0, 0), (.iconst 3, 1, 3, 0, 0)], some (.invokestatic 51, 3, 109, 2, 0)),
  (21, [(.bipush (-4), 2, 4, 1, 0), (.iastore, 1, 0, 0, 0), (.iinc 1 1, 3, 1, 0, 0)], some (.goto (-25), 3, 0, 0, 0)),
  (30, [(.iconst 0, 1, 0, 0, 0), (.istore_n 1, 1, 0, 0, 0)], none),
  (32, [(.iload_n 1, 1, 0, 0, 0), (.aload_n 0, 1, 0, 0, 0), (.getfield 9, 3, 3, 0, 0), (.iconst 0, 1, 0, 0, 0), (.iaload, 1, 0, 0, 0)], some (.if_icmp .ge 48, 3, 0, 0, 0)),
  (42, [(.aload_n 0, 1, 0, 0, 0), (.bipush 36, 2, 36, 0, 0)], some (.invokevirtual 269, 3, 193, 2, 3)),
  (48, [(.istore_n 2, 1, 0, 0, 0)], none),
  (49, [(.aload_n 0, 1, 0, 0, 0), (.getfield 13, 3, 3, 1, 0), (.iload_n 2, 1, 0, 0, 0)], some (.invokestatic 55, 3, 117, 2, 0)),
  (57, [], some (.ifCond .lt 13, 3, 0, 0, 0)),
  (60, [(.iload_n 2, 1, 0, 0, 0), (.iconst 1, 1, 1, 0, 0), (.iadd, 1, 0, 0, 0), (.bipush 36, 2, 36, 0, 0), (.irem, 1, 0, 0, 0), (.istore_n 2, 1, 0, 0, 0)], some (.goto (-18), 3, 0, 0, 0)),
  (70, [(.aload_n 0, 1, 0, 0, 0), (.getfield 13, 3, 3, 1, 0), (.iload_n 1, 1, 0, 0, 0), (.iconst 3, 1, 3, 0, 0)], some (.invokestatic 51, 3, 109, 2, 0)),
  (79, [(.iload_n 2, 1, 0, 0, 0), (.iastore, 1, 0, 0, 0), (.iinc 1 1, 3, 1, 0, 0)], some (.goto (-52), 3, 0, 0, 0)),
  (87, [], some (.return_, 1, 0, 0, 0))]
def iX4_setsUp : MI := (yX4_setsUp, cX4_setsUp, 3, none, 3, 1, bX4_setsUp)
abbrev jX4_games : Nat := 195
def bX4_games : List Blk := [(0, [(.iload_n 1, 1, 0, 0, 0), (.iconst 1, 1, 1, 0, 0), (.bipush 20, 2, 20, 0, 0)], some (.invokestatic 43, 3, 105, 3, 0)),
  (7, [], some (.ifCond .eq 12, 3, 0, 0, 0)),
  (10, [(.iload_n 3, 1, 0, 0, 0), (.iconst 0, 1, 0, 0, 0), (.iconst 1, 1, 1, 0, 0)], some (.invokestatic 43, 3, 105, 3, 0)),
  (16, [], some (.ifCond .ne 5, 3, 0, 0, 0)),
  (19, [(.iconst (-1), 1, 1, 1, 0)], some (.ireturn, 1, 0, 0, 0)),
  (21, [(.aload_n 0, 1, 0, 0, 0), (.iload_n 2, 1, 0, 0, 0), (.putfield 263, 3, 3, 9, 0), (.iconst 0, 1, 0, 0, 0), (.istore 4, 2, 0, 0, 0), (.iconst 0, 1, 0, 0, 0), (.istore 5, 2, 0, 0, 0)], none),
  (32, [(.iload 5, 2, 0, 0, 0), (.iload_n 1, 1, 0, 0, 0)], some (.if_icmp .ge 68, 3, 0, 0, 0)),
  (38, [(.aload_n 0, 1, 0, 0, 0), (.getfield 9, 3, 3, 0, 0), (.aload_n 0, 1, 0, 0, 0), (.getfield 13, 3, 3, 1, 0)], some (.invokestatic 177, 3, 108, 2, 0)),
  (49, [(.aload_n 0, 1, 0, 0, 0)], some (.invokevirtual 272, 3, 194, 1, 3)),
  (53, [(.aload_n 0, 1, 0, 0, 0), (.getfield 13, 3, 3, 1, 0), (.bipush 16, 2, 16, 0, 0)], some (.invokestatic 166, 3, 138, 2, 0)),
  (62, [(.iload 4, 2, 0, 0, 0), (.iload_n 3, 1, 0, 0, 0)], some (.ifCond .ne 16, 3, 0, 0, 0)),
  (68, [(.aload_n 0, 1, 0, 0, 0), (.getfield 13, 3, 3, 1, 0)], some (.invokestatic 193, 3, 133, 1, 0)),
  (75, [], some (.invokestatic 123, 3, 116, 1, 0)),
  (78, [], some (.goto 16, 3, 0, 0, 0)),
  (81, [(.aload_n 0, 1, 0, 0, 0), (.getfield 13, 3, 3, 1, 0), (.iconst 3, 1, 3, 0, 0), (.iaload, 1, 0, 0, 0), (.aload_n 0, 1, 0, 0, 0), (.getfield 9, 3, 3, 0, 0), (.iconst 3, 1, 3, 0, 0), (.iaload, 1, 0, 0, 0), (.isub, 1, 0, 0, 0)], none),
  (94, [(.iadd, 1, 0, 0, 0), (.istore 4, 2, 0, 0, 0), (.iinc 5 1, 3, 1, 0, 0)], some (.goto (-68), 3, 0, 0, 0)),
  (103, [(.iload 4, 2, 0, 0, 0)], some (.ireturn, 1, 0, 0, 0))]
def iX4_games : MI := (yX4_games, cX4_games, 6, (some .int), 3, 4, bX4_games)
abbrev jX4_image : Nat := 196
def bX4_image : List Blk := [(0, [(.aload_n 0, 1, 0, 0, 0), (.getfield 9, 3, 3, 0, 0), (.aload_n 0, 1, 0, 0, 0), (.getfield 16, 3, 3, 2, 0)], some (.invokestatic 177, 3, 108, 2, 0)),
  (11, [(.aload_n 0, 1, 0, 0, 0), (.iconst 1, 1, 1, 0, 0), (.putfield 275, 3, 3, 4, 0), (.aload_n 0, 1, 0, 0, 0), (.getfield 9, 3, 3, 0, 0), (.iconst 1, 1, 1, 0, 0), (.iaload, 1, 0, 0, 0)], some (.ireturn, 1, 0, 0, 0))]
def iX4_image : MI := (yX4_image, cX4_image, 1, (some .int), 3, 1, bX4_image)
abbrev jX4_restore : Nat := 197
def bX4_restore : List Blk := [(0, [(.aload_n 0, 1, 0, 0, 0), (.getfield 275, 3, 3, 4, 0)], some (.ifCond .ne 6, 3, 0, 0, 0)),
  (7, [(.bipush (-3), 2, 3, 1, 0)], some (.ireturn, 1, 0, 0, 0)),
  (10, [(.aload_n 0, 1, 0, 0, 0), (.getfield 16, 3, 3, 2, 0), (.aload_n 0, 1, 0, 0, 0), (.getfield 9, 3, 3, 0, 0)], some (.invokestatic 177, 3, 108, 2, 0)),
  (21, [(.aload_n 0, 1, 0, 0, 0), (.getfield 9, 3, 3, 0, 0), (.iconst 1, 1, 1, 0, 0), (.iaload, 1, 0, 0, 0)], some (.ireturn, 1, 0, 0, 0))]
def iX4_restore : MI := (yX4_restore, cX4_restore, 1, (some .int), 3, 1, bX4_restore)
abbrev jX4_count : Nat := 198
def bX4_count : List Blk := [(0, [(.iload_n 1, 1, 0, 0, 0), (.iconst 0, 1, 0, 0, 0), (.iconst 3, 1, 3, 0, 0)], some (.invokestatic 43, 3, 105, 3, 0)),
  (6, [], some (.ifCond .eq 12, 3, 0, 0, 0)),
  (9, [(.aload_n 0, 1, 0, 0, 0), (.getfield 9, 3, 3, 0, 0), (.iload_n 1, 1, 0, 0, 0), (.iaload, 1, 0, 0, 0)], some (.goto 19, 3, 0, 0, 0)),
  (18, [(.iload_n 1, 1, 0, 0, 0), (.iconst 4, 1, 4, 0, 0)], some (.if_icmp .ne 13, 3, 0, 0, 0)),
  (23, [(.aload_n 0, 1, 0, 0, 0), (.getfield 9, 3, 3, 0, 0)], some (.invokestatic 193, 3, 133, 1, 0)),
  (30, [], some (.goto 4, 3, 0, 0, 0)),
  (33, [(.iconst (-1), 1, 1, 1, 0)], none),
  (34, [], some (.ireturn, 1, 0, 0, 0))]
def iX4_count : MI := (yX4_count, cX4_count, 2, (some .int), 3, 2, bX4_count)
abbrev jX4_thrown : Nat := 199
def bX4_thrown : List Blk := [(0, [(.aload_n 0, 1, 0, 0, 0), (.getfield 279, 3, 3, 16, 0)], some (.ireturn, 1, 0, 0, 0))]
def iX4_thrown : MI := (yX4_thrown, cX4_thrown, 1, (some .int), 3, 1, bX4_thrown)
abbrev jX4_keep : Nat := 200
def bX4_keep : List Blk := [(0, [(.iload_n 1, 1, 0, 0, 0)], some (.invokestatic 246, 3, 145, 1, 0)),
  (4, [], some (.ifCond .eq 38, 3, 0, 0, 0)),
  (7, [(.iload_n 2, 1, 0, 0, 0), (.iconst 0, 1, 0, 0, 0), (.iconst 1, 1, 1, 0, 0)], some (.invokestatic 43, 3, 105, 3, 0)),
  (13, [], some (.ifCond .eq 29, 3, 0, 0, 0)),
  (16, [(.iload_n 2, 1, 0, 0, 0), (.iconst 1, 1, 1, 0, 0)], some (.if_icmp .ne 26, 3, 0, 0, 0)),
  (21, [(.iload_n 3, 1, 0, 0, 0), (.iconst 0, 1, 0, 0, 0), (.bipush 7, 2, 7, 0, 0)], some (.invokestatic 43, 3, 105, 3, 0)),
  (28, [], some (.ifCond .eq 14, 3, 0, 0, 0)),
  (31, [(.iload 4, 2, 0, 0, 0), (.iconst 0, 1, 0, 0, 0), (.bipush 9, 2, 9, 0, 0)], some (.invokestatic 43, 3, 105, 3, 0)),
  (39, [], some (.ifCond .ne 5, 3, 0, 0, 0)),
  (42, [(.iconst (-1), 1, 1, 1, 0)], some (.ireturn, 1, 0, 0, 0)),
  (44, [(.aload_n 0, 1, 0, 0, 0), (.getfield 25, 3, 3, 10, 0), (.iload_n 1, 1, 0, 0, 0), (.iload_n 2, 1, 0, 0, 0), (.iastore, 1, 0, 0, 0), (.aload_n 0, 1, 0, 0, 0), (.getfield 28, 3, 3, 11, 0), (.iload_n 1, 1, 0, 0, 0), (.iload_n 3, 1, 0, 0, 0), (.iastore, 1, 0, 0, 0), (.aload_n 0, 1, 0, 0, 0), (.getfield 31, 3, 3, 12, 0), (.iload_n 1, 1, 0, 0, 0), (.iload 4, 2, 0, 0, 0), (.iastore, 1, 0, 0, 0), (.iconst 0, 1, 0, 0, 0)], some (.ireturn, 1, 0, 0, 0))]
def iX4_keep : MI := (yX4_keep, cX4_keep, 5, (some .int), 3, 5, bX4_keep)
abbrev jX4_row : Nat := 201
def bX4_row : List Blk := [(0, [(.iload_n 1, 1, 0, 0, 0)], some (.invokestatic 246, 3, 145, 1, 0)),
  (4, [], some (.ifCond .eq 18, 3, 0, 0, 0)),
  (7, [(.iload_n 2, 1, 0, 0, 0), (.iconst 0, 1, 0, 0, 0), (.iconst 2, 1, 2, 0, 0)], some (.invokestatic 43, 3, 105, 3, 0)),
  (13, [], some (.ifCond .eq 9, 3, 0, 0, 0)),
  (16, [(.iload_n 3, 1, 0, 0, 0), (.bipush 100, 2, 100, 0, 0)], some (.if_icmp .le 5, 3, 0, 0, 0)),
  (22, [(.iconst (-1), 1, 1, 1, 0)], some (.ireturn, 1, 0, 0, 0)),
  (24, [(.iload_n 3, 1, 0, 0, 0)], some (.ifCond .ge 6, 3, 0, 0, 0)),
  (28, [(.bipush (-14), 2, 14, 1, 0)], some (.ireturn, 1, 0, 0, 0)),
  (31, [(.aload_n 0, 1, 0, 0, 0), (.getfield 25, 3, 3, 10, 0), (.iload_n 1, 1, 0, 0, 0), (.iconst 2, 1, 2, 0, 0), (.iastore, 1, 0, 0, 0), (.aload_n 0, 1, 0, 0, 0), (.getfield 34, 3, 3, 13, 0), (.iload_n 1, 1, 0, 0, 0), (.iload_n 2, 1, 0, 0, 0), (.iastore, 1, 0, 0, 0), (.aload_n 0, 1, 0, 0, 0), (.getfield 37, 3, 3, 14, 0), (.iload_n 1, 1, 0, 0, 0), (.iload_n 3, 1, 0, 0, 0), (.iastore, 1, 0, 0, 0), (.iconst 0, 1, 0, 0, 0), (.istore 4, 2, 0, 0, 0)], none),
  (55, [(.iload 4, 2, 0, 0, 0), (.bipush 100, 2, 100, 0, 0)], some (.if_icmp .ge 22, 3, 0, 0, 0)),
  (62, [(.aload_n 0, 1, 0, 0, 0), (.getfield 40, 3, 3, 15, 0), (.bipush 100, 2, 100, 0, 0), (.iload_n 1, 1, 0, 0, 0), (.imul, 1, 0, 0, 0), (.iload 4, 2, 0, 0, 0), (.iadd, 1, 0, 0, 0), (.iconst 0, 1, 0, 0, 0), (.iastore, 1, 0, 0, 0), (.iinc 4 1, 3, 1, 0, 0)], some (.goto (-23), 3, 0, 0, 0)),
  (81, [(.iconst 0, 1, 0, 0, 0)], some (.ireturn, 1, 0, 0, 0))]
def iX4_row : MI := (yX4_row, cX4_row, 5, (some .int), 3, 4, bX4_row)
abbrev jX4_put : Nat := 202
def bX4_put : List Blk := [(0, [(.aload_n 0, 1, 0, 0, 0), (.iload_n 1, 1, 0, 0, 0), (.iconst (-1), 1, 1, 1, 0)], some (.invokevirtual 170, 3, 146, 3, 3)),
  (6, [(.istore 4, 2, 0, 0, 0), (.iload 4, 2, 0, 0, 0)], some (.ifCond .eq 6, 3, 0, 0, 0)),
  (13, [(.iload 4, 2, 0, 0, 0)], some (.ireturn, 1, 0, 0, 0)),
  (16, [(.iload_n 2, 1, 0, 0, 0), (.iconst 0, 1, 0, 0, 0), (.aload_n 0, 1, 0, 0, 0), (.getfield 37, 3, 3, 14, 0), (.iload_n 1, 1, 0, 0, 0), (.iaload, 1, 0, 0, 0), (.iconst 1, 1, 1, 0, 0), (.isub, 1, 0, 0, 0)], some (.invokestatic 43, 3, 105, 3, 0)),
  (29, [], some (.ifCond .ne 6, 3, 0, 0, 0)),
  (32, [(.bipush (-13), 2, 13, 1, 0)], some (.ireturn, 1, 0, 0, 0)),
  (35, [(.aload_n 0, 1, 0, 0, 0), (.getfield 40, 3, 3, 15, 0), (.bipush 100, 2, 100, 0, 0), (.iload_n 1, 1, 0, 0, 0), (.imul, 1, 0, 0, 0), (.iload_n 2, 1, 0, 0, 0), (.iadd, 1, 0, 0, 0), (.aload_n 0, 1, 0, 0, 0), (.getfield 34, 3, 3, 13, 0), (.iload_n 1, 1, 0, 0, 0), (.iaload, 1, 0, 0, 0)], some (.ifCond .ne 8, 3, 0, 0, 0)),
  (54, [(.iload_n 3, 1, 0, 0, 0), (.i2b, 1, 0, 0, 0)], some (.goto 19, 3, 0, 0, 0)),
  (59, [(.aload_n 0, 1, 0, 0, 0), (.getfield 34, 3, 3, 13, 0), (.iload_n 1, 1, 0, 0, 0), (.iaload, 1, 0, 0, 0), (.iconst 1, 1, 1, 0, 0)], some (.if_icmp .ne 8, 3, 0, 0, 0)),
  (69, [(.iload_n 3, 1, 0, 0, 0), (.i2s, 1, 0, 0, 0)], some (.goto 4, 3, 0, 0, 0)),
  (74, [(.iload_n 3, 1, 0, 0, 0)], none),
  (75, [(.iastore, 1, 0, 0, 0), (.iconst 0, 1, 0, 0, 0)], some (.ireturn, 1, 0, 0, 0))]
def iX4_put : MI := (yX4_put, cX4_put, 5, (some .int), 3, 4, bX4_put)
abbrev jX4_element : Nat := 203
def bX4_element : List Blk := [(0, [(.aload_n 0, 1, 0, 0, 0), (.iload_n 1, 1, 0, 0, 0)], some (.invokestatic 246, 3, 145, 1, 0)),
  (5, [], some (.ifCond .ne 7, 3, 0, 0, 0)),
  (8, [(.iconst 1, 1, 1, 0, 0)], some (.goto 34, 3, 0, 0, 0)),
  (12, [(.aload_n 0, 1, 0, 0, 0), (.getfield 25, 3, 3, 10, 0), (.iload_n 1, 1, 0, 0, 0), (.iaload, 1, 0, 0, 0), (.iconst 2, 1, 2, 0, 0)], some (.if_icmp .ne 19, 3, 0, 0, 0)),
  (22, [(.iload_n 2, 1, 0, 0, 0), (.iconst 0, 1, 0, 0, 0), (.aload_n 0, 1, 0, 0, 0), (.getfield 37, 3, 3, 14, 0), (.iload_n 1, 1, 0, 0, 0), (.iaload, 1, 0, 0, 0), (.iconst 1, 1, 1, 0, 0), (.isub, 1, 0, 0, 0)], some (.invokestatic 43, 3, 105, 3, 0)),
  (35, [], some (.ifCond .ne 7, 3, 0, 0, 0)),
  (38, [(.iconst 2, 1, 2, 0, 0)], some (.goto 4, 3, 0, 0, 0)),
  (42, [(.iconst 0, 1, 0, 0, 0)], none),
  (43, [(.putfield 279, 3, 3, 16, 0), (.aload_n 0, 1, 0, 0, 0), (.getfield 279, 3, 3, 16, 0)], some (.ifCond .ne 18, 3, 0, 0, 0)),
  (53, [(.aload_n 0, 1, 0, 0, 0), (.getfield 40, 3, 3, 15, 0), (.bipush 100, 2, 100, 0, 0), (.iload_n 1, 1, 0, 0, 0), (.imul, 1, 0, 0, 0), (.iload_n 2, 1, 0, 0, 0), (.iadd, 1, 0, 0, 0), (.iaload, 1, 0, 0, 0), (.i2l, 1, 0, 0, 0)], some (.goto 4, 3, 0, 0, 0)),
  (68, [(.lconst 0, 1, 0, 0, 0)], none),
  (69, [], some (.lreturn, 1, 0, 0, 0))]
def iX4_element : MI := (yX4_element, cX4_element, 3, (some .long), 3, 3, bX4_element)
abbrev jX4_copy : Nat := 204
def bX4_copy : List Blk := [(0, [(.iload_n 1, 1, 0, 0, 0)], some (.invokestatic 246, 3, 145, 1, 0)),
  (4, [], some (.ifCond .eq 10, 3, 0, 0, 0)),
  (7, [(.iload_n 3, 1, 0, 0, 0)], some (.invokestatic 246, 3, 145, 1, 0)),
  (11, [], some (.ifCond .ne 5, 3, 0, 0, 0)),
  (14, [(.iconst (-1), 1, 1, 1, 0)], some (.ireturn, 1, 0, 0, 0)),
  (16, [(.aload_n 0, 1, 0, 0, 0), (.getfield 25, 3, 3, 10, 0), (.iload_n 1, 1, 0, 0, 0), (.iaload, 1, 0, 0, 0)], some (.ifCond .eq 12, 3, 0, 0, 0)),
  (25, [(.aload_n 0, 1, 0, 0, 0), (.getfield 25, 3, 3, 10, 0), (.iload_n 3, 1, 0, 0, 0), (.iaload, 1, 0, 0, 0)], some (.ifCond .ne 6, 3, 0, 0, 0)),
  (34, [(.bipush (-11), 2, 11, 1, 0)], some (.ireturn, 1, 0, 0, 0)),
  (37, [(.aload_n 0, 1, 0, 0, 0), (.getfield 25, 3, 3, 10, 0), (.iload_n 1, 1, 0, 0, 0), (.iaload, 1, 0, 0, 0), (.iconst 2, 1, 2, 0, 0)], some (.if_icmp .ne 28, 3, 0, 0, 0)),
  (47, [(.aload_n 0, 1, 0, 0, 0), (.getfield 25, 3, 3, 10, 0), (.iload_n 3, 1, 0, 0, 0), (.iaload, 1, 0, 0, 0), (.iconst 2, 1, 2, 0, 0)], some (.if_icmp .ne 18, 3, 0, 0, 0)),
  (57, [(.aload_n 0, 1, 0, 0, 0), (.getfield 34, 3, 3, 13, 0), (.iload_n 1, 1, 0, 0, 0), (.iaload, 1, 0, 0, 0), (.aload_n 0, 1, 0, 0, 0), (.getfield 34, 3, 3, 13, 0), (.iload_n 3, 1, 0, 0, 0), (.iaload, 1, 0, 0, 0)], some (.if_icmp .eq 6, 3, 0, 0, 0)),
  (72, [(.bipush (-12), 2, 12, 1, 0)], some (.ireturn, 1, 0, 0, 0)),
  (75, [(.iload 5, 2, 0, 0, 0)], some (.ifCond .lt 39, 3, 0, 0, 0)),
  (80, [(.iload_n 2, 1, 0, 0, 0)], some (.ifCond .lt 35, 3, 0, 0, 0)),
  (84, [(.iload 4, 2, 0, 0, 0)], some (.ifCond .lt 30, 3, 0, 0, 0)),
  (89, [(.iload 5, 2, 0, 0, 0), (.aload_n 0, 1, 0, 0, 0), (.getfield 37, 3, 3, 14, 0), (.iload_n 1, 1, 0, 0, 0), (.iaload, 1, 0, 0, 0), (.iload_n 2, 1, 0, 0, 0), (.isub, 1, 0, 0, 0)], some (.if_icmp .gt 17, 3, 0, 0, 0)),
  (102, [(.iload 5, 2, 0, 0, 0), (.aload_n 0, 1, 0, 0, 0), (.getfield 37, 3, 3, 14, 0), (.iload_n 3, 1, 0, 0, 0), (.iaload, 1, 0, 0, 0), (.iload 4, 2, 0, 0, 0), (.isub, 1, 0, 0, 0)], some (.if_icmp .le 6, 3, 0, 0, 0)),
  (116, [(.bipush (-13), 2, 13, 1, 0)], some (.ireturn, 1, 0, 0, 0)),
  (119, [(.iconst 0, 1, 0, 0, 0), (.istore 6, 2, 0, 0, 0)], none),
  (122, [(.iload 6, 2, 0, 0, 0), (.iload 5, 2, 0, 0, 0)], some (.if_icmp .ge 58, 3, 0, 0, 0)),
  (129, [(.iload_n 2, 1, 0, 0, 0), (.iload 4, 2, 0, 0, 0)], some (.if_icmp .le 8, 3, 0, 0, 0)),
  (135, [(.iload 6, 2, 0, 0, 0)], some (.goto 10, 3, 0, 0, 0)),
  (140, [(.iload 5, 2, 0, 0, 0), (.iconst 1, 1, 1, 0, 0), (.isub, 1, 0, 0, 0), (.iload 6, 2, 0, 0, 0), (.isub, 1, 0, 0, 0)], none),
  (147, [(.istore 7, 2, 0, 0, 0), (.aload_n 0, 1, 0, 0, 0), (.getfield 40, 3, 3, 15, 0), (.bipush 100, 2, 100, 0, 0), (.iload_n 3, 1, 0, 0, 0), (.imul, 1, 0, 0, 0), (.iload 4, 2, 0, 0, 0), (.iadd, 1, 0, 0, 0), (.iload 7, 2, 0, 0, 0), (.iadd, 1, 0, 0, 0), (.aload_n 0, 1, 0, 0, 0), (.getfield 40, 3, 3, 15, 0), (.bipush 100, 2, 100, 0, 0), (.iload_n 1, 1, 0, 0, 0), (.imul, 1, 0, 0, 0), (.iload_n 2, 1, 0, 0, 0), (.iadd, 1, 0, 0, 0), (.iload 7, 2, 0, 0, 0), (.iadd, 1, 0, 0, 0), (.iaload, 1, 0, 0, 0), (.iastore, 1, 0, 0, 0), (.iinc 6 1, 3, 1, 0, 0)], some (.goto (-59), 3, 0, 0, 0)),
  (184, [(.iload 5, 2, 0, 0, 0)], some (.ireturn, 1, 0, 0, 0))]
def iX4_copy : MI := (yX4_copy, cX4_copy, 8, (some .int), 3, 6, bX4_copy)
abbrev jX4_costBy : Nat := 205
def bX4_costBy : List Blk := [(0, [(.iload_n 0, 1, 0, 0, 0)], some (.tableswitch 55 1 6 #[39, 41, 45, 47, 53, 41], 39, 0, 0, 0)),
  (40, [(.iconst 3, 1, 3, 0, 0)], some (.ireturn, 1, 0, 0, 0)),
  (42, [(.iconst 1, 1, 1, 0, 0), (.iload_n 1, 1, 0, 0, 0), (.iadd, 1, 0, 0, 0)], some (.ireturn, 1, 0, 0, 0)),
  (46, [(.iconst 2, 1, 2, 0, 0)], some (.ireturn, 1, 0, 0, 0)),
  (48, [(.iconst 2, 1, 2, 0, 0), (.iconst 1, 1, 1, 0, 0), (.iload_n 1, 1, 0, 0, 0), (.iadd, 1, 0, 0, 0), (.imul, 1, 0, 0, 0)], some (.ireturn, 1, 0, 0, 0)),
  (54, [(.iconst 0, 1, 0, 0, 0)], some (.ireturn, 1, 0, 0, 0)),
  (56, [(.iconst 1, 1, 1, 0, 0)], some (.ireturn, 1, 0, 0, 0))]
def iX4_costBy : MI := (yX4_costBy, cX4_costBy, 2, (some .int), 3, 2, bX4_costBy)
abbrev jX4_cost : Nat := 206
def bX4_cost : List Blk := [(0, [(.aload_n 0, 1, 0, 0, 0), (.iload_n 1, 1, 0, 0, 0)], some (.invokevirtual 187, 3, 151, 2, 3)),
  (5, [(.istore_n 2, 1, 0, 0, 0), (.iload_n 2, 1, 0, 0, 0)], some (.ifCond .eq 7, 3, 0, 0, 0)),
  (10, [(.iload_n 2, 1, 0, 0, 0)], some (.goto 18, 3, 0, 0, 0)),
  (14, [(.aload_n 0, 1, 0, 0, 0), (.getfield 28, 3, 3, 11, 0), (.iload_n 1, 1, 0, 0, 0), (.iaload, 1, 0, 0, 0), (.aload_n 0, 1, 0, 0, 0), (.getfield 31, 3, 3, 12, 0), (.iload_n 1, 1, 0, 0, 0), (.iaload, 1, 0, 0, 0)], some (.invokestatic 282, 3, 205, 2, 0)),
  (29, [], some (.ireturn, 1, 0, 0, 0))]
def iX4_cost : MI := (yX4_cost, cX4_cost, 3, (some .int), 3, 2, bX4_cost)
abbrev jX4_toss : Nat := 207
def bX4_toss : List Blk := [(0, [(.aload_n 0, 1, 0, 0, 0), (.iload_n 1, 1, 0, 0, 0)], some (.invokevirtual 187, 3, 151, 2, 3)),
  (5, [(.istore_n 2, 1, 0, 0, 0), (.iload_n 2, 1, 0, 0, 0)], some (.ifCond .eq 5, 3, 0, 0, 0)),
  (10, [(.iload_n 2, 1, 0, 0, 0)], some (.ireturn, 1, 0, 0, 0)),
  (12, [(.aload_n 0, 1, 0, 0, 0), (.getfield 28, 3, 3, 11, 0), (.iload_n 1, 1, 0, 0, 0), (.iaload, 1, 0, 0, 0), (.istore_n 3, 1, 0, 0, 0), (.aload_n 0, 1, 0, 0, 0), (.getfield 31, 3, 3, 12, 0), (.iload_n 1, 1, 0, 0, 0), (.iaload, 1, 0, 0, 0), (.istore 4, 2, 0, 0, 0), (.iload_n 3, 1, 0, 0, 0), (.iconst 5, 1, 5, 0, 0)], some (.if_icmp .eq 19, 3, 0, 0, 0)),
  (32, [(.iload_n 3, 1, 0, 0, 0), (.iconst 3, 1, 3, 0, 0)], some (.if_icmp .eq 14, 3, 0, 0, 0)),
  (37, [(.iload_n 3, 1, 0, 0, 0), (.bipush 7, 2, 7, 0, 0)], some (.if_icmp .eq 8, 3, 0, 0, 0)),
  (43, [(.iload 4, 2, 0, 0, 0)], some (.ifCond .ne 6, 3, 0, 0, 0)),
  (48, [(.bipush (-15), 2, 15, 1, 0)], some (.ireturn, 1, 0, 0, 0)),
  (51, [(.iload_n 3, 1, 0, 0, 0), (.bipush 6, 2, 6, 0, 0)], some (.if_icmp .ne 16, 3, 0, 0, 0)),
  (57, [(.sipush 200, 3, 200, 0, 0), (.iload_n 3, 1, 0, 0, 0), (.iload 4, 2, 0, 0, 0)], some (.invokestatic 282, 3, 205, 2, 0)),
  (66, [(.iadd, 1, 0, 0, 0)], some (.goto 23, 3, 0, 0, 0)),
  (70, [(.iload_n 3, 1, 0, 0, 0), (.iconst 2, 1, 2, 0, 0)], some (.if_icmp .eq 8, 3, 0, 0, 0)),
  (75, [(.iload_n 3, 1, 0, 0, 0), (.iconst 4, 1, 4, 0, 0)], some (.if_icmp .ne 11, 3, 0, 0, 0)),
  (80, [(.bipush 100, 2, 100, 0, 0), (.iload 4, 2, 0, 0, 0), (.iadd, 1, 0, 0, 0)], some (.goto 5, 3, 0, 0, 0)),
  (88, [(.iload 4, 2, 0, 0, 0)], none),
  (90, [], some (.ireturn, 1, 0, 0, 0))]
def iX4_toss : MI := (yX4_toss, cX4_toss, 5, (some .int), 3, 2, bX4_toss)
def mt_0 : List MI := [iX0_becomes, iX0_has, iX0_isThere, iX0_isThereOf, iX0_squareOf, iX0_squareOrNone, iX0_isFree, iX0_isHeldBy, iX3_isKind, iX3_isFigure, iX3_isSide, iX0_addPiece, iX3_isSquare, iX0_takeOff, iX0_movePiece, iX0_takeAllOff]
def mt_1 : List MI := [iX0_turnInto, iX0_giveTurn, iX0_squareFrom, iX0_knightIdea, iX0_slideIdea, iX0_bishopIdea, iX3_far, iX0_kingIdea, iX0_pawnIdea, iX0_ideaOf, iX1_earsWith, iX0_hearersOf, iJ6_bitCount_0f7a4, iX0_howManyOf, iX0_goerOn, iX0_passDay]
def mt_2 : List MI := [iX0_passWithinLast, iX0_passDays, iX0_howManyThere, iX0_bitsThere, iX1_worthWith, iX0_worthOf, iX0_worthWithout, iX0_gainOf, iX0_groupAround, iX0_groupsOf, iX0_farthestOf, iX0_pairsSideBySide, iX0_quietOn, iX1_costWith, iJ7_fill_53178, iX2_becomesRow]
def mt_3 : List MI := [iX2_hasPlace, iX2_hasPlaces, iX2_elementAt, iX2_putIn, iX2_isSkipped, iX2_digitsBehind, iX2_wrongByte, iX2_digitAt, iX2_twoDigitsAt, iX3_shelfAt, iX3_refusalUnless, iX3_isDone, iX3_game, iX3_piece, iX3_on, iX3_comes]
def mt_4 : List MI := [iX3_stands, iX3_takes, iX3_turn, iX3_days, iX3_lookAhead, iX3_squareThen, iX3_then, iX3_firstToFall, iX3_falls, iX3_still, iX3_next, iX3_heard, iX3_danger, iX3_placeInMind, iX3_stand, iX3_off]
def mt_5 : List MI := [iX3_ears, iX3_side, iX3_free, iX3_wentAsTold, iX3_whatIs, iX3_whereFrom, iX3_firstPairAtRest, iX3_two, iX3_waysToBeThere, iX3_partInLeastTerms, iX3_rain, iX3_share, iX3_forged, iX3_judge, iX3_draw, iX3_setUpByDraws]
def mt_6 : List MI := [iX3_games, iX3_image, iX3_restore, iX3_count, iX3_keep, iX3_row, iX3_put, iX3_copy, iX3_cost, iX4_isIn, iX4_sized, iX4_least, iX4_copies, iX4_of, iX4_isPiece, iX4_areTwo]
def mt_7 : List MI := [iX4_isSquare, iX4_isSide, iX4_isHere, iX4_has, iX4_bits, iX4_onSquare, iX4_squareOn, iX4_isFree, iX4_isOfSide, iX4_farOf, iX4_forward, iX4_pawnIdea, iX4_knightIdea, iX4_slideIdea, iX4_bishopIdea, iX4_kingIdea]
def mt_8 : List MI := [iX4_idea, iX4_earsBy, iX4_worthBy, iX4_doesHear, iX4_heardBy, iX4_hereIn, iX4_ofSide, iX4_worthOf, iX4_goesOn, iX4_day, iX4_daysOn, iX4_here, iX4_readsNumber, iX4_readsStatement, iX4_adds, iX4_mayStand]
def mt_9 : List MI := [iX4_isDone, iX4_isShelf, iX4_wrongRow, iX4_game, iX4_nextIdea, iX4_piece, iX4_on, iX4_wrongKept, iX4_comes, iX4_sets, iX4_stands, iX4_takes, iX4_turn, iX4_days, iX4_isLate, iX4_inMind]
def mt_10 : List MI := [iX4_squareThen, iX4_then, iX4_fallsOf, iX4_firstFalls, iX4_falls, iX4_isMoved, iX4_still, iX4_next, iX4_heard, iX4_danger, iX4_stand, iX4_off, iX4_ears, iX4_groupsOf, iX4_farthestOf, iX4_side]
def mt_11 : List MI := [iX4_pairs, iX4_quietOnes, iX4_free, iX4_leastOf, iX4_isTold, iX4_toldSquare, iX4_isWhereSo, iX4_whatIs, iX4_whereFrom, iX4_hasBy, iX4_two, iX4_gcd, iX4_partOf, iX4_rain, iX4_share, iX4_forged]
def mt_12 : List MI := [iX4_judge, iX4_drawn, iX4_setsUp, iX4_games, iX4_image, iX4_restore, iX4_count, iX4_thrown, iX4_keep, iX4_row, iX4_put, iX4_element, iX4_copy, iX4_costBy, iX4_cost, iX4_toss]
def mt : List MI := mt_0 ++ (mt_1 ++ (mt_2 ++ (mt_3 ++ (mt_4 ++ (mt_5 ++ (mt_6 ++ (mt_7 ++ (mt_8 ++ (mt_9 ++ (mt_10 ++ (mt_11 ++ (mt_12))))))))))))
def bL_law : List Blk := [(23, [(.iload 4, 2, 0, 0, 0), (.aload_n 0, 1, 0, 0, 0), (.arraylength, 1, 0, 0, 0), (.bipush 6, 2, 6, 0, 0), (.isub, 1, 0, 0, 0)], some (.if_icmp .gt 1538, 3, 0, 0, 0)),
  (33, [(.aload_n 0, 1, 0, 0, 0), (.iload 4, 2, 0, 0, 0), (.iaload, 1, 0, 0, 0), (.bipush 63, 2, 63, 0, 0), (.iand, 1, 0, 0, 0)], some (.tableswitch 1522 0 37 #[168, 193, 230, 255, 304, 341, 366, 391, 416, 453, 490, 515, 528, 553, 578, 603, 652, 677, 714, 751, 776, 825, 874, 923, 985, 1023, 1048, 1073, 1122, 1135, 1148, 1173, 1234, 1283, 1332, 1399, 1472, 1497], 168, 0, 0, 0)),
  (208, [(.aload_n 1, 1, 0, 0, 0), (.aload_n 0, 1, 0, 0, 0), (.iload 4, 2, 0, 0, 0), (.iconst 1, 1, 1, 0, 0), (.iadd, 1, 0, 0, 0), (.iaload, 1, 0, 0, 0)], some (.invokevirtual 21, 3, 60, 2, 2)),
  (218, [(.aload_n 2, 1, 0, 0, 0), (.aload_n 0, 1, 0, 0, 0), (.iload 4, 2, 0, 0, 0), (.iconst 1, 1, 1, 0, 0), (.iadd, 1, 0, 0, 0), (.iaload, 1, 0, 0, 0)], some (.invokevirtual 25, 3, 147, 2, 3)),
  (228, [], some (.if_icmp .eq 1334, 3, 0, 0, 0)),
  (231, [(.iconst 0, 1, 0, 0, 0)], some (.ireturn, 1, 1, 0, 0)),
  (233, [(.aload_n 1, 1, 0, 0, 0), (.aload_n 0, 1, 0, 0, 0), (.iload 4, 2, 0, 0, 0), (.iconst 1, 1, 1, 0, 0), (.iadd, 1, 0, 0, 0), (.iaload, 1, 0, 0, 0), (.aload_n 0, 1, 0, 0, 0), (.iload 4, 2, 0, 0, 0), (.iconst 2, 1, 2, 0, 0), (.iadd, 1, 0, 0, 0), (.iaload, 1, 0, 0, 0)], some (.invokevirtual 26, 3, 61, 3, 2)),
  (249, [(.aload_n 2, 1, 0, 0, 0), (.aload_n 0, 1, 0, 0, 0), (.iload 4, 2, 0, 0, 0), (.iconst 1, 1, 1, 0, 0), (.iadd, 1, 0, 0, 0), (.iaload, 1, 0, 0, 0), (.aload_n 0, 1, 0, 0, 0), (.iload 4, 2, 0, 0, 0), (.iconst 2, 1, 2, 0, 0), (.iadd, 1, 0, 0, 0), (.iaload, 1, 0, 0, 0)], some (.invokevirtual 30, 3, 149, 3, 3)),
  (265, [], some (.if_icmp .eq 1297, 3, 0, 0, 0)),
  (268, [(.iconst 0, 1, 0, 0, 0)], some (.ireturn, 1, 1, 0, 0)),
  (270, [(.aload_n 1, 1, 0, 0, 0), (.aload_n 0, 1, 0, 0, 0), (.iload 4, 2, 0, 0, 0), (.iconst 1, 1, 1, 0, 0), (.iadd, 1, 0, 0, 0), (.iaload, 1, 0, 0, 0)], some (.invokevirtual 31, 3, 62, 2, 2)),
  (280, [(.aload_n 2, 1, 0, 0, 0), (.aload_n 0, 1, 0, 0, 0), (.iload 4, 2, 0, 0, 0), (.iconst 1, 1, 1, 0, 0), (.iadd, 1, 0, 0, 0), (.iaload, 1, 0, 0, 0)], some (.invokevirtual 34, 3, 150, 2, 3)),
  (290, [], some (.if_icmp .eq 1272, 3, 0, 0, 0)),
  (293, [(.iconst 0, 1, 0, 0, 0)], some (.ireturn, 1, 1, 0, 0)),
  (295, [(.aload_n 1, 1, 0, 0, 0), (.aload_n 0, 1, 0, 0, 0), (.iload 4, 2, 0, 0, 0), (.iconst 1, 1, 1, 0, 0), (.iadd, 1, 0, 0, 0), (.iaload, 1, 0, 0, 0), (.aload_n 0, 1, 0, 0, 0), (.iload 4, 2, 0, 0, 0), (.iconst 2, 1, 2, 0, 0), (.iadd, 1, 0, 0, 0), (.iaload, 1, 0, 0, 0), (.aload_n 0, 1, 0, 0, 0), (.iload 4, 2, 0, 0, 0), (.iconst 3, 1, 3, 0, 0), (.iadd, 1, 0, 0, 0), (.iaload, 1, 0, 0, 0)], some (.invokevirtual 35, 3, 63, 4, 2)),
  (317, [(.aload_n 2, 1, 0, 0, 0), (.aload_n 0, 1, 0, 0, 0), (.iload 4, 2, 0, 0, 0), (.iconst 1, 1, 1, 0, 0), (.iadd, 1, 0, 0, 0), (.iaload, 1, 0, 0, 0), (.aload_n 0, 1, 0, 0, 0), (.iload 4, 2, 0, 0, 0), (.iconst 2, 1, 2, 0, 0), (.iadd, 1, 0, 0, 0), (.iaload, 1, 0, 0, 0), (.aload_n 0, 1, 0, 0, 0), (.iload 4, 2, 0, 0, 0), (.iconst 3, 1, 3, 0, 0), (.iadd, 1, 0, 0, 0), (.iaload, 1, 0, 0, 0)], some (.invokevirtual 39, 3, 152, 4, 3)),
  (339, [], some (.if_icmp .eq 1223, 3, 0, 0, 0)),
  (342, [(.iconst 0, 1, 0, 0, 0)], some (.ireturn, 1, 1, 0, 0)),
  (344, [(.aload_n 1, 1, 0, 0, 0), (.aload_n 0, 1, 0, 0, 0), (.iload 4, 2, 0, 0, 0), (.iconst 1, 1, 1, 0, 0), (.iadd, 1, 0, 0, 0), (.iaload, 1, 0, 0, 0), (.aload_n 0, 1, 0, 0, 0), (.iload 4, 2, 0, 0, 0), (.iconst 2, 1, 2, 0, 0), (.iadd, 1, 0, 0, 0), (.iaload, 1, 0, 0, 0)], some (.invokevirtual 40, 3, 64, 3, 2)),
  (360, [(.aload_n 2, 1, 0, 0, 0), (.aload_n 0, 1, 0, 0, 0), (.iload 4, 2, 0, 0, 0), (.iconst 1, 1, 1, 0, 0), (.iadd, 1, 0, 0, 0), (.iaload, 1, 0, 0, 0), (.aload_n 0, 1, 0, 0, 0), (.iload 4, 2, 0, 0, 0), (.iconst 2, 1, 2, 0, 0), (.iadd, 1, 0, 0, 0), (.iaload, 1, 0, 0, 0)], some (.invokevirtual 43, 3, 154, 3, 3)),
  (376, [], some (.if_icmp .eq 1186, 3, 0, 0, 0)),
  (379, [(.iconst 0, 1, 0, 0, 0)], some (.ireturn, 1, 1, 0, 0)),
  (381, [(.aload_n 1, 1, 0, 0, 0), (.aload_n 0, 1, 0, 0, 0), (.iload 4, 2, 0, 0, 0), (.iconst 1, 1, 1, 0, 0), (.iadd, 1, 0, 0, 0), (.iaload, 1, 0, 0, 0)], some (.invokevirtual 44, 3, 65, 2, 2)),
  (391, [(.aload_n 2, 1, 0, 0, 0), (.aload_n 0, 1, 0, 0, 0), (.iload 4, 2, 0, 0, 0), (.iconst 1, 1, 1, 0, 0), (.iadd, 1, 0, 0, 0), (.iaload, 1, 0, 0, 0)], some (.invokevirtual 47, 3, 155, 2, 3)),
  (401, [], some (.if_icmp .eq 1161, 3, 0, 0, 0)),
  (404, [(.iconst 0, 1, 0, 0, 0)], some (.ireturn, 1, 1, 0, 0)),
  (406, [(.aload_n 1, 1, 0, 0, 0), (.aload_n 0, 1, 0, 0, 0), (.iload 4, 2, 0, 0, 0), (.iconst 1, 1, 1, 0, 0), (.iadd, 1, 0, 0, 0), (.iaload, 1, 0, 0, 0)], some (.invokevirtual 48, 3, 66, 2, 2)),
  (416, [(.aload_n 2, 1, 0, 0, 0), (.aload_n 0, 1, 0, 0, 0), (.iload 4, 2, 0, 0, 0), (.iconst 1, 1, 1, 0, 0), (.iadd, 1, 0, 0, 0), (.iaload, 1, 0, 0, 0)], some (.invokevirtual 51, 3, 156, 2, 3)),
  (426, [], some (.if_icmp .eq 1136, 3, 0, 0, 0)),
  (429, [(.iconst 0, 1, 0, 0, 0)], some (.ireturn, 1, 1, 0, 0)),
  (431, [(.aload_n 1, 1, 0, 0, 0), (.aload_n 0, 1, 0, 0, 0), (.iload 4, 2, 0, 0, 0), (.iconst 1, 1, 1, 0, 0), (.iadd, 1, 0, 0, 0), (.iaload, 1, 0, 0, 0)], some (.invokevirtual 52, 3, 67, 2, 2)),
  (441, [(.aload_n 2, 1, 0, 0, 0), (.aload_n 0, 1, 0, 0, 0), (.iload 4, 2, 0, 0, 0), (.iconst 1, 1, 1, 0, 0), (.iadd, 1, 0, 0, 0), (.iaload, 1, 0, 0, 0)], some (.invokevirtual 55, 3, 157, 2, 3)),
  (451, [], some (.if_icmp .eq 1111, 3, 0, 0, 0)),
  (454, [(.iconst 0, 1, 0, 0, 0)], some (.ireturn, 1, 1, 0, 0)),
  (456, [(.aload_n 1, 1, 0, 0, 0), (.aload_n 0, 1, 0, 0, 0), (.iload 4, 2, 0, 0, 0), (.iconst 1, 1, 1, 0, 0), (.iadd, 1, 0, 0, 0), (.iaload, 1, 0, 0, 0), (.aload_n 0, 1, 0, 0, 0), (.iload 4, 2, 0, 0, 0), (.iconst 2, 1, 2, 0, 0), (.iadd, 1, 0, 0, 0), (.iaload, 1, 0, 0, 0)], some (.invokevirtual 56, 3, 69, 3, 2)),
  (472, [(.aload_n 2, 1, 0, 0, 0), (.aload_n 0, 1, 0, 0, 0), (.iload 4, 2, 0, 0, 0), (.iconst 1, 1, 1, 0, 0), (.iadd, 1, 0, 0, 0), (.iaload, 1, 0, 0, 0), (.aload_n 0, 1, 0, 0, 0), (.iload 4, 2, 0, 0, 0), (.iconst 2, 1, 2, 0, 0), (.iadd, 1, 0, 0, 0), (.iaload, 1, 0, 0, 0)], some (.invokevirtual 59, 3, 160, 3, 3)),
  (488, [], some (.if_icmp .eq 1074, 3, 0, 0, 0)),
  (491, [(.iconst 0, 1, 0, 0, 0)], some (.ireturn, 1, 1, 0, 0)),
  (493, [(.aload_n 1, 1, 0, 0, 0), (.aload_n 0, 1, 0, 0, 0), (.iload 4, 2, 0, 0, 0), (.iconst 1, 1, 1, 0, 0), (.iadd, 1, 0, 0, 0), (.iaload, 1, 0, 0, 0), (.aload_n 0, 1, 0, 0, 0), (.iload 4, 2, 0, 0, 0), (.iconst 2, 1, 2, 0, 0), (.iadd, 1, 0, 0, 0), (.iaload, 1, 0, 0, 0)], some (.invokevirtual 60, 3, 70, 3, 2)),
  (509, [(.aload_n 2, 1, 0, 0, 0), (.aload_n 0, 1, 0, 0, 0), (.iload 4, 2, 0, 0, 0), (.iconst 1, 1, 1, 0, 0), (.iadd, 1, 0, 0, 0), (.iaload, 1, 0, 0, 0), (.aload_n 0, 1, 0, 0, 0), (.iload 4, 2, 0, 0, 0), (.iconst 2, 1, 2, 0, 0), (.iadd, 1, 0, 0, 0), (.iaload, 1, 0, 0, 0)], some (.invokevirtual 63, 3, 161, 3, 3)),
  (525, [], some (.if_icmp .eq 1037, 3, 0, 0, 0)),
  (528, [(.iconst 0, 1, 0, 0, 0)], some (.ireturn, 1, 1, 0, 0)),
  (530, [(.aload_n 1, 1, 0, 0, 0), (.aload_n 0, 1, 0, 0, 0), (.iload 4, 2, 0, 0, 0), (.iconst 1, 1, 1, 0, 0), (.iadd, 1, 0, 0, 0), (.iaload, 1, 0, 0, 0)], some (.invokevirtual 64, 3, 72, 2, 2)),
  (540, [(.aload_n 2, 1, 0, 0, 0), (.aload_n 0, 1, 0, 0, 0), (.iload 4, 2, 0, 0, 0), (.iconst 1, 1, 1, 0, 0), (.iadd, 1, 0, 0, 0), (.iaload, 1, 0, 0, 0)], some (.invokevirtual 67, 3, 164, 2, 3)),
  (550, [], some (.if_icmp .eq 1012, 3, 0, 0, 0)),
  (553, [(.iconst 0, 1, 0, 0, 0)], some (.ireturn, 1, 1, 0, 0)),
  (555, [(.aload_n 1, 1, 0, 0, 0)], some (.invokevirtual 68, 3, 73, 1, 2)),
  (559, [(.aload_n 2, 1, 0, 0, 0)], some (.invokevirtual 72, 3, 166, 1, 3)),
  (563, [], some (.if_icmp .eq 999, 3, 0, 0, 0)),
  (566, [(.iconst 0, 1, 0, 0, 0)], some (.ireturn, 1, 1, 0, 0)),
  (568, [(.aload_n 1, 1, 0, 0, 0), (.aload_n 0, 1, 0, 0, 0), (.iload 4, 2, 0, 0, 0), (.iconst 1, 1, 1, 0, 0), (.iadd, 1, 0, 0, 0), (.iaload, 1, 0, 0, 0)], some (.invokevirtual 73, 3, 74, 2, 2)),
  (578, [(.aload_n 2, 1, 0, 0, 0), (.aload_n 0, 1, 0, 0, 0), (.iload 4, 2, 0, 0, 0), (.iconst 1, 1, 1, 0, 0), (.iadd, 1, 0, 0, 0), (.iaload, 1, 0, 0, 0)], some (.invokevirtual 76, 3, 167, 2, 3)),
  (588, [], some (.if_icmp .eq 974, 3, 0, 0, 0)),
  (591, [(.iconst 0, 1, 0, 0, 0)], some (.ireturn, 1, 1, 0, 0)),
  (593, [(.aload_n 1, 1, 0, 0, 0), (.aload_n 0, 1, 0, 0, 0), (.iload 4, 2, 0, 0, 0), (.iconst 1, 1, 1, 0, 0), (.iadd, 1, 0, 0, 0), (.iaload, 1, 0, 0, 0)], some (.invokevirtual 77, 3, 75, 2, 2)),
  (603, [(.aload_n 2, 1, 0, 0, 0), (.aload_n 0, 1, 0, 0, 0), (.iload 4, 2, 0, 0, 0), (.iconst 1, 1, 1, 0, 0), (.iadd, 1, 0, 0, 0), (.iaload, 1, 0, 0, 0)], some (.invokevirtual 80, 3, 168, 2, 3)),
  (613, [], some (.if_icmp .eq 949, 3, 0, 0, 0)),
  (616, [(.iconst 0, 1, 0, 0, 0)], some (.ireturn, 1, 1, 0, 0)),
  (618, [(.aload_n 1, 1, 0, 0, 0), (.aload_n 0, 1, 0, 0, 0), (.iload 4, 2, 0, 0, 0), (.iconst 1, 1, 1, 0, 0), (.iadd, 1, 0, 0, 0), (.iaload, 1, 0, 0, 0)], some (.invokevirtual 81, 3, 76, 2, 2)),
  (628, [(.aload_n 2, 1, 0, 0, 0), (.aload_n 0, 1, 0, 0, 0), (.iload 4, 2, 0, 0, 0), (.iconst 1, 1, 1, 0, 0), (.iadd, 1, 0, 0, 0), (.iaload, 1, 0, 0, 0)], some (.invokevirtual 84, 3, 169, 2, 3)),
  (638, [], some (.if_icmp .eq 924, 3, 0, 0, 0)),
  (641, [(.iconst 0, 1, 0, 0, 0)], some (.ireturn, 1, 1, 0, 0)),
  (643, [(.aload_n 1, 1, 0, 0, 0), (.aload_n 0, 1, 0, 0, 0), (.iload 4, 2, 0, 0, 0), (.iconst 1, 1, 1, 0, 0), (.iadd, 1, 0, 0, 0), (.iaload, 1, 0, 0, 0), (.aload_n 0, 1, 0, 0, 0), (.iload 4, 2, 0, 0, 0), (.iconst 2, 1, 2, 0, 0), (.iadd, 1, 0, 0, 0), (.iaload, 1, 0, 0, 0), (.aload_n 0, 1, 0, 0, 0), (.iload 4, 2, 0, 0, 0), (.iconst 3, 1, 3, 0, 0), (.iadd, 1, 0, 0, 0), (.iaload, 1, 0, 0, 0)], some (.invokevirtual 85, 3, 78, 4, 2)),
  (665, [(.aload_n 2, 1, 0, 0, 0), (.aload_n 0, 1, 0, 0, 0), (.iload 4, 2, 0, 0, 0), (.iconst 1, 1, 1, 0, 0), (.iadd, 1, 0, 0, 0), (.iaload, 1, 0, 0, 0), (.aload_n 0, 1, 0, 0, 0), (.iload 4, 2, 0, 0, 0), (.iconst 2, 1, 2, 0, 0), (.iadd, 1, 0, 0, 0), (.iaload, 1, 0, 0, 0), (.aload_n 0, 1, 0, 0, 0), (.iload 4, 2, 0, 0, 0), (.iconst 3, 1, 3, 0, 0), (.iadd, 1, 0, 0, 0), (.iaload, 1, 0, 0, 0)], some (.invokevirtual 88, 3, 170, 4, 3)),
  (687, [], some (.if_icmp .eq 875, 3, 0, 0, 0)),
  (690, [(.iconst 0, 1, 0, 0, 0)], some (.ireturn, 1, 1, 0, 0)),
  (692, [(.aload_n 1, 1, 0, 0, 0), (.aload_n 0, 1, 0, 0, 0), (.iload 4, 2, 0, 0, 0), (.iconst 1, 1, 1, 0, 0), (.iadd, 1, 0, 0, 0), (.iaload, 1, 0, 0, 0)], some (.invokevirtual 89, 3, 79, 2, 2)),
  (702, [(.aload_n 2, 1, 0, 0, 0), (.aload_n 0, 1, 0, 0, 0), (.iload 4, 2, 0, 0, 0), (.iconst 1, 1, 1, 0, 0), (.iadd, 1, 0, 0, 0), (.iaload, 1, 0, 0, 0)], some (.invokevirtual 92, 3, 171, 2, 3)),
  (712, [], some (.if_icmp .eq 850, 3, 0, 0, 0)),
  (715, [(.iconst 0, 1, 0, 0, 0)], some (.ireturn, 1, 1, 0, 0)),
  (717, [(.aload_n 1, 1, 0, 0, 0), (.aload_n 0, 1, 0, 0, 0), (.iload 4, 2, 0, 0, 0), (.iconst 1, 1, 1, 0, 0), (.iadd, 1, 0, 0, 0), (.iaload, 1, 0, 0, 0), (.aload_n 0, 1, 0, 0, 0), (.iload 4, 2, 0, 0, 0), (.iconst 2, 1, 2, 0, 0), (.iadd, 1, 0, 0, 0), (.iaload, 1, 0, 0, 0)], some (.invokevirtual 93, 3, 80, 3, 2)),
  (733, [(.aload_n 2, 1, 0, 0, 0), (.aload_n 0, 1, 0, 0, 0), (.iload 4, 2, 0, 0, 0), (.iconst 1, 1, 1, 0, 0), (.iadd, 1, 0, 0, 0), (.iaload, 1, 0, 0, 0), (.aload_n 0, 1, 0, 0, 0), (.iload 4, 2, 0, 0, 0), (.iconst 2, 1, 2, 0, 0), (.iadd, 1, 0, 0, 0), (.iaload, 1, 0, 0, 0)], some (.invokevirtual 96, 3, 172, 3, 3)),
  (749, [], some (.if_icmp .eq 813, 3, 0, 0, 0)),
  (752, [(.iconst 0, 1, 0, 0, 0)], some (.ireturn, 1, 1, 0, 0)),
  (754, [(.aload_n 1, 1, 0, 0, 0), (.aload_n 0, 1, 0, 0, 0), (.iload 4, 2, 0, 0, 0), (.iconst 1, 1, 1, 0, 0), (.iadd, 1, 0, 0, 0), (.iaload, 1, 0, 0, 0), (.aload_n 0, 1, 0, 0, 0), (.iload 4, 2, 0, 0, 0), (.iconst 2, 1, 2, 0, 0), (.iadd, 1, 0, 0, 0), (.iaload, 1, 0, 0, 0)], some (.invokevirtual 97, 3, 81, 3, 2)),
  (770, [(.aload_n 2, 1, 0, 0, 0), (.aload_n 0, 1, 0, 0, 0), (.iload 4, 2, 0, 0, 0), (.iconst 1, 1, 1, 0, 0), (.iadd, 1, 0, 0, 0), (.iaload, 1, 0, 0, 0), (.aload_n 0, 1, 0, 0, 0), (.iload 4, 2, 0, 0, 0), (.iconst 2, 1, 2, 0, 0), (.iadd, 1, 0, 0, 0), (.iaload, 1, 0, 0, 0)], some (.invokevirtual 100, 3, 175, 3, 3)),
  (786, [], some (.if_icmp .eq 776, 3, 0, 0, 0)),
  (789, [(.iconst 0, 1, 0, 0, 0)], some (.ireturn, 1, 1, 0, 0)),
  (791, [(.aload_n 1, 1, 0, 0, 0), (.aload_n 0, 1, 0, 0, 0), (.iload 4, 2, 0, 0, 0), (.iconst 1, 1, 1, 0, 0), (.iadd, 1, 0, 0, 0), (.iaload, 1, 0, 0, 0)], some (.invokevirtual 101, 3, 82, 2, 2)),
  (801, [(.aload_n 2, 1, 0, 0, 0), (.aload_n 0, 1, 0, 0, 0), (.iload 4, 2, 0, 0, 0), (.iconst 1, 1, 1, 0, 0), (.iadd, 1, 0, 0, 0), (.iaload, 1, 0, 0, 0)], some (.invokevirtual 104, 3, 178, 2, 3)),
  (811, [], some (.if_icmp .eq 751, 3, 0, 0, 0)),
  (814, [(.iconst 0, 1, 0, 0, 0)], some (.ireturn, 1, 1, 0, 0)),
  (816, [(.aload_n 1, 1, 0, 0, 0), (.aload_n 0, 1, 0, 0, 0), (.iload 4, 2, 0, 0, 0), (.iconst 1, 1, 1, 0, 0), (.iadd, 1, 0, 0, 0), (.iaload, 1, 0, 0, 0), (.aload_n 0, 1, 0, 0, 0), (.iload 4, 2, 0, 0, 0), (.iconst 2, 1, 2, 0, 0), (.iadd, 1, 0, 0, 0), (.iaload, 1, 0, 0, 0), (.aload_n 0, 1, 0, 0, 0), (.iload 4, 2, 0, 0, 0), (.iconst 3, 1, 3, 0, 0), (.iadd, 1, 0, 0, 0), (.iaload, 1, 0, 0, 0)], some (.invokevirtual 105, 3, 84, 4, 2)),
  (838, [(.aload_n 2, 1, 0, 0, 0), (.aload_n 0, 1, 0, 0, 0), (.iload 4, 2, 0, 0, 0), (.iconst 1, 1, 1, 0, 0), (.iadd, 1, 0, 0, 0), (.iaload, 1, 0, 0, 0), (.aload_n 0, 1, 0, 0, 0), (.iload 4, 2, 0, 0, 0), (.iconst 2, 1, 2, 0, 0), (.iadd, 1, 0, 0, 0), (.iaload, 1, 0, 0, 0), (.aload_n 0, 1, 0, 0, 0), (.iload 4, 2, 0, 0, 0), (.iconst 3, 1, 3, 0, 0), (.iadd, 1, 0, 0, 0), (.iaload, 1, 0, 0, 0)], some (.invokevirtual 108, 3, 183, 4, 3)),
  (860, [], some (.if_icmp .eq 702, 3, 0, 0, 0)),
  (863, [(.iconst 0, 1, 0, 0, 0)], some (.ireturn, 1, 1, 0, 0)),
  (865, [(.aload_n 1, 1, 0, 0, 0), (.aload_n 0, 1, 0, 0, 0), (.iload 4, 2, 0, 0, 0), (.iconst 1, 1, 1, 0, 0), (.iadd, 1, 0, 0, 0), (.iaload, 1, 0, 0, 0), (.aload_n 0, 1, 0, 0, 0), (.iload 4, 2, 0, 0, 0), (.iconst 2, 1, 2, 0, 0), (.iadd, 1, 0, 0, 0), (.iaload, 1, 0, 0, 0), (.aload_n 0, 1, 0, 0, 0), (.iload 4, 2, 0, 0, 0), (.iconst 3, 1, 3, 0, 0), (.iadd, 1, 0, 0, 0), (.iaload, 1, 0, 0, 0)], some (.invokevirtual 109, 3, 85, 4, 2)),
  (887, [(.aload_n 2, 1, 0, 0, 0), (.aload_n 0, 1, 0, 0, 0), (.iload 4, 2, 0, 0, 0), (.iconst 1, 1, 1, 0, 0), (.iadd, 1, 0, 0, 0), (.iaload, 1, 0, 0, 0), (.aload_n 0, 1, 0, 0, 0), (.iload 4, 2, 0, 0, 0), (.iconst 2, 1, 2, 0, 0), (.iadd, 1, 0, 0, 0), (.iaload, 1, 0, 0, 0), (.aload_n 0, 1, 0, 0, 0), (.iload 4, 2, 0, 0, 0), (.iconst 3, 1, 3, 0, 0), (.iadd, 1, 0, 0, 0), (.iaload, 1, 0, 0, 0)], some (.invokevirtual 112, 3, 184, 4, 3)),
  (909, [], some (.if_icmp .eq 653, 3, 0, 0, 0)),
  (912, [(.iconst 0, 1, 0, 0, 0)], some (.ireturn, 1, 1, 0, 0)),
  (914, [(.aload_n 1, 1, 0, 0, 0), (.aload_n 0, 1, 0, 0, 0), (.iload 4, 2, 0, 0, 0), (.iconst 1, 1, 1, 0, 0), (.iadd, 1, 0, 0, 0), (.iaload, 1, 0, 0, 0), (.aload_n 0, 1, 0, 0, 0), (.iload 4, 2, 0, 0, 0), (.iconst 2, 1, 2, 0, 0), (.iadd, 1, 0, 0, 0), (.iaload, 1, 0, 0, 0), (.aload_n 0, 1, 0, 0, 0), (.iload 4, 2, 0, 0, 0), (.iconst 3, 1, 3, 0, 0), (.iadd, 1, 0, 0, 0), (.iaload, 1, 0, 0, 0)], some (.invokevirtual 113, 3, 87, 4, 2)),
  (936, [(.aload_n 2, 1, 0, 0, 0), (.aload_n 0, 1, 0, 0, 0), (.iload 4, 2, 0, 0, 0), (.iconst 1, 1, 1, 0, 0), (.iadd, 1, 0, 0, 0), (.iaload, 1, 0, 0, 0), (.aload_n 0, 1, 0, 0, 0), (.iload 4, 2, 0, 0, 0), (.iconst 2, 1, 2, 0, 0), (.iadd, 1, 0, 0, 0), (.iaload, 1, 0, 0, 0), (.aload_n 0, 1, 0, 0, 0), (.iload 4, 2, 0, 0, 0), (.iconst 3, 1, 3, 0, 0), (.iadd, 1, 0, 0, 0), (.iaload, 1, 0, 0, 0)], some (.invokevirtual 116, 3, 186, 4, 3)),
  (958, [], some (.if_icmp .eq 604, 3, 0, 0, 0)),
  (961, [(.iconst 0, 1, 0, 0, 0)], some (.ireturn, 1, 1, 0, 0)),
  (963, [(.aload_n 1, 1, 0, 0, 0), (.aload_n 0, 1, 0, 0, 0), (.iload 4, 2, 0, 0, 0), (.iconst 1, 1, 1, 0, 0), (.iadd, 1, 0, 0, 0), (.iaload, 1, 0, 0, 0), (.aload_n 0, 1, 0, 0, 0), (.iload 4, 2, 0, 0, 0), (.iconst 2, 1, 2, 0, 0), (.iadd, 1, 0, 0, 0), (.iaload, 1, 0, 0, 0), (.aload_n 0, 1, 0, 0, 0), (.iload 4, 2, 0, 0, 0), (.iconst 3, 1, 3, 0, 0), (.iadd, 1, 0, 0, 0), (.iaload, 1, 0, 0, 0), (.aload_n 0, 1, 0, 0, 0), (.iload 4, 2, 0, 0, 0), (.iconst 4, 1, 4, 0, 0), (.iadd, 1, 0, 0, 0), (.iaload, 1, 0, 0, 0)], some (.invokevirtual 117, 3, 90, 5, 2)),
  (991, [(.aload_n 2, 1, 0, 0, 0), (.aload_n 0, 1, 0, 0, 0), (.iload 4, 2, 0, 0, 0), (.iconst 1, 1, 1, 0, 0), (.iadd, 1, 0, 0, 0), (.iaload, 1, 0, 0, 0), (.aload_n 0, 1, 0, 0, 0), (.iload 4, 2, 0, 0, 0), (.iconst 2, 1, 2, 0, 0), (.iadd, 1, 0, 0, 0), (.iaload, 1, 0, 0, 0), (.aload_n 0, 1, 0, 0, 0), (.iload 4, 2, 0, 0, 0), (.iconst 3, 1, 3, 0, 0), (.iadd, 1, 0, 0, 0), (.iaload, 1, 0, 0, 0), (.aload_n 0, 1, 0, 0, 0), (.iload 4, 2, 0, 0, 0), (.iconst 4, 1, 4, 0, 0), (.iadd, 1, 0, 0, 0), (.iaload, 1, 0, 0, 0)], some (.invokevirtual 121, 3, 189, 5, 3)),
  (1019, [(.lcmp, 1, 0, 0, 0)], some (.ifCond .eq 542, 3, 0, 0, 0)),
  (1023, [(.iconst 0, 1, 0, 0, 0)], some (.ireturn, 1, 1, 0, 0)),
  (1025, [(.aload_n 1, 1, 0, 0, 0), (.aload_n 0, 1, 0, 0, 0), (.iload 4, 2, 0, 0, 0), (.iconst 1, 1, 1, 0, 0), (.iadd, 1, 0, 0, 0), (.iaload, 1, 0, 0, 0), (.aload_n 0, 1, 0, 0, 0), (.iload 4, 2, 0, 0, 0), (.iconst 2, 1, 2, 0, 0), (.iadd, 1, 0, 0, 0), (.iaload, 1, 0, 0, 0)], some (.invokevirtual 122, 3, 91, 3, 2)),
  (1041, [(.aload_n 2, 1, 0, 0, 0), (.aload_n 0, 1, 0, 0, 0), (.iload 4, 2, 0, 0, 0), (.iconst 1, 1, 1, 0, 0), (.iadd, 1, 0, 0, 0), (.iaload, 1, 0, 0, 0), (.aload_n 0, 1, 0, 0, 0), (.iload 4, 2, 0, 0, 0), (.iconst 2, 1, 2, 0, 0), (.iadd, 1, 0, 0, 0), (.iaload, 1, 0, 0, 0)], some (.invokevirtual 125, 3, 190, 3, 3)),
  (1057, [(.lcmp, 1, 0, 0, 0)], some (.ifCond .eq 504, 3, 0, 0, 0)),
  (1061, [(.iconst 0, 1, 0, 0, 0)], some (.ireturn, 1, 1, 0, 0)),
  (1063, [(.aload_n 1, 1, 0, 0, 0), (.aload_n 0, 1, 0, 0, 0), (.iload 4, 2, 0, 0, 0), (.iconst 1, 1, 1, 0, 0), (.iadd, 1, 0, 0, 0), (.iaload, 1, 0, 0, 0)], some (.invokevirtual 126, 3, 92, 2, 2)),
  (1073, [(.aload_n 2, 1, 0, 0, 0), (.aload_n 0, 1, 0, 0, 0), (.iload 4, 2, 0, 0, 0), (.iconst 1, 1, 1, 0, 0), (.iadd, 1, 0, 0, 0), (.iaload, 1, 0, 0, 0)], some (.invokevirtual 129, 3, 191, 2, 3)),
  (1083, [], some (.if_icmp .eq 479, 3, 0, 0, 0)),
  (1086, [(.iconst 0, 1, 0, 0, 0)], some (.ireturn, 1, 1, 0, 0)),
  (1088, [(.aload_n 1, 1, 0, 0, 0), (.aload_n 0, 1, 0, 0, 0), (.iload 4, 2, 0, 0, 0), (.iconst 1, 1, 1, 0, 0), (.iadd, 1, 0, 0, 0), (.iaload, 1, 0, 0, 0)], some (.invokevirtual 130, 3, 93, 2, 2)),
  (1098, [(.aload_n 2, 1, 0, 0, 0), (.aload_n 0, 1, 0, 0, 0), (.iload 4, 2, 0, 0, 0), (.iconst 1, 1, 1, 0, 0), (.iadd, 1, 0, 0, 0), (.iaload, 1, 0, 0, 0)], some (.invokevirtual 133, 3, 192, 2, 3)),
  (1108, [], some (.if_icmp .eq 454, 3, 0, 0, 0)),
  (1111, [(.iconst 0, 1, 0, 0, 0)], some (.ireturn, 1, 1, 0, 0)),
  (1113, [(.aload_n 1, 1, 0, 0, 0), (.aload_n 0, 1, 0, 0, 0), (.iload 4, 2, 0, 0, 0), (.iconst 1, 1, 1, 0, 0), (.iadd, 1, 0, 0, 0), (.iaload, 1, 0, 0, 0), (.aload_n 0, 1, 0, 0, 0), (.iload 4, 2, 0, 0, 0), (.iconst 2, 1, 2, 0, 0), (.iadd, 1, 0, 0, 0), (.iaload, 1, 0, 0, 0), (.aload_n 0, 1, 0, 0, 0), (.iload 4, 2, 0, 0, 0), (.iconst 3, 1, 3, 0, 0), (.iadd, 1, 0, 0, 0), (.iaload, 1, 0, 0, 0)], some (.invokevirtual 134, 3, 96, 4, 2)),
  (1135, [(.aload_n 2, 1, 0, 0, 0), (.aload_n 0, 1, 0, 0, 0), (.iload 4, 2, 0, 0, 0), (.iconst 1, 1, 1, 0, 0), (.iadd, 1, 0, 0, 0), (.iaload, 1, 0, 0, 0), (.aload_n 0, 1, 0, 0, 0), (.iload 4, 2, 0, 0, 0), (.iconst 2, 1, 2, 0, 0), (.iadd, 1, 0, 0, 0), (.iaload, 1, 0, 0, 0), (.aload_n 0, 1, 0, 0, 0), (.iload 4, 2, 0, 0, 0), (.iconst 3, 1, 3, 0, 0), (.iadd, 1, 0, 0, 0), (.iaload, 1, 0, 0, 0)], some (.invokevirtual 137, 3, 195, 4, 3)),
  (1157, [], some (.if_icmp .eq 405, 3, 0, 0, 0)),
  (1160, [(.iconst 0, 1, 0, 0, 0)], some (.ireturn, 1, 1, 0, 0)),
  (1162, [(.aload_n 1, 1, 0, 0, 0)], some (.invokevirtual 138, 3, 97, 1, 2)),
  (1166, [(.aload_n 2, 1, 0, 0, 0)], some (.invokevirtual 141, 3, 196, 1, 3)),
  (1170, [], some (.if_icmp .eq 392, 3, 0, 0, 0)),
  (1173, [(.iconst 0, 1, 0, 0, 0)], some (.ireturn, 1, 1, 0, 0)),
  (1175, [(.aload_n 1, 1, 0, 0, 0)], some (.invokevirtual 142, 3, 98, 1, 2)),
  (1179, [(.aload_n 2, 1, 0, 0, 0)], some (.invokevirtual 145, 3, 197, 1, 3)),
  (1183, [], some (.if_icmp .eq 379, 3, 0, 0, 0)),
  (1186, [(.iconst 0, 1, 0, 0, 0)], some (.ireturn, 1, 1, 0, 0)),
  (1188, [(.aload_n 1, 1, 0, 0, 0), (.aload_n 0, 1, 0, 0, 0), (.iload 4, 2, 0, 0, 0), (.iconst 1, 1, 1, 0, 0), (.iadd, 1, 0, 0, 0), (.iaload, 1, 0, 0, 0)], some (.invokevirtual 146, 3, 99, 2, 2)),
  (1198, [(.aload_n 2, 1, 0, 0, 0), (.aload_n 0, 1, 0, 0, 0), (.iload 4, 2, 0, 0, 0), (.iconst 1, 1, 1, 0, 0), (.iadd, 1, 0, 0, 0), (.iaload, 1, 0, 0, 0)], some (.invokevirtual 149, 3, 198, 2, 3)),
  (1208, [], some (.if_icmp .eq 354, 3, 0, 0, 0)),
  (1211, [(.iconst 0, 1, 0, 0, 0)], some (.ireturn, 1, 1, 0, 0)),
  (1213, [(.aload_n 1, 1, 0, 0, 0), (.aload_n 0, 1, 0, 0, 0), (.iload 4, 2, 0, 0, 0), (.iconst 1, 1, 1, 0, 0), (.iadd, 1, 0, 0, 0), (.iaload, 1, 0, 0, 0), (.aload_n 0, 1, 0, 0, 0), (.iload 4, 2, 0, 0, 0), (.iconst 2, 1, 2, 0, 0), (.iadd, 1, 0, 0, 0), (.iaload, 1, 0, 0, 0), (.aload_n 0, 1, 0, 0, 0), (.iload 4, 2, 0, 0, 0), (.iconst 3, 1, 3, 0, 0), (.iadd, 1, 0, 0, 0), (.iaload, 1, 0, 0, 0), (.aload_n 0, 1, 0, 0, 0), (.iload 4, 2, 0, 0, 0), (.iconst 4, 1, 4, 0, 0), (.iadd, 1, 0, 0, 0), (.iaload, 1, 0, 0, 0)], some (.invokevirtual 150, 3, 100, 5, 2)),
  (1241, [(.aload_n 2, 1, 0, 0, 0), (.aload_n 0, 1, 0, 0, 0), (.iload 4, 2, 0, 0, 0), (.iconst 1, 1, 1, 0, 0), (.iadd, 1, 0, 0, 0), (.iaload, 1, 0, 0, 0), (.aload_n 0, 1, 0, 0, 0), (.iload 4, 2, 0, 0, 0), (.iconst 2, 1, 2, 0, 0), (.iadd, 1, 0, 0, 0), (.iaload, 1, 0, 0, 0), (.aload_n 0, 1, 0, 0, 0), (.iload 4, 2, 0, 0, 0), (.iconst 3, 1, 3, 0, 0), (.iadd, 1, 0, 0, 0), (.iaload, 1, 0, 0, 0), (.aload_n 0, 1, 0, 0, 0), (.iload 4, 2, 0, 0, 0), (.iconst 4, 1, 4, 0, 0), (.iadd, 1, 0, 0, 0), (.iaload, 1, 0, 0, 0)], some (.invokevirtual 154, 3, 200, 5, 3)),
  (1269, [], some (.if_icmp .eq 293, 3, 0, 0, 0)),
  (1272, [(.iconst 0, 1, 0, 0, 0)], some (.ireturn, 1, 1, 0, 0)),
  (1274, [(.aload_n 1, 1, 0, 0, 0), (.aload_n 0, 1, 0, 0, 0), (.iload 4, 2, 0, 0, 0), (.iconst 1, 1, 1, 0, 0), (.iadd, 1, 0, 0, 0), (.iaload, 1, 0, 0, 0), (.aload_n 0, 1, 0, 0, 0), (.iload 4, 2, 0, 0, 0), (.iconst 2, 1, 2, 0, 0), (.iadd, 1, 0, 0, 0), (.iaload, 1, 0, 0, 0), (.aload_n 0, 1, 0, 0, 0), (.iload 4, 2, 0, 0, 0), (.iconst 3, 1, 3, 0, 0), (.iadd, 1, 0, 0, 0), (.iaload, 1, 0, 0, 0)], some (.invokevirtual 155, 3, 101, 4, 2)),
  (1296, [(.aload_n 2, 1, 0, 0, 0), (.aload_n 0, 1, 0, 0, 0), (.iload 4, 2, 0, 0, 0), (.iconst 1, 1, 1, 0, 0), (.iadd, 1, 0, 0, 0), (.iaload, 1, 0, 0, 0), (.aload_n 0, 1, 0, 0, 0), (.iload 4, 2, 0, 0, 0), (.iconst 2, 1, 2, 0, 0), (.iadd, 1, 0, 0, 0), (.iaload, 1, 0, 0, 0), (.aload_n 0, 1, 0, 0, 0), (.iload 4, 2, 0, 0, 0), (.iconst 3, 1, 3, 0, 0), (.iadd, 1, 0, 0, 0), (.iaload, 1, 0, 0, 0)], some (.invokevirtual 158, 3, 201, 4, 3)),
  (1318, [], some (.if_icmp .eq 244, 3, 0, 0, 0)),
  (1321, [(.iconst 0, 1, 0, 0, 0)], some (.ireturn, 1, 1, 0, 0)),
  (1323, [(.aload_n 1, 1, 0, 0, 0), (.aload_n 0, 1, 0, 0, 0), (.iload 4, 2, 0, 0, 0), (.iconst 1, 1, 1, 0, 0), (.iadd, 1, 0, 0, 0), (.iaload, 1, 0, 0, 0), (.aload_n 0, 1, 0, 0, 0), (.iload 4, 2, 0, 0, 0), (.iconst 2, 1, 2, 0, 0), (.iadd, 1, 0, 0, 0), (.iaload, 1, 0, 0, 0), (.aload_n 0, 1, 0, 0, 0), (.iload 4, 2, 0, 0, 0), (.iconst 3, 1, 3, 0, 0), (.iadd, 1, 0, 0, 0), (.iaload, 1, 0, 0, 0)], some (.invokevirtual 159, 3, 102, 4, 2)),
  (1345, [(.aload_n 2, 1, 0, 0, 0), (.aload_n 0, 1, 0, 0, 0), (.iload 4, 2, 0, 0, 0), (.iconst 1, 1, 1, 0, 0), (.iadd, 1, 0, 0, 0), (.iaload, 1, 0, 0, 0), (.aload_n 0, 1, 0, 0, 0), (.iload 4, 2, 0, 0, 0), (.iconst 2, 1, 2, 0, 0), (.iadd, 1, 0, 0, 0), (.iaload, 1, 0, 0, 0), (.aload_n 0, 1, 0, 0, 0), (.iload 4, 2, 0, 0, 0), (.iconst 3, 1, 3, 0, 0), (.iadd, 1, 0, 0, 0), (.iaload, 1, 0, 0, 0)], some (.invokevirtual 162, 3, 202, 4, 3)),
  (1367, [], some (.if_icmp .eq 195, 3, 0, 0, 0)),
  (1370, [(.iconst 0, 1, 0, 0, 0)], some (.ireturn, 1, 1, 0, 0)),
  (1372, [(.aload_n 1, 1, 0, 0, 0), (.aload_n 0, 1, 0, 0, 0), (.iload 4, 2, 0, 0, 0), (.iconst 1, 1, 1, 0, 0), (.iadd, 1, 0, 0, 0), (.iaload, 1, 0, 0, 0), (.aload_n 0, 1, 0, 0, 0), (.iload 4, 2, 0, 0, 0), (.iconst 2, 1, 2, 0, 0), (.iadd, 1, 0, 0, 0), (.iaload, 1, 0, 0, 0), (.aload_n 3, 1, 0, 0, 0)], none),
  (1389, [(.istore 5, 2, 0, 0, 0), (.aload_n 2, 1, 0, 0, 0), (.aload_n 0, 1, 0, 0, 0), (.iload 4, 2, 0, 0, 0), (.iconst 1, 1, 1, 0, 0), (.iadd, 1, 0, 0, 0), (.iaload, 1, 0, 0, 0), (.aload_n 0, 1, 0, 0, 0), (.iload 4, 2, 0, 0, 0), (.iconst 2, 1, 2, 0, 0), (.iadd, 1, 0, 0, 0), (.iaload, 1, 0, 0, 0)], some (.invokevirtual 168, 3, 203, 3, 3)),
  (1407, [(.lstore 6, 2, 0, 0, 0), (.aload_n 2, 1, 0, 0, 0)], some (.invokevirtual 169, 3, 199, 1, 3)),
  (1413, [(.iload 5, 2, 0, 0, 0)], some (.if_icmp .eq 5, 3, 0, 0, 0)),
  (1418, [(.iconst 0, 1, 0, 0, 0)], some (.ireturn, 1, 1, 0, 0)),
  (1420, [(.iload 5, 2, 0, 0, 0)], some (.ifCond .ne 14, 3, 0, 0, 0)),
  (1425, [(.aload_n 3, 1, 0, 0, 0), (.iconst 0, 1, 0, 0, 0)], none),
  (1428, [(.lload 6, 2, 0, 0, 0), (.lcmp, 1, 0, 0, 0)], some (.ifCond .eq 5, 3, 0, 0, 0)),
  (1434, [(.iconst 0, 1, 0, 0, 0)], some (.ireturn, 1, 1, 0, 0)),
  (1436, [], some (.goto 126, 3, 0, 0, 0)),
  (1439, [(.aload_n 1, 1, 0, 0, 0), (.aload_n 0, 1, 0, 0, 0), (.iload 4, 2, 0, 0, 0), (.iconst 1, 1, 1, 0, 0), (.iadd, 1, 0, 0, 0), (.iaload, 1, 0, 0, 0), (.aload_n 0, 1, 0, 0, 0), (.iload 4, 2, 0, 0, 0), (.iconst 2, 1, 2, 0, 0), (.iadd, 1, 0, 0, 0), (.iaload, 1, 0, 0, 0), (.aload_n 0, 1, 0, 0, 0), (.iload 4, 2, 0, 0, 0), (.iconst 3, 1, 3, 0, 0), (.iadd, 1, 0, 0, 0), (.iaload, 1, 0, 0, 0), (.aload_n 0, 1, 0, 0, 0), (.iload 4, 2, 0, 0, 0), (.iconst 4, 1, 4, 0, 0), (.iadd, 1, 0, 0, 0), (.iaload, 1, 0, 0, 0), (.aload_n 0, 1, 0, 0, 0), (.iload 4, 2, 0, 0, 0), (.iconst 5, 1, 5, 0, 0), (.iadd, 1, 0, 0, 0), (.iaload, 1, 0, 0, 0)], some (.invokevirtual 172, 3, 103, 6, 2)),
  (1473, [(.aload_n 2, 1, 0, 0, 0), (.aload_n 0, 1, 0, 0, 0), (.iload 4, 2, 0, 0, 0), (.iconst 1, 1, 1, 0, 0), (.iadd, 1, 0, 0, 0), (.iaload, 1, 0, 0, 0), (.aload_n 0, 1, 0, 0, 0), (.iload 4, 2, 0, 0, 0), (.iconst 2, 1, 2, 0, 0), (.iadd, 1, 0, 0, 0), (.iaload, 1, 0, 0, 0), (.aload_n 0, 1, 0, 0, 0), (.iload 4, 2, 0, 0, 0), (.iconst 3, 1, 3, 0, 0), (.iadd, 1, 0, 0, 0), (.iaload, 1, 0, 0, 0), (.aload_n 0, 1, 0, 0, 0), (.iload 4, 2, 0, 0, 0), (.iconst 4, 1, 4, 0, 0), (.iadd, 1, 0, 0, 0), (.iaload, 1, 0, 0, 0), (.aload_n 0, 1, 0, 0, 0), (.iload 4, 2, 0, 0, 0), (.iconst 5, 1, 5, 0, 0), (.iadd, 1, 0, 0, 0), (.iaload, 1, 0, 0, 0)], some (.invokevirtual 176, 3, 204, 6, 3)),
  (1507, [], some (.if_icmp .eq 55, 3, 0, 0, 0)),
  (1510, [(.iconst 0, 1, 0, 0, 0)], some (.ireturn, 1, 1, 0, 0)),
  (1512, [(.aload_n 1, 1, 0, 0, 0), (.aload_n 0, 1, 0, 0, 0), (.iload 4, 2, 0, 0, 0), (.iconst 1, 1, 1, 0, 0), (.iadd, 1, 0, 0, 0), (.iaload, 1, 0, 0, 0)], some (.invokevirtual 177, 3, 104, 2, 2)),
  (1522, [(.aload_n 2, 1, 0, 0, 0), (.aload_n 0, 1, 0, 0, 0), (.iload 4, 2, 0, 0, 0), (.iconst 1, 1, 1, 0, 0), (.iadd, 1, 0, 0, 0), (.iaload, 1, 0, 0, 0)], some (.invokevirtual 180, 3, 206, 2, 3)),
  (1532, [], some (.if_icmp .eq 30, 3, 0, 0, 0)),
  (1535, [(.iconst 0, 1, 0, 0, 0)], some (.ireturn, 1, 1, 0, 0)),
  (1537, [(.aload_n 1, 1, 0, 0, 0), (.aload_n 0, 1, 0, 0, 0), (.iload 4, 2, 0, 0, 0), (.iconst 1, 1, 1, 0, 0), (.iadd, 1, 0, 0, 0), (.iaload, 1, 0, 0, 0)], none),
  (1547, [(.aload_n 2, 1, 0, 0, 0), (.aload_n 0, 1, 0, 0, 0), (.iload 4, 2, 0, 0, 0), (.iconst 1, 1, 1, 0, 0), (.iadd, 1, 0, 0, 0), (.iaload, 1, 0, 0, 0)], some (.invokevirtual 184, 3, 207, 2, 3)),
  (1557, [], some (.if_icmp .eq 5, 3, 0, 0, 0)),
  (1560, [(.iconst 0, 1, 0, 0, 0)], some (.ireturn, 1, 1, 0, 0)),
  (1562, [(.iinc 4 6, 3, 6, 0, 0)], some (.goto (-1542), 3, 0, 0, 0)),
  (1568, [(.iconst 1, 1, 1, 0, 0)], some (.ireturn, 1, 1, 0, 0))]
def gfT : List (Nat × Nat × Nat × Nat) := [(0, 9, 0, 0), (0, 15, 0, 1), (0, 18, 0, 2), (0, 21, 0, 3), (0, 24, 0, 4), (0, 27, 0, 5), (0, 31, 0, 6), (0, 34, 0, 7), (0, 37, 0, 8), (1, 9, 1, 0), (1, 21, 1, 3), (1, 24, 1, 4), (1, 27, 1, 5), (2, 10, 2, 0), (2, 16, 2, 1), (2, 19, 2, 2), (2, 25, 2, 3), (2, 29, 2, 4), (2, 33, 2, 5), (2, 36, 2, 6), (2, 39, 2, 7), (2, 43, 2, 8), (2, 46, 2, 9), (2, 59, 1, 3), (2, 70, 1, 4), (2, 91, 0, 0), (2, 94, 0, 1), (2, 97, 0, 2), (2, 111, 0, 8), (2, 120, 0, 4), (2, 126, 0, 5), (2, 129, 1, 1), (2, 131, 1, 2), (2, 144, 0, 6), (2, 163, 0, 7), (2, 207, 0, 3), (2, 261, 1, 0), (2, 297, 1, 5), (3, 9, 3, 0), (3, 13, 3, 1), (3, 16, 3, 2), (3, 19, 3, 3), (3, 22, 3, 8), (3, 25, 3, 10), (3, 28, 3, 11), (3, 31, 3, 12), (3, 34, 3, 13), (3, 37, 3, 14), (3, 40, 3, 15), (3, 136, 3, 5), (3, 140, 3, 7), (3, 143, 3, 6), (3, 263, 3, 9), (3, 275, 3, 4), (3, 279, 3, 16)]
def csT : List (Nat × Nat × Nat × Nat) := [(0, 100, 28, 1), (0, 109, 26, 2), (0, 139, 36, 2), (1, 31, 46, 2), (2, 55, 58, 2), (2, 103, 26, 2), (2, 108, 36, 2), (2, 117, 12, 1), (2, 123, 10, 1), (2, 187, 28, 1), (2, 210, 22, 2), (2, 244, 88, 5), (2, 248, 89, 3), (2, 264, 8, 1), (2, 267, 9, 1), (2, 306, 45, 2), (3, 43, 105, 3), (3, 51, 109, 2), (3, 55, 117, 2), (3, 59, 106, 1), (3, 63, 122, 2), (3, 66, 118, 3), (3, 70, 119, 2), (3, 74, 120, 3), (3, 78, 114, 2), (3, 81, 121, 2), (3, 84, 115, 2), (3, 88, 124, 2), (3, 91, 125, 4), (3, 95, 126, 3), (3, 99, 127, 2), (3, 102, 123, 2), (3, 105, 129, 2), (3, 108, 131, 3), (3, 111, 130, 2), (3, 114, 134, 2), (3, 117, 128, 3), (3, 120, 132, 2), (3, 123, 116, 1), (3, 126, 136, 2), (3, 129, 107, 2), (3, 132, 137, 1), (3, 153, 113, 1), (3, 156, 112, 1), (3, 166, 138, 2), (3, 177, 108, 2), (3, 193, 133, 1), (3, 197, 158, 1), (3, 204, 135, 2), (3, 234, 179, 1), (3, 237, 181, 2), (3, 246, 145, 1), (3, 253, 187, 2), (3, 259, 188, 3), (3, 282, 205, 2)]
def cnT : List (Nat × Nat × Nat × Nat) := [(0, 59, 8, 1), (0, 62, 9, 1), (0, 65, 10, 1), (0, 71, 12, 1), (0, 114, 22, 2)]
def cvT : List (Nat × Nat × Nat × Nat) := [(0, 52, 1, 2), (0, 56, 2, 2), (0, 68, 6, 2), (0, 74, 13, 2), (0, 77, 31, 3), (0, 81, 30, 4), (0, 85, 25, 3), (0, 89, 14, 3), (0, 93, 3, 3), (0, 96, 27, 3), (0, 106, 29, 2), (0, 117, 19, 2), (0, 120, 20, 4), (0, 124, 21, 3), (0, 127, 23, 2), (0, 130, 18, 4), (0, 133, 24, 2), (0, 136, 7, 3), (0, 142, 37, 2), (0, 145, 40, 2), (1, 37, 48, 2), (1, 42, 50, 2), (1, 46, 53, 2), (1, 49, 55, 2), (2, 51, 57, 2), (2, 62, 54, 1), (2, 66, 0, 2), (2, 73, 59, 3), (2, 77, 53, 2), (2, 87, 1, 2), (2, 100, 5, 2), (2, 114, 25, 3), (2, 133, 11, 5), (2, 137, 14, 3), (2, 141, 13, 2), (2, 147, 17, 2), (2, 150, 32, 2), (2, 153, 34, 1), (2, 156, 68, 2), (2, 160, 35, 1), (2, 166, 37, 2), (2, 169, 71, 1), (2, 172, 2, 2), (2, 175, 31, 3), (2, 179, 30, 4), (2, 183, 27, 3), (2, 192, 3, 3), (2, 195, 7, 3), (2, 198, 77, 3), (2, 201, 33, 2), (2, 204, 38, 2), (2, 213, 41, 2), (2, 216, 42, 2), (2, 219, 29, 2), (2, 222, 43, 1), (2, 225, 44, 2), (2, 228, 16, 4), (2, 232, 83, 4), (2, 236, 39, 2), (2, 239, 86, 1), (2, 252, 50, 2), (2, 255, 52, 2), (2, 258, 95, 1), (2, 270, 47, 3), (2, 274, 51, 3), (2, 294, 49, 3), (2, 316, 55, 2), (2, 319, 56, 2), (2, 322, 4, 2), (2, 328, 15, 1), (2, 331, 94, 2), (3, 47, 110, 2), (3, 146, 139, 1), (3, 150, 140, 3), (3, 159, 142, 5), (3, 163, 143, 3), (3, 170, 146, 3), (3, 173, 141, 1), (3, 181, 144, 2), (3, 184, 148, 2), (3, 187, 151, 2), (3, 190, 153, 3), (3, 200, 159, 2), (3, 208, 162, 2), (3, 211, 163, 1), (3, 214, 165, 1), (3, 218, 111, 3), (3, 221, 173, 2), (3, 224, 174, 2), (3, 227, 176, 1), (3, 230, 177, 1), (3, 240, 180, 4), (3, 243, 182, 3), (3, 249, 185, 7), (3, 269, 193, 2), (3, 272, 194, 1), (8, 21, 60, 2), (8, 25, 147, 2), (8, 26, 61, 3), (8, 30, 149, 3), (8, 31, 62, 2), (8, 34, 150, 2), (8, 35, 63, 4), (8, 39, 152, 4), (8, 40, 64, 3), (8, 43, 154, 3), (8, 44, 65, 2), (8, 47, 155, 2), (8, 48, 66, 2), (8, 51, 156, 2), (8, 52, 67, 2), (8, 55, 157, 2), (8, 56, 69, 3), (8, 59, 160, 3), (8, 60, 70, 3), (8, 63, 161, 3), (8, 64, 72, 2), (8, 67, 164, 2), (8, 68, 73, 1), (8, 72, 166, 1), (8, 73, 74, 2), (8, 76, 167, 2), (8, 77, 75, 2), (8, 80, 168, 2), (8, 81, 76, 2), (8, 84, 169, 2), (8, 85, 78, 4), (8, 88, 170, 4), (8, 89, 79, 2), (8, 92, 171, 2), (8, 93, 80, 3), (8, 96, 172, 3), (8, 97, 81, 3), (8, 100, 175, 3), (8, 101, 82, 2), (8, 104, 178, 2), (8, 105, 84, 4), (8, 108, 183, 4), (8, 109, 85, 4), (8, 112, 184, 4), (8, 113, 87, 4), (8, 116, 186, 4), (8, 117, 90, 5), (8, 121, 189, 5), (8, 122, 91, 3), (8, 125, 190, 3), (8, 126, 92, 2), (8, 129, 191, 2), (8, 130, 93, 2), (8, 133, 192, 2), (8, 134, 96, 4), (8, 137, 195, 4), (8, 138, 97, 1), (8, 141, 196, 1), (8, 142, 98, 1), (8, 145, 197, 1), (8, 146, 99, 2), (8, 149, 198, 2), (8, 150, 100, 5), (8, 154, 200, 5), (8, 155, 101, 4), (8, 158, 201, 4), (8, 159, 102, 4), (8, 162, 202, 4), (8, 168, 203, 3), (8, 169, 199, 1), (8, 172, 103, 6), (8, 176, 204, 6), (8, 177, 104, 2), (8, 180, 206, 2), (8, 184, 207, 2)]
def ldT : List (Nat × Nat × Nat × Nat) := [(1, 41, 2147483648, 1), (2, 325, 1103515245, 0), (2, 326, 2147483647, 0), (2, 327, 65536, 0), (3, 207, 1000000000, 0), (3, 217, 1000000000, 1), (3, 233, 2147483648, 1), (3, 266, 1103515245, 0), (3, 267, 2147483647, 0), (3, 268, 65536, 0), (5, 265, 1431655765, 0), (5, 266, 858993459, 0), (5, 267, 252645135, 0)]
def llT : List (Nat × Nat × Nat) := [(2, 242, 1000000001), (3, 257, 1000000001)]
def acT : List (Nat × Nat) := [(0, 46), (2, 300)]
def mxT : List (Nat × Nat) := [(2, 81)]
def cnm : Nat → String
  | 0 => RX0
  | 1 => RX2
  | 2 => RX3
  | 3 => RX4
  | 4 => RX1
  | 5 => RJ6
  | 6 => RJ9
  | 7 => RJ7
  | _ => RL
