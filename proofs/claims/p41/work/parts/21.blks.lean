/-! the blocks, one by one (by program) -/
theorem bl_X0_becomes_0 : blk bX0_becomes 0 = some ([(.aload_n 1, 1, 0, 0, 0), (.getfield 9, 3, 0, 0, 0), (.iconst 0, 1, 0, 0, 0), (.aload_n 0, 1, 0, 0, 0), (.getfield 9, 3, 0, 0, 0), (.iconst 0, 1, 0, 0, 0), (.bipush 10, 2, 10, 0, 0), (.invokestatic 46, 3, 0, 0, 0), (.aload_n 1, 1, 0, 0, 0), (.getfield 15, 3, 0, 1, 0), (.iconst 0, 1, 0, 0, 0), (.aload_n 0, 1, 0, 0, 0), (.getfield 15, 3, 0, 1, 0), (.iconst 0, 1, 0, 0, 0), (.bipush 10, 2, 10, 0, 0), (.invokestatic 46, 3, 0, 0, 0), (.aload_n 1, 1, 0, 0, 0), (.getfield 18, 3, 0, 2, 0), (.iconst 0, 1, 0, 0, 0), (.aload_n 0, 1, 0, 0, 0), (.getfield 18, 3, 0, 2, 0), (.iconst 0, 1, 0, 0, 0), (.bipush 10, 2, 10, 0, 0), (.invokestatic 46, 3, 0, 0, 0), (.aload_n 1, 1, 0, 0, 0), (.getfield 21, 3, 0, 3, 0), (.iconst 0, 1, 0, 0, 0), (.aload_n 0, 1, 0, 0, 0), (.getfield 21, 3, 0, 3, 0), (.iconst 0, 1, 0, 0, 0), (.bipush 10, 2, 10, 0, 0), (.invokestatic 46, 3, 0, 0, 0), (.aload_n 1, 1, 0, 0, 0), (.getfield 24, 3, 0, 4, 0), (.iconst 0, 1, 0, 0, 0), (.aload_n 0, 1, 0, 0, 0), (.getfield 24, 3, 0, 4, 0), (.iconst 0, 1, 0, 0, 0), (.bipush 36, 2, 36, 0, 0), (.invokestatic 46, 3, 0, 0, 0), (.aload_n 0, 1, 0, 0, 0), (.aload_n 1, 1, 0, 0, 0), (.getfield 27, 3, 0, 5, 0), (.putfield 27, 3, 0, 5, 0), (.aload_n 0, 1, 0, 0, 0), (.aload_n 1, 1, 0, 0, 0), (.getfield 31, 3, 0, 6, 0), (.putfield 31, 3, 0, 6, 0), (.aload_n 0, 1, 0, 0, 0), (.aload_n 1, 1, 0, 0, 0), (.getfield 34, 3, 0, 7, 0), (.putfield 34, 3, 0, 7, 0), (.aload_n 0, 1, 0, 0, 0), (.aload_n 1, 1, 0, 0, 0), (.getfield 37, 3, 0, 8, 0), (.putfield 37, 3, 0, 8, 0)], some (.return_, 1, 0, 0, 0)) := rfl
theorem bl_X0_has_0 : blk bX0_has 0 = some ([(.iload_n 1, 1, 0, 0, 0)], some (.ifCond .lt 21, 3, 0, 0, 0)) := rfl
theorem bl_X0_has_4 : blk bX0_has 4 = some ([(.iload_n 1, 1, 0, 0, 0), (.aload_n 0, 1, 0, 0, 0), (.getfield 27, 3, 0, 5, 0)], some (.if_icmp .ge 13, 3, 0, 0, 0)) := rfl
theorem bl_X0_has_12 : blk bX0_has 12 = some ([(.iload_n 1, 1, 0, 0, 0), (.bipush 10, 2, 10, 0, 0)], some (.if_icmp .ge 7, 3, 0, 0, 0)) := rfl
theorem bl_X0_has_18 : blk bX0_has 18 = some ([(.iconst 1, 1, 1, 0, 0)], some (.goto 4, 3, 0, 0, 0)) := rfl
theorem bl_X0_has_22 : blk bX0_has 22 = some ([(.iconst 0, 1, 0, 0, 0)], none) := rfl
theorem bl_X0_has_23 : blk bX0_has 23 = some ([], some (.ireturn, 1, 1, 0, 0)) := rfl
theorem bl_X0_isThere_0 : blk bX0_isThere 0 = some ([(.aload_n 0, 1, 0, 0, 0), (.iload_n 1, 1, 0, 0, 0)], some (.invokevirtual 52, 3, 1, 2, 0)) := rfl
theorem bl_X0_isThere_5 : blk bX0_isThere 5 = some ([], some (.ifCond .eq 18, 3, 0, 0, 0)) := rfl
theorem bl_X0_isThere_8 : blk bX0_isThere 8 = some ([(.aload_n 0, 1, 0, 0, 0), (.getfield 21, 3, 0, 3, 0), (.iload_n 1, 1, 0, 0, 0), (.iaload, 1, 0, 0, 0), (.bipush 36, 2, 36, 0, 0)], some (.if_icmp .eq 7, 3, 0, 0, 0)) := rfl
theorem bl_X0_isThere_19 : blk bX0_isThere 19 = some ([(.iconst 1, 1, 1, 0, 0)], some (.goto 4, 3, 0, 0, 0)) := rfl
theorem bl_X0_isThere_23 : blk bX0_isThere 23 = some ([(.iconst 0, 1, 0, 0, 0)], none) := rfl
theorem bl_X0_isThere_24 : blk bX0_isThere 24 = some ([], some (.ireturn, 1, 1, 0, 0)) := rfl
theorem bl_X0_isThereOf_0 : blk bX0_isThereOf 0 = some ([(.iload_n 1, 1, 0, 0, 0)], some (.ifCond .lt 42, 3, 0, 0, 0)) := rfl
theorem bl_X0_isThereOf_4 : blk bX0_isThereOf 4 = some ([(.iload_n 1, 1, 0, 0, 0), (.aload_n 0, 1, 0, 0, 0), (.getfield 27, 3, 0, 5, 0)], some (.if_icmp .ge 34, 3, 0, 0, 0)) := rfl
theorem bl_X0_isThereOf_12 : blk bX0_isThereOf 12 = some ([(.iload_n 1, 1, 0, 0, 0), (.bipush 10, 2, 10, 0, 0)], some (.if_icmp .ge 28, 3, 0, 0, 0)) := rfl
theorem bl_X0_isThereOf_18 : blk bX0_isThereOf 18 = some ([(.aload_n 0, 1, 0, 0, 0), (.getfield 18, 3, 0, 2, 0), (.iload_n 1, 1, 0, 0, 0), (.iaload, 1, 0, 0, 0), (.iload_n 2, 1, 0, 0, 0)], some (.if_icmp .ne 18, 3, 0, 0, 0)) := rfl
theorem bl_X0_isThereOf_28 : blk bX0_isThereOf 28 = some ([(.aload_n 0, 1, 0, 0, 0), (.getfield 21, 3, 0, 3, 0), (.iload_n 1, 1, 0, 0, 0), (.iaload, 1, 0, 0, 0), (.bipush 36, 2, 36, 0, 0)], some (.if_icmp .eq 7, 3, 0, 0, 0)) := rfl
theorem bl_X0_isThereOf_39 : blk bX0_isThereOf 39 = some ([(.iconst 1, 1, 1, 0, 0)], some (.goto 4, 3, 0, 0, 0)) := rfl
theorem bl_X0_isThereOf_43 : blk bX0_isThereOf 43 = some ([(.iconst 0, 1, 0, 0, 0)], none) := rfl
theorem bl_X0_isThereOf_44 : blk bX0_isThereOf 44 = some ([], some (.ireturn, 1, 1, 0, 0)) := rfl
theorem bl_X0_squareOrNone_0 : blk bX0_squareOrNone 0 = some ([(.aload_n 0, 1, 0, 0, 0), (.iload_n 1, 1, 0, 0, 0)], some (.invokevirtual 56, 3, 2, 2, 0)) := rfl
theorem bl_X0_squareOrNone_5 : blk bX0_squareOrNone 5 = some ([], some (.ifCond .eq 12, 3, 0, 0, 0)) := rfl
theorem bl_X0_squareOrNone_8 : blk bX0_squareOrNone 8 = some ([(.aload_n 0, 1, 0, 0, 0), (.getfield 21, 3, 0, 3, 0), (.iload_n 1, 1, 0, 0, 0), (.iaload, 1, 0, 0, 0)], some (.goto 5, 3, 0, 0, 0)) := rfl
theorem bl_X0_squareOrNone_17 : blk bX0_squareOrNone 17 = some ([(.bipush (-4), 2, 4, 1, 0)], none) := rfl
theorem bl_X0_squareOrNone_19 : blk bX0_squareOrNone 19 = some ([], some (.ireturn, 1, 0, 0, 0)) := rfl
theorem bl_X0_isFree_0 : blk bX0_isFree 0 = some ([(.iload_n 1, 1, 0, 0, 0)], some (.ifCond .lt 24, 3, 0, 0, 0)) := rfl
theorem bl_X0_isFree_4 : blk bX0_isFree 4 = some ([(.iload_n 1, 1, 0, 0, 0), (.bipush 36, 2, 36, 0, 0)], some (.if_icmp .ge 18, 3, 0, 0, 0)) := rfl
theorem bl_X0_isFree_10 : blk bX0_isFree 10 = some ([(.aload_n 0, 1, 0, 0, 0), (.getfield 24, 3, 0, 4, 0), (.iload_n 1, 1, 0, 0, 0), (.iaload, 1, 0, 0, 0), (.bipush (-4), 2, 4, 1, 0)], some (.if_icmp .ne 7, 3, 0, 0, 0)) := rfl
theorem bl_X0_isFree_21 : blk bX0_isFree 21 = some ([(.iconst 1, 1, 1, 0, 0)], some (.goto 4, 3, 0, 0, 0)) := rfl
theorem bl_X0_isFree_25 : blk bX0_isFree 25 = some ([(.iconst 0, 1, 0, 0, 0)], none) := rfl
theorem bl_X0_isFree_26 : blk bX0_isFree 26 = some ([], some (.ireturn, 1, 1, 0, 0)) := rfl
theorem bl_X0_isHeldBy_0 : blk bX0_isHeldBy 0 = some ([(.iload_n 1, 1, 0, 0, 0)], some (.ifCond .lt 18, 3, 0, 0, 0)) := rfl
theorem bl_X0_isHeldBy_4 : blk bX0_isHeldBy 4 = some ([(.iload_n 1, 1, 0, 0, 0), (.bipush 36, 2, 36, 0, 0)], some (.if_icmp .ge 12, 3, 0, 0, 0)) := rfl
theorem bl_X0_isHeldBy_10 : blk bX0_isHeldBy 10 = some ([(.aload_n 0, 1, 0, 0, 0), (.getfield 24, 3, 0, 4, 0), (.iload_n 1, 1, 0, 0, 0), (.iaload, 1, 0, 0, 0)], some (.goto 5, 3, 0, 0, 0)) := rfl
theorem bl_X0_isHeldBy_19 : blk bX0_isHeldBy 19 = some ([(.bipush (-4), 2, 4, 1, 0)], none) := rfl
theorem bl_X0_isHeldBy_21 : blk bX0_isHeldBy 21 = some ([(.istore_n 3, 1, 0, 0, 0), (.iload_n 3, 1, 0, 0, 0)], some (.ifCond .lt 31, 3, 0, 0, 0)) := rfl
theorem bl_X0_isHeldBy_26 : blk bX0_isHeldBy 26 = some ([(.iload_n 3, 1, 0, 0, 0), (.aload_n 0, 1, 0, 0, 0), (.getfield 27, 3, 0, 5, 0)], some (.if_icmp .ge 23, 3, 0, 0, 0)) := rfl
theorem bl_X0_isHeldBy_34 : blk bX0_isHeldBy 34 = some ([(.iload_n 3, 1, 0, 0, 0), (.bipush 10, 2, 10, 0, 0)], some (.if_icmp .ge 17, 3, 0, 0, 0)) := rfl
theorem bl_X0_isHeldBy_40 : blk bX0_isHeldBy 40 = some ([(.aload_n 0, 1, 0, 0, 0), (.getfield 18, 3, 0, 2, 0), (.iload_n 3, 1, 0, 0, 0), (.iaload, 1, 0, 0, 0), (.iload_n 2, 1, 0, 0, 0)], some (.if_icmp .ne 7, 3, 0, 0, 0)) := rfl
theorem bl_X0_isHeldBy_50 : blk bX0_isHeldBy 50 = some ([(.iconst 1, 1, 1, 0, 0)], some (.goto 4, 3, 0, 0, 0)) := rfl
theorem bl_X0_isHeldBy_54 : blk bX0_isHeldBy 54 = some ([(.iconst 0, 1, 0, 0, 0)], none) := rfl
theorem bl_X0_isHeldBy_55 : blk bX0_isHeldBy 55 = some ([], some (.ireturn, 1, 1, 0, 0)) := rfl
theorem bl_X3_isKind_0 : blk bX3_isKind 0 = some ([(.iload_n 0, 1, 0, 0, 0)], some (.ifCond .lt 13, 3, 0, 0, 0)) := rfl
theorem bl_X3_isKind_4 : blk bX3_isKind 4 = some ([(.iload_n 0, 1, 0, 0, 0), (.bipush 8, 2, 8, 0, 0)], some (.if_icmp .ge 7, 3, 0, 0, 0)) := rfl
theorem bl_X3_isKind_10 : blk bX3_isKind 10 = some ([(.iconst 1, 1, 1, 0, 0)], some (.goto 4, 3, 0, 0, 0)) := rfl
theorem bl_X3_isKind_14 : blk bX3_isKind 14 = some ([(.iconst 0, 1, 0, 0, 0)], none) := rfl
theorem bl_X3_isKind_15 : blk bX3_isKind 15 = some ([], some (.ireturn, 1, 1, 0, 0)) := rfl
theorem bl_X3_isFigure_0 : blk bX3_isFigure 0 = some ([(.iload_n 0, 1, 0, 0, 0)], some (.ifCond .lt 13, 3, 0, 0, 0)) := rfl
theorem bl_X3_isFigure_4 : blk bX3_isFigure 4 = some ([(.iload_n 0, 1, 0, 0, 0), (.bipush 10, 2, 10, 0, 0)], some (.if_icmp .ge 7, 3, 0, 0, 0)) := rfl
theorem bl_X3_isFigure_10 : blk bX3_isFigure 10 = some ([(.iconst 1, 1, 1, 0, 0)], some (.goto 4, 3, 0, 0, 0)) := rfl
theorem bl_X3_isFigure_14 : blk bX3_isFigure 14 = some ([(.iconst 0, 1, 0, 0, 0)], none) := rfl
theorem bl_X3_isFigure_15 : blk bX3_isFigure 15 = some ([], some (.ireturn, 1, 1, 0, 0)) := rfl
theorem bl_X3_isSide_0 : blk bX3_isSide 0 = some ([(.iload_n 0, 1, 0, 0, 0)], some (.ifCond .eq 8, 3, 0, 0, 0)) := rfl
theorem bl_X3_isSide_4 : blk bX3_isSide 4 = some ([(.iload_n 0, 1, 0, 0, 0), (.iconst 1, 1, 1, 0, 0)], some (.if_icmp .ne 7, 3, 0, 0, 0)) := rfl
theorem bl_X3_isSide_9 : blk bX3_isSide 9 = some ([(.iconst 1, 1, 1, 0, 0)], some (.goto 4, 3, 0, 0, 0)) := rfl
theorem bl_X3_isSide_13 : blk bX3_isSide 13 = some ([(.iconst 0, 1, 0, 0, 0)], none) := rfl
theorem bl_X3_isSide_14 : blk bX3_isSide 14 = some ([], some (.ireturn, 1, 1, 0, 0)) := rfl
theorem bl_X0_addPiece_0 : blk bX0_addPiece 0 = some ([(.aload_n 0, 1, 0, 0, 0), (.getfield 27, 3, 0, 5, 0)], some (.ifCond .lt 42, 3, 0, 0, 0)) := rfl
theorem bl_X0_addPiece_7 : blk bX0_addPiece 7 = some ([(.aload_n 0, 1, 0, 0, 0), (.getfield 27, 3, 0, 5, 0), (.bipush 10, 2, 10, 0, 0)], some (.if_icmp .ge 33, 3, 0, 0, 0)) := rfl
theorem bl_X0_addPiece_16 : blk bX0_addPiece 16 = some ([(.iload_n 1, 1, 0, 0, 0)], some (.invokestatic 59, 3, 7, 1, 0)) := rfl
theorem bl_X0_addPiece_20 : blk bX0_addPiece 20 = some ([], some (.ifCond .eq 26, 3, 0, 0, 0)) := rfl
theorem bl_X0_addPiece_23 : blk bX0_addPiece 23 = some ([(.iload_n 2, 1, 0, 0, 0)], some (.invokestatic 62, 3, 8, 1, 0)) := rfl
theorem bl_X0_addPiece_27 : blk bX0_addPiece 27 = some ([], some (.ifCond .eq 19, 3, 0, 0, 0)) := rfl
theorem bl_X0_addPiece_30 : blk bX0_addPiece 30 = some ([(.iload_n 3, 1, 0, 0, 0)], some (.invokestatic 65, 3, 9, 1, 0)) := rfl
theorem bl_X0_addPiece_34 : blk bX0_addPiece 34 = some ([], some (.ifCond .eq 12, 3, 0, 0, 0)) := rfl
theorem bl_X0_addPiece_37 : blk bX0_addPiece 37 = some ([(.aload_n 0, 1, 0, 0, 0), (.iload 4, 2, 0, 0, 0)], some (.invokevirtual 68, 3, 5, 2, 0)) := rfl
theorem bl_X0_addPiece_43 : blk bX0_addPiece 43 = some ([], some (.ifCond .ne 5, 3, 0, 0, 0)) := rfl
theorem bl_X0_addPiece_46 : blk bX0_addPiece 46 = some ([(.iconst 0, 1, 0, 0, 0)], some (.ireturn, 1, 1, 0, 0)) := rfl
theorem bl_X0_addPiece_48 : blk bX0_addPiece 48 = some ([(.aload_n 0, 1, 0, 0, 0), (.getfield 9, 3, 0, 0, 0), (.aload_n 0, 1, 0, 0, 0), (.getfield 27, 3, 0, 5, 0), (.iload_n 1, 1, 0, 0, 0), (.iastore, 1, 0, 0, 0), (.aload_n 0, 1, 0, 0, 0), (.getfield 15, 3, 0, 1, 0), (.aload_n 0, 1, 0, 0, 0), (.getfield 27, 3, 0, 5, 0), (.iload_n 2, 1, 0, 0, 0), (.iastore, 1, 0, 0, 0), (.aload_n 0, 1, 0, 0, 0), (.getfield 18, 3, 0, 2, 0), (.aload_n 0, 1, 0, 0, 0), (.getfield 27, 3, 0, 5, 0), (.iload_n 3, 1, 0, 0, 0), (.iastore, 1, 0, 0, 0), (.aload_n 0, 1, 0, 0, 0), (.getfield 21, 3, 0, 3, 0), (.aload_n 0, 1, 0, 0, 0), (.getfield 27, 3, 0, 5, 0), (.iload 4, 2, 0, 0, 0), (.iastore, 1, 0, 0, 0), (.aload_n 0, 1, 0, 0, 0), (.getfield 24, 3, 0, 4, 0), (.iload 4, 2, 0, 0, 0), (.aload_n 0, 1, 0, 0, 0), (.getfield 27, 3, 0, 5, 0), (.iastore, 1, 0, 0, 0), (.aload_n 0, 1, 0, 0, 0), (.dup, 1, 0, 0, 0), (.getfield 27, 3, 0, 5, 0), (.iconst 1, 1, 1, 0, 0), (.iadd, 1, 0, 0, 0), (.putfield 27, 3, 0, 5, 0), (.iconst 1, 1, 1, 0, 0)], some (.ireturn, 1, 1, 0, 0)) := rfl
theorem bl_X3_isSquare_0 : blk bX3_isSquare 0 = some ([(.iload_n 0, 1, 0, 0, 0)], some (.ifCond .lt 13, 3, 0, 0, 0)) := rfl
theorem bl_X3_isSquare_4 : blk bX3_isSquare 4 = some ([(.iload_n 0, 1, 0, 0, 0), (.bipush 36, 2, 36, 0, 0)], some (.if_icmp .ge 7, 3, 0, 0, 0)) := rfl
theorem bl_X3_isSquare_10 : blk bX3_isSquare 10 = some ([(.iconst 1, 1, 1, 0, 0)], some (.goto 4, 3, 0, 0, 0)) := rfl
theorem bl_X3_isSquare_14 : blk bX3_isSquare 14 = some ([(.iconst 0, 1, 0, 0, 0)], none) := rfl
theorem bl_X3_isSquare_15 : blk bX3_isSquare 15 = some ([], some (.ireturn, 1, 1, 0, 0)) := rfl
theorem bl_X0_takeOff_0 : blk bX0_takeOff 0 = some ([(.aload_n 0, 1, 0, 0, 0), (.iload_n 1, 1, 0, 0, 0)], some (.invokevirtual 52, 3, 1, 2, 0)) := rfl
theorem bl_X0_takeOff_5 : blk bX0_takeOff 5 = some ([], some (.ifCond .eq 15, 3, 0, 0, 0)) := rfl
theorem bl_X0_takeOff_8 : blk bX0_takeOff 8 = some ([(.aload_n 0, 1, 0, 0, 0), (.getfield 21, 3, 0, 3, 0), (.iload_n 1, 1, 0, 0, 0), (.iaload, 1, 0, 0, 0)], some (.invokestatic 71, 3, 11, 1, 0)) := rfl
theorem bl_X0_takeOff_17 : blk bX0_takeOff 17 = some ([], some (.ifCond .ne 5, 3, 0, 0, 0)) := rfl
theorem bl_X0_takeOff_20 : blk bX0_takeOff 20 = some ([(.iconst 0, 1, 0, 0, 0)], some (.ireturn, 1, 1, 0, 0)) := rfl
theorem bl_X0_takeOff_22 : blk bX0_takeOff 22 = some ([(.aload_n 0, 1, 0, 0, 0), (.getfield 24, 3, 0, 4, 0), (.aload_n 0, 1, 0, 0, 0), (.getfield 21, 3, 0, 3, 0), (.iload_n 1, 1, 0, 0, 0), (.iaload, 1, 0, 0, 0), (.bipush (-4), 2, 4, 1, 0), (.iastore, 1, 0, 0, 0), (.aload_n 0, 1, 0, 0, 0), (.getfield 21, 3, 0, 3, 0), (.iload_n 1, 1, 0, 0, 0), (.bipush 36, 2, 36, 0, 0), (.iastore, 1, 0, 0, 0), (.iconst 1, 1, 1, 0, 0)], some (.ireturn, 1, 1, 0, 0)) := rfl
theorem bl_X0_movePiece_0 : blk bX0_movePiece 0 = some ([(.aload_n 0, 1, 0, 0, 0), (.iload_n 1, 1, 0, 0, 0)], some (.invokevirtual 52, 3, 1, 2, 0)) := rfl
theorem bl_X0_movePiece_5 : blk bX0_movePiece 5 = some ([], some (.ifCond .eq 31, 3, 0, 0, 0)) := rfl
theorem bl_X0_movePiece_8 : blk bX0_movePiece 8 = some ([(.iload_n 2, 1, 0, 0, 0)], some (.invokestatic 71, 3, 11, 1, 0)) := rfl
theorem bl_X0_movePiece_12 : blk bX0_movePiece 12 = some ([], some (.ifCond .eq 24, 3, 0, 0, 0)) := rfl
theorem bl_X0_movePiece_15 : blk bX0_movePiece 15 = some ([(.aload_n 0, 1, 0, 0, 0), (.getfield 24, 3, 0, 4, 0), (.iload_n 2, 1, 0, 0, 0), (.iaload, 1, 0, 0, 0), (.bipush (-4), 2, 4, 1, 0)], some (.if_icmp .eq 15, 3, 0, 0, 0)) := rfl
theorem bl_X0_movePiece_26 : blk bX0_movePiece 26 = some ([(.aload_n 0, 1, 0, 0, 0), (.getfield 24, 3, 0, 4, 0), (.iload_n 2, 1, 0, 0, 0), (.iaload, 1, 0, 0, 0), (.iload_n 1, 1, 0, 0, 0)], some (.if_icmp .eq 5, 3, 0, 0, 0)) := rfl
theorem bl_X0_movePiece_36 : blk bX0_movePiece 36 = some ([(.iconst 0, 1, 0, 0, 0)], some (.ireturn, 1, 1, 0, 0)) := rfl
theorem bl_X0_movePiece_38 : blk bX0_movePiece 38 = some ([(.aload_n 0, 1, 0, 0, 0), (.iload_n 1, 1, 0, 0, 0)], some (.invokevirtual 74, 3, 12, 2, 0)) := rfl
theorem bl_X0_movePiece_43 : blk bX0_movePiece 43 = some ([(.pop, 1, 0, 0, 0), (.aload_n 0, 1, 0, 0, 0), (.getfield 21, 3, 0, 3, 0), (.iload_n 1, 1, 0, 0, 0), (.iload_n 2, 1, 0, 0, 0), (.iastore, 1, 0, 0, 0), (.aload_n 0, 1, 0, 0, 0), (.getfield 24, 3, 0, 4, 0), (.iload_n 2, 1, 0, 0, 0), (.iload_n 1, 1, 0, 0, 0), (.iastore, 1, 0, 0, 0), (.iconst 1, 1, 1, 0, 0)], some (.ireturn, 1, 1, 0, 0)) := rfl
theorem bl_X0_turnInto_0 : blk bX0_turnInto 0 = some ([(.aload_n 0, 1, 0, 0, 0), (.iload_n 1, 1, 0, 0, 0)], some (.invokevirtual 52, 3, 1, 2, 0)) := rfl
theorem bl_X0_turnInto_5 : blk bX0_turnInto 5 = some ([], some (.ifCond .eq 17, 3, 0, 0, 0)) := rfl
theorem bl_X0_turnInto_8 : blk bX0_turnInto 8 = some ([(.iload_n 2, 1, 0, 0, 0)], some (.invokestatic 59, 3, 7, 1, 0)) := rfl
theorem bl_X0_turnInto_12 : blk bX0_turnInto 12 = some ([], some (.ifCond .eq 10, 3, 0, 0, 0)) := rfl
theorem bl_X0_turnInto_15 : blk bX0_turnInto 15 = some ([(.iload_n 3, 1, 0, 0, 0)], some (.invokestatic 62, 3, 8, 1, 0)) := rfl
theorem bl_X0_turnInto_19 : blk bX0_turnInto 19 = some ([], some (.ifCond .ne 5, 3, 0, 0, 0)) := rfl
theorem bl_X0_turnInto_22 : blk bX0_turnInto 22 = some ([(.iconst 0, 1, 0, 0, 0)], some (.ireturn, 1, 1, 0, 0)) := rfl
theorem bl_X0_turnInto_24 : blk bX0_turnInto 24 = some ([(.aload_n 0, 1, 0, 0, 0), (.getfield 9, 3, 0, 0, 0), (.iload_n 1, 1, 0, 0, 0), (.iload_n 2, 1, 0, 0, 0), (.iastore, 1, 0, 0, 0), (.aload_n 0, 1, 0, 0, 0), (.getfield 15, 3, 0, 1, 0), (.iload_n 1, 1, 0, 0, 0), (.iload_n 3, 1, 0, 0, 0), (.iastore, 1, 0, 0, 0), (.iconst 1, 1, 1, 0, 0)], some (.ireturn, 1, 1, 0, 0)) := rfl
theorem bl_X0_giveTurn_0 : blk bX0_giveTurn 0 = some ([(.iload_n 1, 1, 0, 0, 0)], some (.invokestatic 65, 3, 9, 1, 0)) := rfl
theorem bl_X0_giveTurn_4 : blk bX0_giveTurn 4 = some ([], some (.ifCond .ne 5, 3, 0, 0, 0)) := rfl
theorem bl_X0_giveTurn_7 : blk bX0_giveTurn 7 = some ([(.iconst 0, 1, 0, 0, 0)], some (.ireturn, 1, 1, 0, 0)) := rfl
theorem bl_X0_giveTurn_9 : blk bX0_giveTurn 9 = some ([(.aload_n 0, 1, 0, 0, 0), (.iload_n 1, 1, 0, 0, 0), (.putfield 31, 3, 0, 6, 0), (.iconst 1, 1, 1, 0, 0)], some (.ireturn, 1, 1, 0, 0)) := rfl
theorem bl_X0_squareFrom_0 : blk bX0_squareFrom 0 = some ([(.aload_n 0, 1, 0, 0, 0), (.getfield 21, 3, 0, 3, 0), (.iload_n 1, 1, 0, 0, 0), (.iaload, 1, 0, 0, 0), (.bipush 6, 2, 6, 0, 0), (.idiv, 1, 0, 0, 0), (.aload_n 0, 1, 0, 0, 0), (.getfield 18, 3, 0, 2, 0), (.iload_n 1, 1, 0, 0, 0), (.iaload, 1, 0, 0, 0)], some (.ifCond .ne 7, 3, 0, 0, 0)) := rfl
theorem bl_X0_squareFrom_18 : blk bX0_squareFrom 18 = some ([(.iload_n 2, 1, 0, 0, 0)], some (.goto 5, 3, 0, 0, 0)) := rfl
theorem bl_X0_squareFrom_22 : blk bX0_squareFrom 22 = some ([(.iload_n 2, 1, 0, 0, 0), (.ineg, 1, 0, 0, 0)], none) := rfl
theorem bl_X0_squareFrom_24 : blk bX0_squareFrom 24 = some ([(.iadd, 1, 0, 0, 0), (.istore 4, 2, 0, 0, 0), (.aload_n 0, 1, 0, 0, 0), (.getfield 21, 3, 0, 3, 0), (.iload_n 1, 1, 0, 0, 0), (.iaload, 1, 0, 0, 0), (.bipush 6, 2, 6, 0, 0), (.irem, 1, 0, 0, 0), (.iload_n 3, 1, 0, 0, 0), (.iadd, 1, 0, 0, 0), (.istore 5, 2, 0, 0, 0), (.iload 4, 2, 0, 0, 0)], some (.ifCond .lt 26, 3, 0, 0, 0)) := rfl
theorem bl_X0_squareFrom_45 : blk bX0_squareFrom 45 = some ([(.iload 4, 2, 0, 0, 0), (.bipush 6, 2, 6, 0, 0)], some (.if_icmp .ge 19, 3, 0, 0, 0)) := rfl
theorem bl_X0_squareFrom_52 : blk bX0_squareFrom 52 = some ([(.iload 5, 2, 0, 0, 0)], some (.ifCond .lt 14, 3, 0, 0, 0)) := rfl
theorem bl_X0_squareFrom_57 : blk bX0_squareFrom 57 = some ([(.iload 5, 2, 0, 0, 0), (.bipush 6, 2, 6, 0, 0)], some (.if_icmp .ge 7, 3, 0, 0, 0)) := rfl
theorem bl_X0_squareFrom_64 : blk bX0_squareFrom 64 = some ([(.iconst 1, 1, 1, 0, 0)], some (.goto 4, 3, 0, 0, 0)) := rfl
theorem bl_X0_squareFrom_68 : blk bX0_squareFrom 68 = some ([(.iconst 0, 1, 0, 0, 0)], none) := rfl
theorem bl_X0_squareFrom_69 : blk bX0_squareFrom 69 = some ([(.istore 6, 2, 0, 0, 0), (.iload 6, 2, 0, 0, 0)], some (.ifCond .eq 14, 3, 0, 0, 0)) := rfl
theorem bl_X0_squareFrom_76 : blk bX0_squareFrom 76 = some ([(.iload 4, 2, 0, 0, 0), (.bipush 6, 2, 6, 0, 0), (.imul, 1, 0, 0, 0), (.iload 5, 2, 0, 0, 0), (.iadd, 1, 0, 0, 0)], some (.goto 5, 3, 0, 0, 0)) := rfl
theorem bl_X0_squareFrom_87 : blk bX0_squareFrom 87 = some ([(.bipush (-4), 2, 4, 1, 0)], none) := rfl
theorem bl_X0_squareFrom_89 : blk bX0_squareFrom 89 = some ([], some (.ireturn, 1, 0, 0, 0)) := rfl
theorem bl_X0_knightIdea_0 : blk bX0_knightIdea 0 = some ([(.aload_n 0, 1, 0, 0, 0), (.iload_n 1, 1, 0, 0, 0), (.iconst 2, 1, 2, 0, 0), (.iconst 1, 1, 1, 0, 0)], some (.invokevirtual 130, 3, 16, 4, 0)) := rfl
theorem bl_X0_knightIdea_7 : blk bX0_knightIdea 7 = some ([(.istore_n 2, 1, 0, 0, 0), (.iload_n 2, 1, 0, 0, 0), (.bipush (-4), 2, 4, 1, 0)], some (.if_icmp .eq 19, 3, 0, 0, 0)) := rfl
theorem bl_X0_knightIdea_14 : blk bX0_knightIdea 14 = some ([(.aload_n 0, 1, 0, 0, 0), (.iload_n 2, 1, 0, 0, 0), (.aload_n 0, 1, 0, 0, 0), (.getfield 18, 3, 0, 2, 0), (.iload_n 1, 1, 0, 0, 0), (.iaload, 1, 0, 0, 0)], some (.invokevirtual 136, 3, 6, 3, 0)) := rfl
theorem bl_X0_knightIdea_25 : blk bX0_knightIdea 25 = some ([], some (.ifCond .ne 5, 3, 0, 0, 0)) := rfl
theorem bl_X0_knightIdea_28 : blk bX0_knightIdea 28 = some ([(.iload_n 2, 1, 0, 0, 0)], some (.ireturn, 1, 0, 0, 0)) := rfl
theorem bl_X0_knightIdea_30 : blk bX0_knightIdea 30 = some ([(.aload_n 0, 1, 0, 0, 0), (.iload_n 1, 1, 0, 0, 0), (.iconst 2, 1, 2, 0, 0), (.iconst (-1), 1, 1, 1, 0)], some (.invokevirtual 130, 3, 16, 4, 0)) := rfl
theorem bl_X0_knightIdea_37 : blk bX0_knightIdea 37 = some ([(.istore_n 3, 1, 0, 0, 0), (.iload_n 3, 1, 0, 0, 0), (.bipush (-4), 2, 4, 1, 0)], some (.if_icmp .eq 21, 3, 0, 0, 0)) := rfl
theorem bl_X0_knightIdea_44 : blk bX0_knightIdea 44 = some ([(.aload_n 0, 1, 0, 0, 0), (.iload_n 3, 1, 0, 0, 0), (.aload_n 0, 1, 0, 0, 0), (.getfield 18, 3, 0, 2, 0), (.iload_n 1, 1, 0, 0, 0), (.iaload, 1, 0, 0, 0)], some (.invokevirtual 136, 3, 6, 3, 0)) := rfl
theorem bl_X0_knightIdea_55 : blk bX0_knightIdea 55 = some ([], some (.ifCond .ne 7, 3, 0, 0, 0)) := rfl
theorem bl_X0_knightIdea_58 : blk bX0_knightIdea 58 = some ([(.iload_n 3, 1, 0, 0, 0)], some (.goto 5, 3, 0, 0, 0)) := rfl
theorem bl_X0_knightIdea_62 : blk bX0_knightIdea 62 = some ([(.bipush (-4), 2, 4, 1, 0)], none) := rfl
theorem bl_X0_knightIdea_64 : blk bX0_knightIdea 64 = some ([], some (.ireturn, 1, 0, 0, 0)) := rfl
theorem bl_X0_slideIdea_0 : blk bX0_slideIdea 0 = some ([(.bipush (-4), 2, 4, 1, 0), (.istore 4, 2, 0, 0, 0), (.iconst 1, 1, 1, 0, 0), (.istore 5, 2, 0, 0, 0)], none) := rfl
theorem bl_X0_slideIdea_7 : blk bX0_slideIdea 7 = some ([(.iload 5, 2, 0, 0, 0), (.bipush 6, 2, 6, 0, 0)], some (.if_icmp .ge 60, 3, 0, 0, 0)) := rfl
theorem bl_X0_slideIdea_14 : blk bX0_slideIdea 14 = some ([(.aload_n 0, 1, 0, 0, 0), (.iload_n 1, 1, 0, 0, 0), (.iload 5, 2, 0, 0, 0), (.iload_n 2, 1, 0, 0, 0), (.imul, 1, 0, 0, 0), (.iload 5, 2, 0, 0, 0), (.iload_n 3, 1, 0, 0, 0), (.imul, 1, 0, 0, 0)], some (.invokevirtual 130, 3, 16, 4, 0)) := rfl
theorem bl_X0_slideIdea_27 : blk bX0_slideIdea 27 = some ([(.istore 6, 2, 0, 0, 0), (.aload_n 0, 1, 0, 0, 0), (.iload 6, 2, 0, 0, 0), (.iconst 1, 1, 1, 0, 0), (.aload_n 0, 1, 0, 0, 0), (.getfield 18, 3, 0, 2, 0), (.iload_n 1, 1, 0, 0, 0), (.iaload, 1, 0, 0, 0), (.isub, 1, 0, 0, 0)], some (.invokevirtual 136, 3, 6, 3, 0)) := rfl
theorem bl_X0_slideIdea_43 : blk bX0_slideIdea 43 = some ([], some (.ifCond .eq 6, 3, 0, 0, 0)) := rfl
theorem bl_X0_slideIdea_46 : blk bX0_slideIdea 46 = some ([(.iload 6, 2, 0, 0, 0)], some (.ireturn, 1, 0, 0, 0)) := rfl
theorem bl_X0_slideIdea_49 : blk bX0_slideIdea 49 = some ([(.aload_n 0, 1, 0, 0, 0), (.iload 6, 2, 0, 0, 0)], some (.invokevirtual 68, 3, 5, 2, 0)) := rfl
theorem bl_X0_slideIdea_55 : blk bX0_slideIdea 55 = some ([], some (.ifCond .ne 6, 3, 0, 0, 0)) := rfl
theorem bl_X0_slideIdea_58 : blk bX0_slideIdea 58 = some ([(.iload 4, 2, 0, 0, 0)], some (.ireturn, 1, 0, 0, 0)) := rfl
theorem bl_X0_slideIdea_61 : blk bX0_slideIdea 61 = some ([(.iload 6, 2, 0, 0, 0), (.istore 4, 2, 0, 0, 0), (.iinc 5 1, 3, 1, 0, 0)], some (.goto (-61), 3, 0, 0, 0)) := rfl
theorem bl_X0_slideIdea_71 : blk bX0_slideIdea 71 = some ([(.iload 4, 2, 0, 0, 0)], some (.ireturn, 1, 0, 0, 0)) := rfl
theorem bl_X0_bishopIdea_0 : blk bX0_bishopIdea 0 = some ([(.aload_n 0, 1, 0, 0, 0), (.iload_n 1, 1, 0, 0, 0), (.iconst 1, 1, 1, 0, 0), (.iconst 1, 1, 1, 0, 0)], some (.invokevirtual 130, 3, 16, 4, 0)) := rfl
theorem bl_X0_bishopIdea_7 : blk bX0_bishopIdea 7 = some ([(.istore_n 3, 1, 0, 0, 0), (.aload_n 0, 1, 0, 0, 0), (.getfield 15, 3, 0, 1, 0), (.iload_n 1, 1, 0, 0, 0), (.iaload, 1, 0, 0, 0), (.iconst 2, 1, 2, 0, 0), (.iadd, 1, 0, 0, 0), (.istore 4, 2, 0, 0, 0), (.iload 4, 2, 0, 0, 0)], some (.ifCond .le 14, 3, 0, 0, 0)) := rfl
theorem bl_X0_bishopIdea_23 : blk bX0_bishopIdea 23 = some ([(.iload_n 2, 1, 0, 0, 0), (.iload 4, 2, 0, 0, 0), (.irem, 1, 0, 0, 0)], some (.ifCond .ne 7, 3, 0, 0, 0)) := rfl
theorem bl_X0_bishopIdea_30 : blk bX0_bishopIdea 30 = some ([(.iconst 1, 1, 1, 0, 0)], some (.goto 4, 3, 0, 0, 0)) := rfl
theorem bl_X0_bishopIdea_34 : blk bX0_bishopIdea 34 = some ([(.iconst 0, 1, 0, 0, 0)], none) := rfl
theorem bl_X0_bishopIdea_35 : blk bX0_bishopIdea 35 = some ([(.istore 5, 2, 0, 0, 0), (.iload 5, 2, 0, 0, 0)], some (.ifCond .eq 27, 3, 0, 0, 0)) := rfl
theorem bl_X0_bishopIdea_42 : blk bX0_bishopIdea 42 = some ([(.iload_n 3, 1, 0, 0, 0), (.bipush (-4), 2, 4, 1, 0)], some (.if_icmp .eq 21, 3, 0, 0, 0)) := rfl
theorem bl_X0_bishopIdea_48 : blk bX0_bishopIdea 48 = some ([(.aload_n 0, 1, 0, 0, 0), (.iload_n 3, 1, 0, 0, 0), (.aload_n 0, 1, 0, 0, 0), (.getfield 18, 3, 0, 2, 0), (.iload_n 1, 1, 0, 0, 0), (.iaload, 1, 0, 0, 0)], some (.invokevirtual 136, 3, 6, 3, 0)) := rfl
theorem bl_X0_bishopIdea_59 : blk bX0_bishopIdea 59 = some ([], some (.ifCond .ne 7, 3, 0, 0, 0)) := rfl
theorem bl_X0_bishopIdea_62 : blk bX0_bishopIdea 62 = some ([(.iload_n 3, 1, 0, 0, 0)], some (.goto 5, 3, 0, 0, 0)) := rfl
theorem bl_X0_bishopIdea_66 : blk bX0_bishopIdea 66 = some ([(.bipush (-4), 2, 4, 1, 0)], none) := rfl
theorem bl_X0_bishopIdea_68 : blk bX0_bishopIdea 68 = some ([], some (.ireturn, 1, 0, 0, 0)) := rfl
theorem bl_X3_far_0 : blk bX3_far 0 = some ([(.iload_n 0, 1, 0, 0, 0), (.bipush 6, 2, 6, 0, 0), (.idiv, 1, 0, 0, 0), (.iload_n 1, 1, 0, 0, 0), (.bipush 6, 2, 6, 0, 0), (.idiv, 1, 0, 0, 0), (.isub, 1, 0, 0, 0), (.istore_n 2, 1, 0, 0, 0), (.iload_n 0, 1, 0, 0, 0), (.bipush 6, 2, 6, 0, 0), (.irem, 1, 0, 0, 0), (.iload_n 1, 1, 0, 0, 0), (.bipush 6, 2, 6, 0, 0), (.irem, 1, 0, 0, 0), (.isub, 1, 0, 0, 0), (.istore_n 3, 1, 0, 0, 0), (.iload_n 2, 1, 0, 0, 0)], some (.ifCond .ge 8, 3, 0, 0, 0)) := rfl
theorem bl_X3_far_24 : blk bX3_far 24 = some ([(.iload_n 2, 1, 0, 0, 0), (.ineg, 1, 0, 0, 0)], some (.goto 4, 3, 0, 0, 0)) := rfl
theorem bl_X3_far_29 : blk bX3_far 29 = some ([(.iload_n 2, 1, 0, 0, 0)], none) := rfl
theorem bl_X3_far_30 : blk bX3_far 30 = some ([(.istore_n 2, 1, 0, 0, 0), (.iload_n 3, 1, 0, 0, 0)], some (.ifCond .ge 8, 3, 0, 0, 0)) := rfl
theorem bl_X3_far_35 : blk bX3_far 35 = some ([(.iload_n 3, 1, 0, 0, 0), (.ineg, 1, 0, 0, 0)], some (.goto 4, 3, 0, 0, 0)) := rfl
theorem bl_X3_far_40 : blk bX3_far 40 = some ([(.iload_n 3, 1, 0, 0, 0)], none) := rfl
theorem bl_X3_far_41 : blk bX3_far 41 = some ([(.istore_n 3, 1, 0, 0, 0), (.iload_n 2, 1, 0, 0, 0), (.iload_n 3, 1, 0, 0, 0)], some (.if_icmp .le 7, 3, 0, 0, 0)) := rfl
theorem bl_X3_far_47 : blk bX3_far 47 = some ([(.iload_n 2, 1, 0, 0, 0)], some (.goto 4, 3, 0, 0, 0)) := rfl
theorem bl_X3_far_51 : blk bX3_far 51 = some ([(.iload_n 3, 1, 0, 0, 0)], none) := rfl
theorem bl_X3_far_52 : blk bX3_far 52 = some ([], some (.ireturn, 1, 0, 0, 0)) := rfl
theorem bl_X0_kingIdea_0 : blk bX0_kingIdea 0 = some ([(.aload_n 0, 1, 0, 0, 0), (.iload_n 1, 1, 0, 0, 0), (.iconst (-1), 1, 1, 1, 0), (.iconst 0, 1, 0, 0, 0)], some (.invokevirtual 130, 3, 16, 4, 0)) := rfl
theorem bl_X0_kingIdea_7 : blk bX0_kingIdea 7 = some ([(.istore_n 2, 1, 0, 0, 0), (.aload_n 0, 1, 0, 0, 0), (.iload_n 2, 1, 0, 0, 0)], some (.invokevirtual 68, 3, 5, 2, 0)) := rfl
theorem bl_X0_kingIdea_13 : blk bX0_kingIdea 13 = some ([], some (.ifCond .ne 6, 3, 0, 0, 0)) := rfl
theorem bl_X0_kingIdea_16 : blk bX0_kingIdea 16 = some ([(.bipush (-4), 2, 4, 1, 0)], some (.ireturn, 1, 0, 0, 0)) := rfl
theorem bl_X0_kingIdea_19 : blk bX0_kingIdea 19 = some ([(.iconst 0, 1, 0, 0, 0), (.istore_n 3, 1, 0, 0, 0)], none) := rfl
theorem bl_X0_kingIdea_21 : blk bX0_kingIdea 21 = some ([(.iload_n 3, 1, 0, 0, 0), (.aload_n 0, 1, 0, 0, 0), (.getfield 27, 3, 0, 5, 0)], some (.if_icmp .ge 46, 3, 0, 0, 0)) := rfl
theorem bl_X0_kingIdea_29 : blk bX0_kingIdea 29 = some ([(.aload_n 0, 1, 0, 0, 0), (.iload_n 3, 1, 0, 0, 0), (.iconst 1, 1, 1, 0, 0), (.aload_n 0, 1, 0, 0, 0), (.getfield 18, 3, 0, 2, 0), (.iload_n 1, 1, 0, 0, 0), (.iaload, 1, 0, 0, 0), (.isub, 1, 0, 0, 0)], some (.invokevirtual 93, 3, 3, 3, 0)) := rfl
theorem bl_X0_kingIdea_42 : blk bX0_kingIdea 42 = some ([], some (.ifCond .eq 24, 3, 0, 0, 0)) := rfl
theorem bl_X0_kingIdea_45 : blk bX0_kingIdea 45 = some ([(.aload_n 0, 1, 0, 0, 0), (.getfield 21, 3, 0, 3, 0), (.iload_n 3, 1, 0, 0, 0), (.iaload, 1, 0, 0, 0), (.aload_n 0, 1, 0, 0, 0), (.getfield 21, 3, 0, 3, 0), (.iload_n 1, 1, 0, 0, 0), (.iaload, 1, 0, 0, 0)], some (.invokestatic 114, 3, 20, 2, 0)) := rfl
theorem bl_X0_kingIdea_60 : blk bX0_kingIdea 60 = some ([(.iconst 1, 1, 1, 0, 0)], some (.if_icmp .gt 5, 3, 0, 0, 0)) := rfl
theorem bl_X0_kingIdea_64 : blk bX0_kingIdea 64 = some ([(.iload_n 2, 1, 0, 0, 0)], some (.ireturn, 1, 0, 0, 0)) := rfl
theorem bl_X0_kingIdea_66 : blk bX0_kingIdea 66 = some ([(.iinc 3 1, 3, 1, 0, 0)], some (.goto (-48), 3, 0, 0, 0)) := rfl
theorem bl_X0_kingIdea_72 : blk bX0_kingIdea 72 = some ([(.bipush (-4), 2, 4, 1, 0)], some (.ireturn, 1, 0, 0, 0)) := rfl
theorem bl_X0_pawnIdea_0 : blk bX0_pawnIdea 0 = some ([(.aload_n 0, 1, 0, 0, 0), (.iload_n 1, 1, 0, 0, 0), (.iconst 1, 1, 1, 0, 0), (.iconst 0, 1, 0, 0, 0)], some (.invokevirtual 130, 3, 16, 4, 0)) := rfl
theorem bl_X0_pawnIdea_7 : blk bX0_pawnIdea 7 = some ([(.istore_n 2, 1, 0, 0, 0), (.aload_n 0, 1, 0, 0, 0), (.iload_n 2, 1, 0, 0, 0)], some (.invokevirtual 68, 3, 5, 2, 0)) := rfl
theorem bl_X0_pawnIdea_13 : blk bX0_pawnIdea 13 = some ([], some (.ifCond .eq 5, 3, 0, 0, 0)) := rfl
theorem bl_X0_pawnIdea_16 : blk bX0_pawnIdea 16 = some ([(.iload_n 2, 1, 0, 0, 0)], some (.ireturn, 1, 0, 0, 0)) := rfl
theorem bl_X0_pawnIdea_18 : blk bX0_pawnIdea 18 = some ([(.aload_n 0, 1, 0, 0, 0), (.iload_n 1, 1, 0, 0, 0), (.iconst 1, 1, 1, 0, 0), (.iconst 1, 1, 1, 0, 0)], some (.invokevirtual 130, 3, 16, 4, 0)) := rfl
theorem bl_X0_pawnIdea_25 : blk bX0_pawnIdea 25 = some ([(.istore_n 3, 1, 0, 0, 0), (.aload_n 0, 1, 0, 0, 0), (.iload_n 3, 1, 0, 0, 0), (.iconst 1, 1, 1, 0, 0), (.aload_n 0, 1, 0, 0, 0), (.getfield 18, 3, 0, 2, 0), (.iload_n 1, 1, 0, 0, 0), (.iaload, 1, 0, 0, 0), (.isub, 1, 0, 0, 0)], some (.invokevirtual 136, 3, 6, 3, 0)) := rfl
theorem bl_X0_pawnIdea_39 : blk bX0_pawnIdea 39 = some ([], some (.ifCond .eq 7, 3, 0, 0, 0)) := rfl
theorem bl_X0_pawnIdea_42 : blk bX0_pawnIdea 42 = some ([(.iload_n 3, 1, 0, 0, 0)], some (.goto 5, 3, 0, 0, 0)) := rfl
theorem bl_X0_pawnIdea_46 : blk bX0_pawnIdea 46 = some ([(.bipush (-4), 2, 4, 1, 0)], none) := rfl
theorem bl_X0_pawnIdea_48 : blk bX0_pawnIdea 48 = some ([], some (.ireturn, 1, 0, 0, 0)) := rfl
theorem bl_X0_ideaOf_0 : blk bX0_ideaOf 0 = some ([(.aload_n 0, 1, 0, 0, 0), (.iload_n 1, 1, 0, 0, 0)], some (.invokevirtual 56, 3, 2, 2, 0)) := rfl
theorem bl_X0_ideaOf_5 : blk bX0_ideaOf 5 = some ([], some (.ifCond .ne 6, 3, 0, 0, 0)) := rfl
theorem bl_X0_ideaOf_8 : blk bX0_ideaOf 8 = some ([(.bipush (-4), 2, 4, 1, 0)], some (.ireturn, 1, 0, 0, 0)) := rfl
theorem bl_X0_ideaOf_11 : blk bX0_ideaOf 11 = some ([(.aload_n 0, 1, 0, 0, 0), (.getfield 9, 3, 0, 0, 0), (.iload_n 1, 1, 0, 0, 0), (.iaload, 1, 0, 0, 0)], some (.tableswitch 127 0 7 #[127, 47, 53, 61, 68, 94, 53, 100], 47, 0, 0, 0)) := rfl
theorem bl_X0_ideaOf_64 : blk bX0_ideaOf 64 = some ([(.aload_n 0, 1, 0, 0, 0), (.iload_n 1, 1, 0, 0, 0)], some (.invokevirtual 117, 3, 17, 2, 0)) := rfl
theorem bl_X0_ideaOf_69 : blk bX0_ideaOf 69 = some ([], some (.ireturn, 1, 0, 0, 0)) := rfl
theorem bl_X0_ideaOf_70 : blk bX0_ideaOf 70 = some ([(.aload_n 0, 1, 0, 0, 0), (.iload_n 1, 1, 0, 0, 0), (.iconst 1, 1, 1, 0, 0), (.iconst 0, 1, 0, 0, 0)], some (.invokevirtual 120, 3, 18, 4, 0)) := rfl
theorem bl_X0_ideaOf_77 : blk bX0_ideaOf 77 = some ([], some (.ireturn, 1, 0, 0, 0)) := rfl
theorem bl_X0_ideaOf_78 : blk bX0_ideaOf 78 = some ([(.aload_n 0, 1, 0, 0, 0), (.iload_n 1, 1, 0, 0, 0), (.iload_n 2, 1, 0, 0, 0)], some (.invokevirtual 124, 3, 19, 3, 0)) := rfl
theorem bl_X0_ideaOf_84 : blk bX0_ideaOf 84 = some ([], some (.ireturn, 1, 0, 0, 0)) := rfl
theorem bl_X0_ideaOf_85 : blk bX0_ideaOf 85 = some ([(.aload_n 0, 1, 0, 0, 0), (.iload_n 1, 1, 0, 0, 0), (.iconst 1, 1, 1, 0, 0), (.iconst 0, 1, 0, 0, 0)], some (.invokevirtual 120, 3, 18, 4, 0)) := rfl
theorem bl_X0_ideaOf_92 : blk bX0_ideaOf 92 = some ([(.istore_n 3, 1, 0, 0, 0), (.iload_n 3, 1, 0, 0, 0), (.bipush (-4), 2, 4, 1, 0)], some (.if_icmp .eq 7, 3, 0, 0, 0)) := rfl
theorem bl_X0_ideaOf_99 : blk bX0_ideaOf 99 = some ([(.iload_n 3, 1, 0, 0, 0)], some (.goto 10, 3, 0, 0, 0)) := rfl
theorem bl_X0_ideaOf_103 : blk bX0_ideaOf 103 = some ([(.aload_n 0, 1, 0, 0, 0), (.iload_n 1, 1, 0, 0, 0), (.iconst 0, 1, 0, 0, 0), (.iconst 1, 1, 1, 0, 0)], some (.invokevirtual 120, 3, 18, 4, 0)) := rfl
theorem bl_X0_ideaOf_110 : blk bX0_ideaOf 110 = some ([], some (.ireturn, 1, 0, 0, 0)) := rfl
theorem bl_X0_ideaOf_111 : blk bX0_ideaOf 111 = some ([(.aload_n 0, 1, 0, 0, 0), (.iload_n 1, 1, 0, 0, 0)], some (.invokevirtual 127, 3, 21, 2, 0)) := rfl
theorem bl_X0_ideaOf_116 : blk bX0_ideaOf 116 = some ([], some (.ireturn, 1, 0, 0, 0)) := rfl
theorem bl_X0_ideaOf_117 : blk bX0_ideaOf 117 = some ([(.aload_n 0, 1, 0, 0, 0), (.iload_n 1, 1, 0, 0, 0), (.iconst 0, 1, 0, 0, 0), (.iconst (-1), 1, 1, 1, 0)], some (.invokevirtual 130, 3, 16, 4, 0)) := rfl
theorem bl_X0_ideaOf_124 : blk bX0_ideaOf 124 = some ([(.istore_n 3, 1, 0, 0, 0), (.aload_n 0, 1, 0, 0, 0), (.iload_n 3, 1, 0, 0, 0)], some (.invokevirtual 68, 3, 5, 2, 0)) := rfl
theorem bl_X0_ideaOf_130 : blk bX0_ideaOf 130 = some ([], some (.ifCond .eq 7, 3, 0, 0, 0)) := rfl
theorem bl_X0_ideaOf_133 : blk bX0_ideaOf 133 = some ([(.iload_n 3, 1, 0, 0, 0)], some (.goto 9, 3, 0, 0, 0)) := rfl
theorem bl_X0_ideaOf_137 : blk bX0_ideaOf 137 = some ([(.aload_n 0, 1, 0, 0, 0), (.iload_n 1, 1, 0, 0, 0), (.iload_n 2, 1, 0, 0, 0)], some (.invokevirtual 124, 3, 19, 3, 0)) := rfl
theorem bl_X0_ideaOf_143 : blk bX0_ideaOf 143 = some ([], some (.ireturn, 1, 0, 0, 0)) := rfl
theorem bl_X0_ideaOf_144 : blk bX0_ideaOf 144 = some ([(.aload_n 0, 1, 0, 0, 0), (.iload_n 1, 1, 0, 0, 0)], some (.invokevirtual 133, 3, 22, 2, 0)) := rfl
theorem bl_X0_ideaOf_149 : blk bX0_ideaOf 149 = some ([], some (.ireturn, 1, 0, 0, 0)) := rfl
theorem bl_X1_earsWith_0 : blk bX1_earsWith 0 = some ([(.iload_n 0, 1, 0, 0, 0)], some (.tableswitch 61 0 7 #[61, 47, 49, 51, 53, 57, 59, 51], 47, 0, 0, 0)) := rfl
theorem bl_X1_earsWith_48 : blk bX1_earsWith 48 = some ([(.iconst 3, 1, 3, 0, 0)], some (.ireturn, 1, 0, 0, 0)) := rfl
theorem bl_X1_earsWith_50 : blk bX1_earsWith 50 = some ([(.iload_n 1, 1, 0, 0, 0)], some (.ireturn, 1, 0, 0, 0)) := rfl
theorem bl_X1_earsWith_52 : blk bX1_earsWith 52 = some ([(.iconst 4, 1, 4, 0, 0)], some (.ireturn, 1, 0, 0, 0)) := rfl
theorem bl_X1_earsWith_54 : blk bX1_earsWith 54 = some ([(.iload_n 1, 1, 0, 0, 0), (.iconst 3, 1, 3, 0, 0), (.iadd, 1, 0, 0, 0)], some (.ireturn, 1, 0, 0, 0)) := rfl
theorem bl_X1_earsWith_58 : blk bX1_earsWith 58 = some ([(.iconst 5, 1, 5, 0, 0)], some (.ireturn, 1, 0, 0, 0)) := rfl
theorem bl_X1_earsWith_60 : blk bX1_earsWith 60 = some ([(.iconst 0, 1, 0, 0, 0)], some (.ireturn, 1, 0, 0, 0)) := rfl
theorem bl_X1_earsWith_62 : blk bX1_earsWith 62 = some ([(.iconst 2, 1, 2, 0, 0)], some (.ireturn, 1, 0, 0, 0)) := rfl
theorem bl_X0_hearersOf_0 : blk bX0_hearersOf 0 = some ([(.aload_n 0, 1, 0, 0, 0), (.iload_n 1, 1, 0, 0, 0)], some (.invokevirtual 56, 3, 2, 2, 0)) := rfl
theorem bl_X0_hearersOf_5 : blk bX0_hearersOf 5 = some ([], some (.ifCond .ne 5, 3, 0, 0, 0)) := rfl
theorem bl_X0_hearersOf_8 : blk bX0_hearersOf 8 = some ([(.iconst 0, 1, 0, 0, 0)], some (.ireturn, 1, 0, 0, 0)) := rfl
theorem bl_X0_hearersOf_10 : blk bX0_hearersOf 10 = some ([(.iconst 1, 1, 1, 0, 0), (.iload_n 1, 1, 0, 0, 0), (.ishl, 1, 0, 0, 0), (.istore_n 3, 1, 0, 0, 0), (.iconst 0, 1, 0, 0, 0), (.istore 4, 2, 0, 0, 0)], none) := rfl
theorem bl_X0_hearersOf_17 : blk bX0_hearersOf 17 = some ([(.iload 4, 2, 0, 0, 0), (.aload_n 0, 1, 0, 0, 0), (.getfield 27, 3, 0, 5, 0)], some (.if_icmp .ge 79, 3, 0, 0, 0)) := rfl
theorem bl_X0_hearersOf_26 : blk bX0_hearersOf 26 = some ([(.aload_n 0, 1, 0, 0, 0), (.iload 4, 2, 0, 0, 0), (.aload_n 0, 1, 0, 0, 0), (.getfield 18, 3, 0, 2, 0), (.iload_n 1, 1, 0, 0, 0), (.iaload, 1, 0, 0, 0)], some (.invokevirtual 93, 3, 3, 3, 0)) := rfl
theorem bl_X0_hearersOf_38 : blk bX0_hearersOf 38 = some ([], some (.ifCond .eq 58, 3, 0, 0, 0)) := rfl
theorem bl_X0_hearersOf_41 : blk bX0_hearersOf 41 = some ([(.iload_n 2, 1, 0, 0, 0)], some (.ifCond .eq 7, 3, 0, 0, 0)) := rfl
theorem bl_X0_hearersOf_45 : blk bX0_hearersOf 45 = some ([(.iconst 1, 1, 1, 0, 0)], some (.goto 20, 3, 0, 0, 0)) := rfl
theorem bl_X0_hearersOf_49 : blk bX0_hearersOf 49 = some ([(.aload_n 0, 1, 0, 0, 0), (.getfield 9, 3, 0, 0, 0), (.iload 4, 2, 0, 0, 0), (.iaload, 1, 0, 0, 0), (.aload_n 0, 1, 0, 0, 0), (.getfield 15, 3, 0, 1, 0), (.iload 4, 2, 0, 0, 0), (.iaload, 1, 0, 0, 0)], some (.invokestatic 109, 3, 24, 2, 0)) := rfl
theorem bl_X0_hearersOf_66 : blk bX0_hearersOf 66 = some ([(.istore 5, 2, 0, 0, 0), (.aload_n 0, 1, 0, 0, 0), (.getfield 21, 3, 0, 3, 0), (.iload 4, 2, 0, 0, 0), (.iaload, 1, 0, 0, 0), (.aload_n 0, 1, 0, 0, 0), (.getfield 21, 3, 0, 3, 0), (.iload_n 1, 1, 0, 0, 0), (.iaload, 1, 0, 0, 0)], some (.invokestatic 114, 3, 20, 2, 0)) := rfl
theorem bl_X0_hearersOf_84 : blk bX0_hearersOf 84 = some ([(.iload 5, 2, 0, 0, 0)], some (.if_icmp .gt 10, 3, 0, 0, 0)) := rfl
theorem bl_X0_hearersOf_89 : blk bX0_hearersOf 89 = some ([(.iload_n 3, 1, 0, 0, 0), (.iconst 1, 1, 1, 0, 0), (.iload 4, 2, 0, 0, 0), (.ishl, 1, 0, 0, 0), (.ior, 1, 0, 0, 0), (.istore_n 3, 1, 0, 0, 0)], none) := rfl
theorem bl_X0_hearersOf_96 : blk bX0_hearersOf 96 = some ([(.iinc 4 1, 3, 1, 0, 0)], some (.goto (-82), 3, 0, 0, 0)) := rfl
theorem bl_X0_hearersOf_102 : blk bX0_hearersOf 102 = some ([(.iload_n 3, 1, 0, 0, 0)], some (.ireturn, 1, 0, 0, 0)) := rfl
theorem bl_J6_bitCount_0f7a4_0 : blk bJ6_bitCount_0f7a4 0 = some ([(.iload_n 0, 1, 0, 0, 0), (.iload_n 0, 1, 0, 0, 0), (.iconst 1, 1, 1, 0, 0), (.iushr, 1, 0, 0, 0), (.ldc_w 265, 3, 1431655765, 0, 0), (.iand, 1, 0, 0, 0), (.isub, 1, 0, 0, 0), (.istore_n 0, 1, 0, 0, 0), (.iload_n 0, 1, 0, 0, 0), (.ldc_w 266, 3, 858993459, 0, 0), (.iand, 1, 0, 0, 0), (.iload_n 0, 1, 0, 0, 0), (.iconst 2, 1, 2, 0, 0), (.iushr, 1, 0, 0, 0), (.ldc_w 266, 3, 858993459, 0, 0), (.iand, 1, 0, 0, 0), (.iadd, 1, 0, 0, 0), (.istore_n 0, 1, 0, 0, 0), (.iload_n 0, 1, 0, 0, 0), (.iload_n 0, 1, 0, 0, 0), (.iconst 4, 1, 4, 0, 0), (.iushr, 1, 0, 0, 0), (.iadd, 1, 0, 0, 0), (.ldc_w 267, 3, 252645135, 0, 0), (.iand, 1, 0, 0, 0), (.istore_n 0, 1, 0, 0, 0), (.iload_n 0, 1, 0, 0, 0), (.iload_n 0, 1, 0, 0, 0), (.bipush 8, 2, 8, 0, 0), (.iushr, 1, 0, 0, 0), (.iadd, 1, 0, 0, 0), (.istore_n 0, 1, 0, 0, 0), (.iload_n 0, 1, 0, 0, 0), (.iload_n 0, 1, 0, 0, 0), (.bipush 16, 2, 16, 0, 0), (.iushr, 1, 0, 0, 0), (.iadd, 1, 0, 0, 0), (.istore_n 0, 1, 0, 0, 0), (.iload_n 0, 1, 0, 0, 0), (.bipush 63, 2, 63, 0, 0), (.iand, 1, 0, 0, 0)], some (.ireturn, 1, 0, 0, 0)) := rfl
theorem bl_X0_howManyOf_0 : blk bX0_howManyOf 0 = some ([(.iconst 0, 1, 0, 0, 0), (.istore_n 2, 1, 0, 0, 0), (.iconst 0, 1, 0, 0, 0), (.istore_n 3, 1, 0, 0, 0)], none) := rfl
theorem bl_X0_howManyOf_4 : blk bX0_howManyOf 4 = some ([(.iload_n 3, 1, 0, 0, 0), (.aload_n 0, 1, 0, 0, 0), (.getfield 27, 3, 0, 5, 0)], some (.if_icmp .ge 26, 3, 0, 0, 0)) := rfl
theorem bl_X0_howManyOf_12 : blk bX0_howManyOf 12 = some ([(.iload_n 2, 1, 0, 0, 0), (.aload_n 0, 1, 0, 0, 0), (.iload_n 3, 1, 0, 0, 0), (.iload_n 1, 1, 0, 0, 0)], some (.invokevirtual 93, 3, 3, 3, 0)) := rfl
theorem bl_X0_howManyOf_19 : blk bX0_howManyOf 19 = some ([], some (.ifCond .eq 7, 3, 0, 0, 0)) := rfl
theorem bl_X0_howManyOf_22 : blk bX0_howManyOf 22 = some ([(.iconst 1, 1, 1, 0, 0)], some (.goto 4, 3, 0, 0, 0)) := rfl
theorem bl_X0_howManyOf_26 : blk bX0_howManyOf 26 = some ([(.iconst 0, 1, 0, 0, 0)], none) := rfl
theorem bl_X0_howManyOf_27 : blk bX0_howManyOf 27 = some ([(.iadd, 1, 0, 0, 0), (.istore_n 2, 1, 0, 0, 0), (.iinc 3 1, 3, 1, 0, 0)], some (.goto (-28), 3, 0, 0, 0)) := rfl
theorem bl_X0_howManyOf_35 : blk bX0_howManyOf 35 = some ([(.iload_n 2, 1, 0, 0, 0)], some (.ireturn, 1, 0, 0, 0)) := rfl
theorem bl_X0_goerOn_0 : blk bX0_goerOn 0 = some ([(.bipush (-4), 2, 4, 1, 0), (.istore 4, 2, 0, 0, 0), (.iconst 0, 1, 0, 0, 0), (.istore 5, 2, 0, 0, 0), (.iconst 0, 1, 0, 0, 0), (.istore 6, 2, 0, 0, 0)], none) := rfl
theorem bl_X0_goerOn_10 : blk bX0_goerOn 10 = some ([(.iload 6, 2, 0, 0, 0), (.aload_n 0, 1, 0, 0, 0), (.getfield 27, 3, 0, 5, 0)], some (.if_icmp .ge 82, 3, 0, 0, 0)) := rfl
theorem bl_X0_goerOn_19 : blk bX0_goerOn 19 = some ([(.aload_n 0, 1, 0, 0, 0), (.iload 6, 2, 0, 0, 0), (.aload_n 0, 1, 0, 0, 0), (.getfield 31, 3, 0, 6, 0)], some (.invokevirtual 93, 3, 3, 3, 0)) := rfl
theorem bl_X0_goerOn_29 : blk bX0_goerOn 29 = some ([], some (.ifCond .eq 16, 3, 0, 0, 0)) := rfl
theorem bl_X0_goerOn_32 : blk bX0_goerOn 32 = some ([(.iload_n 2, 1, 0, 0, 0), (.iload 6, 2, 0, 0, 0), (.ishr, 1, 0, 0, 0), (.iconst 1, 1, 1, 0, 0), (.iand, 1, 0, 0, 0)], some (.ifCond .ne 7, 3, 0, 0, 0)) := rfl
theorem bl_X0_goerOn_41 : blk bX0_goerOn 41 = some ([(.iconst 1, 1, 1, 0, 0)], some (.goto 4, 3, 0, 0, 0)) := rfl
theorem bl_X0_goerOn_45 : blk bX0_goerOn 45 = some ([(.iconst 0, 1, 0, 0, 0)], none) := rfl
theorem bl_X0_goerOn_46 : blk bX0_goerOn 46 = some ([(.istore 7, 2, 0, 0, 0), (.iload 7, 2, 0, 0, 0)], some (.ifCond .eq 42, 3, 0, 0, 0)) := rfl
theorem bl_X0_goerOn_53 : blk bX0_goerOn 53 = some ([(.aload_n 0, 1, 0, 0, 0), (.iload 6, 2, 0, 0, 0), (.iload_n 1, 1, 0, 0, 0)], some (.invokevirtual 85, 3, 23, 3, 0)) := rfl
theorem bl_X0_goerOn_60 : blk bX0_goerOn 60 = some ([(.bipush (-4), 2, 4, 1, 0)], some (.if_icmp .eq 30, 3, 0, 0, 0)) := rfl
theorem bl_X0_goerOn_65 : blk bX0_goerOn 65 = some ([(.aload_n 0, 1, 0, 0, 0), (.iload 6, 2, 0, 0, 0), (.iload_n 3, 1, 0, 0, 0)], some (.invokevirtual 96, 3, 25, 3, 0)) := rfl
theorem bl_X0_goerOn_72 : blk bX0_goerOn 72 = some ([], some (.invokestatic 100, 3, 26, 1, 0)) := rfl
theorem bl_X0_goerOn_75 : blk bX0_goerOn 75 = some ([(.istore 8, 2, 0, 0, 0), (.iload 8, 2, 0, 0, 0), (.iload 5, 2, 0, 0, 0)], some (.if_icmp .le 11, 3, 0, 0, 0)) := rfl
theorem bl_X0_goerOn_84 : blk bX0_goerOn 84 = some ([(.iload 6, 2, 0, 0, 0), (.istore 4, 2, 0, 0, 0), (.iload 8, 2, 0, 0, 0), (.istore 5, 2, 0, 0, 0)], none) := rfl
theorem bl_X0_goerOn_92 : blk bX0_goerOn 92 = some ([(.iinc 6 1, 3, 1, 0, 0)], some (.goto (-85), 3, 0, 0, 0)) := rfl
theorem bl_X0_goerOn_98 : blk bX0_goerOn 98 = some ([(.iconst 2, 1, 2, 0, 0), (.iload 5, 2, 0, 0, 0), (.imul, 1, 0, 0, 0), (.aload_n 0, 1, 0, 0, 0), (.aload_n 0, 1, 0, 0, 0), (.getfield 31, 3, 0, 6, 0)], some (.invokevirtual 106, 3, 27, 2, 0)) := rfl
theorem bl_X0_goerOn_110 : blk bX0_goerOn 110 = some ([], some (.if_icmp .le 8, 3, 0, 0, 0)) := rfl
theorem bl_X0_goerOn_113 : blk bX0_goerOn 113 = some ([(.iload 4, 2, 0, 0, 0)], some (.goto 5, 3, 0, 0, 0)) := rfl
theorem bl_X0_goerOn_118 : blk bX0_goerOn 118 = some ([(.bipush (-4), 2, 4, 1, 0)], none) := rfl
theorem bl_X0_goerOn_120 : blk bX0_goerOn 120 = some ([], some (.ireturn, 1, 0, 0, 0)) := rfl
theorem bl_X0_passDay_0 : blk bX0_passDay 0 = some ([(.aload_n 0, 1, 0, 0, 0), (.dup, 1, 0, 0, 0), (.getfield 37, 3, 0, 8, 0), (.iconst 1, 1, 1, 0, 0), (.iadd, 1, 0, 0, 0), (.putfield 37, 3, 0, 8, 0), (.aload_n 0, 1, 0, 0, 0), (.aload_n 0, 1, 0, 0, 0), (.getfield 37, 3, 0, 8, 0), (.iload_n 1, 1, 0, 0, 0), (.iload_n 2, 1, 0, 0, 0)], some (.invokevirtual 81, 3, 28, 4, 0)) := rfl
theorem bl_X0_passDay_20 : blk bX0_passDay 20 = some ([(.istore_n 3, 1, 0, 0, 0), (.iload_n 3, 1, 0, 0, 0), (.bipush (-4), 2, 4, 1, 0)], some (.if_icmp .ne 32, 3, 0, 0, 0)) := rfl
theorem bl_X0_passDay_27 : blk bX0_passDay 27 = some ([(.aload_n 0, 1, 0, 0, 0), (.aload_n 0, 1, 0, 0, 0), (.getfield 34, 3, 0, 7, 0), (.sipush 9999, 3, 9999, 0, 0)], some (.if_icmp .ge 12, 3, 0, 0, 0)) := rfl
theorem bl_X0_passDay_38 : blk bX0_passDay 38 = some ([(.aload_n 0, 1, 0, 0, 0), (.getfield 34, 3, 0, 7, 0), (.iconst 1, 1, 1, 0, 0), (.iadd, 1, 0, 0, 0)], some (.goto 6, 3, 0, 0, 0)) := rfl
theorem bl_X0_passDay_47 : blk bX0_passDay 47 = some ([(.sipush 9999, 3, 9999, 0, 0)], none) := rfl
theorem bl_X0_passDay_50 : blk bX0_passDay 50 = some ([(.putfield 34, 3, 0, 7, 0)], some (.goto 42, 3, 0, 0, 0)) := rfl
theorem bl_X0_passDay_56 : blk bX0_passDay 56 = some ([(.aload_n 0, 1, 0, 0, 0), (.iload_n 3, 1, 0, 0, 0), (.aload_n 0, 1, 0, 0, 0), (.getfield 37, 3, 0, 8, 0)], some (.invokevirtual 85, 3, 23, 3, 0)) := rfl
theorem bl_X0_passDay_65 : blk bX0_passDay 65 = some ([(.istore 4, 2, 0, 0, 0), (.iload 4, 2, 0, 0, 0)], some (.invokestatic 71, 3, 11, 1, 0)) := rfl
theorem bl_X0_passDay_72 : blk bX0_passDay 72 = some ([], some (.ifCond .eq 15, 3, 0, 0, 0)) := rfl
theorem bl_X0_passDay_75 : blk bX0_passDay 75 = some ([(.aload_n 0, 1, 0, 0, 0), (.aload_n 0, 1, 0, 0, 0), (.getfield 24, 3, 0, 4, 0), (.iload 4, 2, 0, 0, 0), (.iaload, 1, 0, 0, 0)], some (.invokevirtual 74, 3, 12, 2, 0)) := rfl
theorem bl_X0_passDay_86 : blk bX0_passDay 86 = some ([(.pop, 1, 0, 0, 0)], none) := rfl
theorem bl_X0_passDay_87 : blk bX0_passDay 87 = some ([(.aload_n 0, 1, 0, 0, 0), (.iload_n 3, 1, 0, 0, 0), (.iload 4, 2, 0, 0, 0)], some (.invokevirtual 89, 3, 13, 3, 0)) := rfl
theorem bl_X0_passDay_94 : blk bX0_passDay 94 = some ([(.pop, 1, 0, 0, 0)], none) := rfl
theorem bl_X0_passDay_95 : blk bX0_passDay 95 = some ([(.aload_n 0, 1, 0, 0, 0), (.iconst 1, 1, 1, 0, 0), (.aload_n 0, 1, 0, 0, 0), (.getfield 31, 3, 0, 6, 0), (.isub, 1, 0, 0, 0), (.putfield 31, 3, 0, 6, 0), (.iload_n 3, 1, 0, 0, 0), (.bipush (-4), 2, 4, 1, 0)], some (.if_icmp .eq 7, 3, 0, 0, 0)) := rfl
theorem bl_X0_passDay_111 : blk bX0_passDay 111 = some ([(.iconst 1, 1, 1, 0, 0)], some (.goto 4, 3, 0, 0, 0)) := rfl
theorem bl_X0_passDay_115 : blk bX0_passDay 115 = some ([(.iconst 0, 1, 0, 0, 0)], none) := rfl
theorem bl_X0_passDay_116 : blk bX0_passDay 116 = some ([], some (.ireturn, 1, 1, 0, 0)) := rfl
theorem bl_X0_passWithinLast_0 : blk bX0_passWithinLast 0 = some ([(.iload_n 1, 1, 0, 0, 0), (.iconst 1, 1, 1, 0, 0)], some (.if_icmp .lt 21, 3, 0, 0, 0)) := rfl
theorem bl_X0_passWithinLast_5 : blk bX0_passWithinLast 5 = some ([(.iload_n 1, 1, 0, 0, 0), (.bipush 60, 2, 60, 0, 0)], some (.if_icmp .gt 15, 3, 0, 0, 0)) := rfl
theorem bl_X0_passWithinLast_11 : blk bX0_passWithinLast 11 = some ([(.aload_n 0, 1, 0, 0, 0), (.getfield 37, 3, 0, 8, 0), (.iload_n 1, 1, 0, 0, 0), (.iadd, 1, 0, 0, 0), (.sipush 999, 3, 999, 0, 0)], some (.if_icmp .le 5, 3, 0, 0, 0)) := rfl
theorem bl_X0_passWithinLast_23 : blk bX0_passWithinLast 23 = some ([(.iconst 0, 1, 0, 0, 0)], some (.ireturn, 1, 1, 0, 0)) := rfl
theorem bl_X0_passWithinLast_25 : blk bX0_passWithinLast 25 = some ([(.iconst 0, 1, 0, 0, 0), (.istore_n 2, 1, 0, 0, 0)], none) := rfl
theorem bl_X0_passWithinLast_27 : blk bX0_passWithinLast 27 = some ([(.iload_n 2, 1, 0, 0, 0), (.iload_n 1, 1, 0, 0, 0)], some (.if_icmp .ge 16, 3, 0, 0, 0)) := rfl
theorem bl_X0_passWithinLast_32 : blk bX0_passWithinLast 32 = some ([(.aload_n 0, 1, 0, 0, 0), (.iconst 0, 1, 0, 0, 0), (.iconst 0, 1, 0, 0, 0)], some (.invokevirtual 77, 3, 29, 3, 0)) := rfl
theorem bl_X0_passWithinLast_38 : blk bX0_passWithinLast 38 = some ([(.pop, 1, 0, 0, 0), (.iinc 2 1, 3, 1, 0, 0)], some (.goto (-15), 3, 0, 0, 0)) := rfl
theorem bl_X0_passWithinLast_45 : blk bX0_passWithinLast 45 = some ([(.iconst 1, 1, 1, 0, 0)], some (.ireturn, 1, 1, 0, 0)) := rfl
theorem bl_X0_passDays_0 : blk bX0_passDays 0 = some ([(.iconst 0, 1, 0, 0, 0), (.istore_n 2, 1, 0, 0, 0)], none) := rfl
theorem bl_X0_passDays_2 : blk bX0_passDays 2 = some ([(.iload_n 2, 1, 0, 0, 0), (.iload_n 1, 1, 0, 0, 0)], some (.if_icmp .ge 16, 3, 0, 0, 0)) := rfl
theorem bl_X0_passDays_7 : blk bX0_passDays 7 = some ([(.aload_n 0, 1, 0, 0, 0), (.iconst 0, 1, 0, 0, 0), (.iconst 0, 1, 0, 0, 0)], some (.invokevirtual 77, 3, 29, 3, 0)) := rfl
theorem bl_X0_passDays_13 : blk bX0_passDays 13 = some ([(.pop, 1, 0, 0, 0), (.iinc 2 1, 3, 1, 0, 0)], some (.goto (-15), 3, 0, 0, 0)) := rfl
theorem bl_X0_passDays_20 : blk bX0_passDays 20 = some ([], some (.return_, 1, 0, 0, 0)) := rfl
theorem bl_X0_howManyThere_0 : blk bX0_howManyThere 0 = some ([(.aload_n 0, 1, 0, 0, 0), (.iconst 0, 1, 0, 0, 0)], some (.invokevirtual 106, 3, 27, 2, 0)) := rfl
theorem bl_X0_howManyThere_5 : blk bX0_howManyThere 5 = some ([(.aload_n 0, 1, 0, 0, 0), (.iconst 1, 1, 1, 0, 0)], some (.invokevirtual 106, 3, 27, 2, 0)) := rfl
theorem bl_X0_howManyThere_10 : blk bX0_howManyThere 10 = some ([(.iadd, 1, 0, 0, 0)], some (.ireturn, 1, 0, 0, 0)) := rfl
theorem bl_X0_bitsThere_0 : blk bX0_bitsThere 0 = some ([(.iconst 0, 1, 0, 0, 0), (.istore_n 1, 1, 0, 0, 0), (.iconst 0, 1, 0, 0, 0), (.istore_n 2, 1, 0, 0, 0)], none) := rfl
theorem bl_X0_bitsThere_4 : blk bX0_bitsThere 4 = some ([(.iload_n 2, 1, 0, 0, 0), (.aload_n 0, 1, 0, 0, 0), (.getfield 27, 3, 0, 5, 0)], some (.if_icmp .ge 27, 3, 0, 0, 0)) := rfl
theorem bl_X0_bitsThere_12 : blk bX0_bitsThere 12 = some ([(.iload_n 1, 1, 0, 0, 0), (.aload_n 0, 1, 0, 0, 0), (.iload_n 2, 1, 0, 0, 0)], some (.invokevirtual 56, 3, 2, 2, 0)) := rfl
theorem bl_X0_bitsThere_18 : blk bX0_bitsThere 18 = some ([], some (.ifCond .eq 9, 3, 0, 0, 0)) := rfl
theorem bl_X0_bitsThere_21 : blk bX0_bitsThere 21 = some ([(.iconst 1, 1, 1, 0, 0), (.iload_n 2, 1, 0, 0, 0), (.ishl, 1, 0, 0, 0)], some (.goto 4, 3, 0, 0, 0)) := rfl
theorem bl_X0_bitsThere_27 : blk bX0_bitsThere 27 = some ([(.iconst 0, 1, 0, 0, 0)], none) := rfl
theorem bl_X0_bitsThere_28 : blk bX0_bitsThere 28 = some ([(.ior, 1, 0, 0, 0), (.istore_n 1, 1, 0, 0, 0), (.iinc 2 1, 3, 1, 0, 0)], some (.goto (-29), 3, 0, 0, 0)) := rfl
theorem bl_X0_bitsThere_36 : blk bX0_bitsThere 36 = some ([(.iload_n 1, 1, 0, 0, 0)], some (.ireturn, 1, 0, 0, 0)) := rfl
theorem bl_X1_worthWith_0 : blk bX1_worthWith 0 = some ([(.iload_n 0, 1, 0, 0, 0)], some (.tableswitch 65 0 7 #[65, 47, 49, 51, 57, 60, 63, 51], 47, 0, 0, 0)) := rfl
theorem bl_X1_worthWith_48 : blk bX1_worthWith 48 = some ([(.iconst 3, 1, 3, 0, 0)], some (.ireturn, 1, 0, 0, 0)) := rfl
theorem bl_X1_worthWith_50 : blk bX1_worthWith 50 = some ([(.iconst 5, 1, 5, 0, 0)], some (.ireturn, 1, 0, 0, 0)) := rfl
theorem bl_X1_worthWith_52 : blk bX1_worthWith 52 = some ([(.iconst 1, 1, 1, 0, 0), (.iload_n 1, 1, 0, 0, 0), (.iconst 3, 1, 3, 0, 0), (.idiv, 1, 0, 0, 0), (.iadd, 1, 0, 0, 0)], some (.ireturn, 1, 0, 0, 0)) := rfl
theorem bl_X1_worthWith_58 : blk bX1_worthWith 58 = some ([(.bipush 9, 2, 9, 0, 0)], some (.ireturn, 1, 0, 0, 0)) := rfl
theorem bl_X1_worthWith_61 : blk bX1_worthWith 61 = some ([(.bipush 9, 2, 9, 0, 0)], some (.ireturn, 1, 0, 0, 0)) := rfl
theorem bl_X1_worthWith_64 : blk bX1_worthWith 64 = some ([(.iconst 4, 1, 4, 0, 0)], some (.ireturn, 1, 0, 0, 0)) := rfl
theorem bl_X1_worthWith_66 : blk bX1_worthWith 66 = some ([(.iconst 1, 1, 1, 0, 0)], some (.ireturn, 1, 0, 0, 0)) := rfl
theorem bl_X0_worthOf_0 : blk bX0_worthOf 0 = some ([(.iconst 0, 1, 0, 0, 0), (.istore_n 2, 1, 0, 0, 0), (.iconst 0, 1, 0, 0, 0), (.istore_n 3, 1, 0, 0, 0)], none) := rfl
theorem bl_X0_worthOf_4 : blk bX0_worthOf 4 = some ([(.iload_n 3, 1, 0, 0, 0), (.aload_n 0, 1, 0, 0, 0), (.getfield 27, 3, 0, 5, 0)], some (.if_icmp .ge 40, 3, 0, 0, 0)) := rfl
theorem bl_X0_worthOf_12 : blk bX0_worthOf 12 = some ([(.iload_n 2, 1, 0, 0, 0), (.aload_n 0, 1, 0, 0, 0), (.iload_n 3, 1, 0, 0, 0), (.iload_n 1, 1, 0, 0, 0)], some (.invokevirtual 93, 3, 3, 3, 0)) := rfl
theorem bl_X0_worthOf_19 : blk bX0_worthOf 19 = some ([], some (.ifCond .eq 21, 3, 0, 0, 0)) := rfl
theorem bl_X0_worthOf_22 : blk bX0_worthOf 22 = some ([(.aload_n 0, 1, 0, 0, 0), (.getfield 9, 3, 0, 0, 0), (.iload_n 3, 1, 0, 0, 0), (.iaload, 1, 0, 0, 0), (.aload_n 0, 1, 0, 0, 0), (.getfield 15, 3, 0, 1, 0), (.iload_n 3, 1, 0, 0, 0), (.iaload, 1, 0, 0, 0)], some (.invokestatic 139, 3, 34, 2, 0)) := rfl
theorem bl_X0_worthOf_37 : blk bX0_worthOf 37 = some ([], some (.goto 4, 3, 0, 0, 0)) := rfl
theorem bl_X0_worthOf_40 : blk bX0_worthOf 40 = some ([(.iconst 0, 1, 0, 0, 0)], none) := rfl
theorem bl_X0_worthOf_41 : blk bX0_worthOf 41 = some ([(.iadd, 1, 0, 0, 0), (.istore_n 2, 1, 0, 0, 0), (.iinc 3 1, 3, 1, 0, 0)], some (.goto (-42), 3, 0, 0, 0)) := rfl
theorem bl_X0_worthOf_49 : blk bX0_worthOf 49 = some ([(.iload_n 2, 1, 0, 0, 0)], some (.ireturn, 1, 0, 0, 0)) := rfl
theorem bl_X0_worthWithout_0 : blk bX0_worthWithout 0 = some ([(.aload_n 0, 1, 0, 0, 0), (.iload_n 1, 1, 0, 0, 0)], some (.invokevirtual 52, 3, 1, 2, 0)) := rfl
theorem bl_X0_worthWithout_5 : blk bX0_worthWithout 5 = some ([], some (.ifCond .ne 5, 3, 0, 0, 0)) := rfl
theorem bl_X0_worthWithout_8 : blk bX0_worthWithout 8 = some ([(.iconst 0, 1, 0, 0, 0)], some (.ireturn, 1, 0, 0, 0)) := rfl
theorem bl_X0_worthWithout_10 : blk bX0_worthWithout 10 = some ([(.aload_n 0, 1, 0, 0, 0), (.aload_n 0, 1, 0, 0, 0), (.getfield 18, 3, 0, 2, 0), (.iload_n 1, 1, 0, 0, 0), (.iaload, 1, 0, 0, 0)], some (.invokevirtual 142, 3, 35, 2, 0)) := rfl
theorem bl_X0_worthWithout_20 : blk bX0_worthWithout 20 = some ([(.aload_n 0, 1, 0, 0, 0), (.iload_n 1, 1, 0, 0, 0)], some (.invokevirtual 56, 3, 2, 2, 0)) := rfl
theorem bl_X0_worthWithout_25 : blk bX0_worthWithout 25 = some ([], some (.ifCond .eq 21, 3, 0, 0, 0)) := rfl
theorem bl_X0_worthWithout_28 : blk bX0_worthWithout 28 = some ([(.aload_n 0, 1, 0, 0, 0), (.getfield 9, 3, 0, 0, 0), (.iload_n 1, 1, 0, 0, 0), (.iaload, 1, 0, 0, 0), (.aload_n 0, 1, 0, 0, 0), (.getfield 15, 3, 0, 1, 0), (.iload_n 1, 1, 0, 0, 0), (.iaload, 1, 0, 0, 0)], some (.invokestatic 139, 3, 34, 2, 0)) := rfl
theorem bl_X0_worthWithout_43 : blk bX0_worthWithout 43 = some ([], some (.goto 4, 3, 0, 0, 0)) := rfl
theorem bl_X0_worthWithout_46 : blk bX0_worthWithout 46 = some ([(.iconst 0, 1, 0, 0, 0)], none) := rfl
theorem bl_X0_worthWithout_47 : blk bX0_worthWithout 47 = some ([(.isub, 1, 0, 0, 0)], some (.ireturn, 1, 0, 0, 0)) := rfl
theorem bl_X0_groupAround_0 : blk bX0_groupAround 0 = some ([(.iconst 1, 1, 1, 0, 0), (.iload_n 1, 1, 0, 0, 0), (.ishl, 1, 0, 0, 0), (.istore_n 2, 1, 0, 0, 0), (.iconst 1, 1, 1, 0, 0), (.istore_n 3, 1, 0, 0, 0)], none) := rfl
theorem bl_X0_groupAround_6 : blk bX0_groupAround 6 = some ([(.iload_n 3, 1, 0, 0, 0), (.aload_n 0, 1, 0, 0, 0), (.getfield 27, 3, 0, 5, 0)], some (.if_icmp .ge 86, 3, 0, 0, 0)) := rfl
theorem bl_X0_groupAround_14 : blk bX0_groupAround 14 = some ([(.iconst 0, 1, 0, 0, 0), (.istore 4, 2, 0, 0, 0)], none) := rfl
theorem bl_X0_groupAround_17 : blk bX0_groupAround 17 = some ([(.iload 4, 2, 0, 0, 0), (.aload_n 0, 1, 0, 0, 0), (.getfield 27, 3, 0, 5, 0)], some (.if_icmp .ge 68, 3, 0, 0, 0)) := rfl
theorem bl_X0_groupAround_26 : blk bX0_groupAround 26 = some ([(.aload_n 0, 1, 0, 0, 0), (.iload 4, 2, 0, 0, 0), (.aload_n 0, 1, 0, 0, 0), (.getfield 18, 3, 0, 2, 0), (.iload_n 1, 1, 0, 0, 0), (.iaload, 1, 0, 0, 0)], some (.invokevirtual 93, 3, 3, 3, 0)) := rfl
theorem bl_X0_groupAround_38 : blk bX0_groupAround 38 = some ([], some (.ifCond .eq 13, 3, 0, 0, 0)) := rfl
theorem bl_X0_groupAround_41 : blk bX0_groupAround 41 = some ([(.aload_n 0, 1, 0, 0, 0), (.iload 4, 2, 0, 0, 0), (.iconst 0, 1, 0, 0, 0)], some (.invokevirtual 96, 3, 25, 3, 0)) := rfl
theorem bl_X0_groupAround_48 : blk bX0_groupAround 48 = some ([], some (.goto 4, 3, 0, 0, 0)) := rfl
theorem bl_X0_groupAround_51 : blk bX0_groupAround 51 = some ([(.iconst 0, 1, 0, 0, 0)], none) := rfl
theorem bl_X0_groupAround_52 : blk bX0_groupAround 52 = some ([(.istore 5, 2, 0, 0, 0), (.iload_n 2, 1, 0, 0, 0), (.iload 4, 2, 0, 0, 0), (.ishr, 1, 0, 0, 0), (.iconst 1, 1, 1, 0, 0), (.iand, 1, 0, 0, 0)], some (.ifCond .eq 11, 3, 0, 0, 0)) := rfl
theorem bl_X0_groupAround_63 : blk bX0_groupAround 63 = some ([(.iload_n 2, 1, 0, 0, 0), (.iload 5, 2, 0, 0, 0), (.ior, 1, 0, 0, 0), (.istore_n 2, 1, 0, 0, 0)], some (.goto 17, 3, 0, 0, 0)) := rfl
theorem bl_X0_groupAround_71 : blk bX0_groupAround 71 = some ([(.iload_n 2, 1, 0, 0, 0), (.iload 5, 2, 0, 0, 0), (.iand, 1, 0, 0, 0)], some (.ifCond .eq 10, 3, 0, 0, 0)) := rfl
theorem bl_X0_groupAround_78 : blk bX0_groupAround 78 = some ([(.iload_n 2, 1, 0, 0, 0), (.iconst 1, 1, 1, 0, 0), (.iload 4, 2, 0, 0, 0), (.ishl, 1, 0, 0, 0), (.ior, 1, 0, 0, 0), (.istore_n 2, 1, 0, 0, 0)], none) := rfl
theorem bl_X0_groupAround_85 : blk bX0_groupAround 85 = some ([(.iinc 4 1, 3, 1, 0, 0)], some (.goto (-71), 3, 0, 0, 0)) := rfl
theorem bl_X0_groupAround_91 : blk bX0_groupAround 91 = some ([(.iinc 3 1, 3, 1, 0, 0)], some (.goto (-88), 3, 0, 0, 0)) := rfl
theorem bl_X0_groupAround_97 : blk bX0_groupAround 97 = some ([(.iload_n 2, 1, 0, 0, 0)], some (.ireturn, 1, 0, 0, 0)) := rfl
theorem bl_X0_groupsOf_0 : blk bX0_groupsOf 0 = some ([(.iconst 0, 1, 0, 0, 0), (.istore_n 2, 1, 0, 0, 0), (.iconst 0, 1, 0, 0, 0), (.istore_n 3, 1, 0, 0, 0), (.iconst 0, 1, 0, 0, 0), (.istore 4, 2, 0, 0, 0)], none) := rfl
theorem bl_X0_groupsOf_7 : blk bX0_groupsOf 7 = some ([(.iload 4, 2, 0, 0, 0), (.aload_n 0, 1, 0, 0, 0), (.getfield 27, 3, 0, 5, 0)], some (.if_icmp .ge 40, 3, 0, 0, 0)) := rfl
theorem bl_X0_groupsOf_16 : blk bX0_groupsOf 16 = some ([(.aload_n 0, 1, 0, 0, 0), (.iload 4, 2, 0, 0, 0), (.iload_n 1, 1, 0, 0, 0)], some (.invokevirtual 93, 3, 3, 3, 0)) := rfl
theorem bl_X0_groupsOf_23 : blk bX0_groupsOf 23 = some ([], some (.ifCond .eq 24, 3, 0, 0, 0)) := rfl
theorem bl_X0_groupsOf_26 : blk bX0_groupsOf 26 = some ([(.iload_n 3, 1, 0, 0, 0), (.iload 4, 2, 0, 0, 0), (.ishr, 1, 0, 0, 0), (.iconst 1, 1, 1, 0, 0), (.iand, 1, 0, 0, 0)], some (.ifCond .ne 15, 3, 0, 0, 0)) := rfl
theorem bl_X0_groupsOf_35 : blk bX0_groupsOf 35 = some ([(.iload_n 3, 1, 0, 0, 0), (.aload_n 0, 1, 0, 0, 0), (.iload 4, 2, 0, 0, 0)], some (.invokevirtual 145, 3, 37, 2, 0)) := rfl
theorem bl_X0_groupsOf_42 : blk bX0_groupsOf 42 = some ([(.ior, 1, 0, 0, 0), (.istore_n 3, 1, 0, 0, 0), (.iinc 2 1, 3, 1, 0, 0)], none) := rfl
theorem bl_X0_groupsOf_47 : blk bX0_groupsOf 47 = some ([(.iinc 4 1, 3, 1, 0, 0)], some (.goto (-43), 3, 0, 0, 0)) := rfl
theorem bl_X0_groupsOf_53 : blk bX0_groupsOf 53 = some ([(.iload_n 2, 1, 0, 0, 0)], some (.ireturn, 1, 0, 0, 0)) := rfl
theorem bl_X0_farthestOf_0 : blk bX0_farthestOf 0 = some ([(.bipush (-4), 2, 4, 1, 0), (.istore_n 2, 1, 0, 0, 0), (.bipush (-4), 2, 4, 1, 0), (.istore_n 3, 1, 0, 0, 0), (.iconst 0, 1, 0, 0, 0), (.istore 4, 2, 0, 0, 0)], none) := rfl
theorem bl_X0_farthestOf_9 : blk bX0_farthestOf 9 = some ([(.iload 4, 2, 0, 0, 0), (.aload_n 0, 1, 0, 0, 0), (.getfield 27, 3, 0, 5, 0)], some (.if_icmp .ge 58, 3, 0, 0, 0)) := rfl
theorem bl_X0_farthestOf_18 : blk bX0_farthestOf 18 = some ([(.aload_n 0, 1, 0, 0, 0), (.iload 4, 2, 0, 0, 0), (.iload_n 1, 1, 0, 0, 0)], some (.invokevirtual 93, 3, 3, 3, 0)) := rfl
theorem bl_X0_farthestOf_25 : blk bX0_farthestOf 25 = some ([], some (.ifCond .eq 42, 3, 0, 0, 0)) := rfl
theorem bl_X0_farthestOf_28 : blk bX0_farthestOf 28 = some ([(.aload_n 0, 1, 0, 0, 0), (.getfield 21, 3, 0, 3, 0), (.iload 4, 2, 0, 0, 0), (.iaload, 1, 0, 0, 0), (.bipush 6, 2, 6, 0, 0), (.idiv, 1, 0, 0, 0), (.istore 5, 2, 0, 0, 0), (.iload_n 1, 1, 0, 0, 0)], some (.ifCond .ne 8, 3, 0, 0, 0)) := rfl
theorem bl_X0_farthestOf_44 : blk bX0_farthestOf 44 = some ([(.iload 5, 2, 0, 0, 0)], some (.goto 7, 3, 0, 0, 0)) := rfl
theorem bl_X0_farthestOf_49 : blk bX0_farthestOf 49 = some ([(.iconst 5, 1, 5, 0, 0), (.iload 5, 2, 0, 0, 0), (.isub, 1, 0, 0, 0)], none) := rfl
theorem bl_X0_farthestOf_53 : blk bX0_farthestOf 53 = some ([(.istore 6, 2, 0, 0, 0), (.iload 6, 2, 0, 0, 0), (.iload_n 3, 1, 0, 0, 0)], some (.if_icmp .le 9, 3, 0, 0, 0)) := rfl
theorem bl_X0_farthestOf_61 : blk bX0_farthestOf 61 = some ([(.iload 4, 2, 0, 0, 0), (.istore_n 2, 1, 0, 0, 0), (.iload 6, 2, 0, 0, 0), (.istore_n 3, 1, 0, 0, 0)], none) := rfl
theorem bl_X0_farthestOf_67 : blk bX0_farthestOf 67 = some ([(.iinc 4 1, 3, 1, 0, 0)], some (.goto (-61), 3, 0, 0, 0)) := rfl
theorem bl_X0_farthestOf_73 : blk bX0_farthestOf 73 = some ([(.iload_n 2, 1, 0, 0, 0)], some (.ireturn, 1, 0, 0, 0)) := rfl
theorem bl_X0_pairsSideBySide_0 : blk bX0_pairsSideBySide 0 = some ([(.iconst 0, 1, 0, 0, 0), (.istore_n 1, 1, 0, 0, 0), (.iconst 0, 1, 0, 0, 0), (.istore_n 2, 1, 0, 0, 0)], none) := rfl
theorem bl_X0_pairsSideBySide_4 : blk bX0_pairsSideBySide 4 = some ([(.iload_n 2, 1, 0, 0, 0), (.aload_n 0, 1, 0, 0, 0), (.getfield 27, 3, 0, 5, 0)], some (.if_icmp .ge 65, 3, 0, 0, 0)) := rfl
theorem bl_X0_pairsSideBySide_12 : blk bX0_pairsSideBySide 12 = some ([(.iconst 0, 1, 0, 0, 0), (.istore_n 3, 1, 0, 0, 0)], none) := rfl
theorem bl_X0_pairsSideBySide_14 : blk bX0_pairsSideBySide 14 = some ([(.iload_n 3, 1, 0, 0, 0), (.aload_n 0, 1, 0, 0, 0), (.getfield 27, 3, 0, 5, 0)], some (.if_icmp .ge 49, 3, 0, 0, 0)) := rfl
theorem bl_X0_pairsSideBySide_22 : blk bX0_pairsSideBySide 22 = some ([(.aload_n 0, 1, 0, 0, 0), (.iload_n 2, 1, 0, 0, 0), (.iconst 0, 1, 0, 0, 0)], some (.invokevirtual 93, 3, 3, 3, 0)) := rfl
theorem bl_X0_pairsSideBySide_28 : blk bX0_pairsSideBySide 28 = some ([], some (.ifCond .eq 34, 3, 0, 0, 0)) := rfl
theorem bl_X0_pairsSideBySide_31 : blk bX0_pairsSideBySide 31 = some ([(.aload_n 0, 1, 0, 0, 0), (.iload_n 3, 1, 0, 0, 0), (.iconst 1, 1, 1, 0, 0)], some (.invokevirtual 93, 3, 3, 3, 0)) := rfl
theorem bl_X0_pairsSideBySide_37 : blk bX0_pairsSideBySide 37 = some ([], some (.ifCond .eq 25, 3, 0, 0, 0)) := rfl
theorem bl_X0_pairsSideBySide_40 : blk bX0_pairsSideBySide 40 = some ([(.aload_n 0, 1, 0, 0, 0), (.getfield 21, 3, 0, 3, 0), (.iload_n 2, 1, 0, 0, 0), (.iaload, 1, 0, 0, 0), (.aload_n 0, 1, 0, 0, 0), (.getfield 21, 3, 0, 3, 0), (.iload_n 3, 1, 0, 0, 0), (.iaload, 1, 0, 0, 0)], some (.invokestatic 114, 3, 20, 2, 0)) := rfl
theorem bl_X0_pairsSideBySide_55 : blk bX0_pairsSideBySide 55 = some ([(.iconst 1, 1, 1, 0, 0)], some (.if_icmp .ne 6, 3, 0, 0, 0)) := rfl
theorem bl_X0_pairsSideBySide_59 : blk bX0_pairsSideBySide 59 = some ([(.iinc 1 1, 3, 1, 0, 0)], none) := rfl
theorem bl_X0_pairsSideBySide_62 : blk bX0_pairsSideBySide 62 = some ([(.iinc 3 1, 3, 1, 0, 0)], some (.goto (-51), 3, 0, 0, 0)) := rfl
theorem bl_X0_pairsSideBySide_68 : blk bX0_pairsSideBySide 68 = some ([(.iinc 2 1, 3, 1, 0, 0)], some (.goto (-67), 3, 0, 0, 0)) := rfl
theorem bl_X0_pairsSideBySide_74 : blk bX0_pairsSideBySide 74 = some ([(.iload_n 1, 1, 0, 0, 0)], some (.ireturn, 1, 0, 0, 0)) := rfl
theorem bl_X0_quietOn_0 : blk bX0_quietOn 0 = some ([(.iconst 0, 1, 0, 0, 0), (.istore_n 2, 1, 0, 0, 0), (.iconst 0, 1, 0, 0, 0), (.istore_n 3, 1, 0, 0, 0)], none) := rfl
theorem bl_X0_quietOn_4 : blk bX0_quietOn 4 = some ([(.iload_n 3, 1, 0, 0, 0), (.aload_n 0, 1, 0, 0, 0), (.getfield 27, 3, 0, 5, 0)], some (.if_icmp .ge 38, 3, 0, 0, 0)) := rfl
theorem bl_X0_quietOn_12 : blk bX0_quietOn 12 = some ([(.iload_n 2, 1, 0, 0, 0), (.aload_n 0, 1, 0, 0, 0), (.iload_n 3, 1, 0, 0, 0)], some (.invokevirtual 56, 3, 2, 2, 0)) := rfl
theorem bl_X0_quietOn_18 : blk bX0_quietOn 18 = some ([], some (.ifCond .eq 20, 3, 0, 0, 0)) := rfl
theorem bl_X0_quietOn_21 : blk bX0_quietOn 21 = some ([(.aload_n 0, 1, 0, 0, 0), (.iload_n 3, 1, 0, 0, 0), (.iload_n 1, 1, 0, 0, 0)], some (.invokevirtual 85, 3, 23, 3, 0)) := rfl
theorem bl_X0_quietOn_27 : blk bX0_quietOn 27 = some ([(.bipush (-4), 2, 4, 1, 0)], some (.if_icmp .ne 9, 3, 0, 0, 0)) := rfl
theorem bl_X0_quietOn_32 : blk bX0_quietOn 32 = some ([(.iconst 1, 1, 1, 0, 0), (.iload_n 3, 1, 0, 0, 0), (.ishl, 1, 0, 0, 0)], some (.goto 4, 3, 0, 0, 0)) := rfl
theorem bl_X0_quietOn_38 : blk bX0_quietOn 38 = some ([(.iconst 0, 1, 0, 0, 0)], none) := rfl
theorem bl_X0_quietOn_39 : blk bX0_quietOn 39 = some ([(.ior, 1, 0, 0, 0), (.istore_n 2, 1, 0, 0, 0), (.iinc 3 1, 3, 1, 0, 0)], some (.goto (-40), 3, 0, 0, 0)) := rfl
theorem bl_X0_quietOn_47 : blk bX0_quietOn 47 = some ([(.iload_n 2, 1, 0, 0, 0)], some (.ireturn, 1, 0, 0, 0)) := rfl
theorem bl_X2_hasPlace_0 : blk bX2_hasPlace 0 = some ([(.iload_n 1, 1, 0, 0, 0)], some (.ifCond .lt 21, 3, 0, 0, 0)) := rfl
theorem bl_X2_hasPlace_4 : blk bX2_hasPlace 4 = some ([(.iload_n 1, 1, 0, 0, 0), (.aload_n 0, 1, 0, 0, 0), (.getfield 24, 3, 1, 4, 0)], some (.if_icmp .ge 13, 3, 0, 0, 0)) := rfl
theorem bl_X2_hasPlace_12 : blk bX2_hasPlace 12 = some ([(.iload_n 1, 1, 0, 0, 0), (.bipush 100, 2, 100, 0, 0)], some (.if_icmp .ge 7, 3, 0, 0, 0)) := rfl
theorem bl_X2_hasPlace_18 : blk bX2_hasPlace 18 = some ([(.iconst 1, 1, 1, 0, 0)], some (.goto 4, 3, 0, 0, 0)) := rfl
theorem bl_X2_hasPlace_22 : blk bX2_hasPlace 22 = some ([(.iconst 0, 1, 0, 0, 0)], none) := rfl
theorem bl_X2_hasPlace_23 : blk bX2_hasPlace 23 = some ([], some (.ireturn, 1, 1, 0, 0)) := rfl
theorem bl_X2_elementAt_0 : blk bX2_elementAt 0 = some ([(.aload_n 0, 1, 0, 0, 0), (.iload_n 1, 1, 0, 0, 0)], some (.invokevirtual 37, 3, 42, 2, 1)) := rfl
theorem bl_X2_elementAt_5 : blk bX2_elementAt 5 = some ([], some (.ifCond .eq 12, 3, 0, 0, 0)) := rfl
theorem bl_X2_elementAt_8 : blk bX2_elementAt 8 = some ([(.aload_n 0, 1, 0, 0, 0), (.getfield 27, 3, 1, 5, 0), (.iload_n 1, 1, 0, 0, 0), (.iaload, 1, 0, 0, 0)], some (.goto 4, 3, 0, 0, 0)) := rfl
theorem bl_X2_elementAt_17 : blk bX2_elementAt 17 = some ([(.iconst 0, 1, 0, 0, 0)], none) := rfl
theorem bl_X2_elementAt_18 : blk bX2_elementAt 18 = some ([], some (.ireturn, 1, 0, 0, 0)) := rfl
theorem bl_X2_digitsBehind_0 : blk bX2_digitsBehind 0 = some ([(.aload_n 0, 1, 0, 0, 0), (.iload_n 1, 1, 0, 0, 0)], some (.invokevirtual 42, 3, 43, 2, 1)) := rfl
theorem bl_X2_digitsBehind_5 : blk bX2_digitsBehind 5 = some ([], some (.lookupswitch 71 #[(100, 69), (107, 67), (109, 61), (112, 59), (116, 65), (120, 63)], 59, 0, 0, 0)) := rfl
theorem bl_X2_digitsBehind_64 : blk bX2_digitsBehind 64 = some ([(.iconst 5, 1, 5, 0, 0)], some (.ireturn, 1, 0, 0, 0)) := rfl
theorem bl_X2_digitsBehind_66 : blk bX2_digitsBehind 66 = some ([(.iconst 3, 1, 3, 0, 0)], some (.ireturn, 1, 0, 0, 0)) := rfl
theorem bl_X2_digitsBehind_68 : blk bX2_digitsBehind 68 = some ([(.iconst 1, 1, 1, 0, 0)], some (.ireturn, 1, 0, 0, 0)) := rfl
theorem bl_X2_digitsBehind_70 : blk bX2_digitsBehind 70 = some ([(.iconst 1, 1, 1, 0, 0)], some (.ireturn, 1, 0, 0, 0)) := rfl
theorem bl_X2_digitsBehind_72 : blk bX2_digitsBehind 72 = some ([(.iconst 3, 1, 3, 0, 0)], some (.ireturn, 1, 0, 0, 0)) := rfl
theorem bl_X2_digitsBehind_74 : blk bX2_digitsBehind 74 = some ([(.iconst 2, 1, 2, 0, 0)], some (.ireturn, 1, 0, 0, 0)) := rfl
theorem bl_X2_digitsBehind_76 : blk bX2_digitsBehind 76 = some ([(.bipush (-4), 2, 4, 1, 0)], some (.ireturn, 1, 0, 0, 0)) := rfl
theorem bl_X2_wrongByte_0 : blk bX2_wrongByte 0 = some ([(.aload_n 0, 1, 0, 0, 0), (.getfield 24, 3, 1, 4, 0)], some (.ifCond .ne 5, 3, 0, 0, 0)) := rfl
theorem bl_X2_wrongByte_7 : blk bX2_wrongByte 7 = some ([(.iconst 0, 1, 0, 0, 0)], some (.ireturn, 1, 0, 0, 0)) := rfl
theorem bl_X2_wrongByte_9 : blk bX2_wrongByte 9 = some ([(.bipush (-4), 2, 4, 1, 0), (.istore_n 1, 1, 0, 0, 0), (.iconst 0, 1, 0, 0, 0), (.istore_n 2, 1, 0, 0, 0)], none) := rfl
theorem bl_X2_wrongByte_14 : blk bX2_wrongByte 14 = some ([(.iload_n 2, 1, 0, 0, 0), (.aload_n 0, 1, 0, 0, 0), (.getfield 24, 3, 1, 4, 0)], some (.if_icmp .ge 70, 3, 0, 0, 0)) := rfl
theorem bl_X2_wrongByte_22 : blk bX2_wrongByte 22 = some ([(.aload_n 0, 1, 0, 0, 0), (.iload_n 2, 1, 0, 0, 0)], some (.invokevirtual 42, 3, 43, 2, 1)) := rfl
theorem bl_X2_wrongByte_27 : blk bX2_wrongByte 27 = some ([(.istore_n 3, 1, 0, 0, 0), (.iload_n 1, 1, 0, 0, 0), (.bipush (-4), 2, 4, 1, 0)], some (.if_icmp .ne 17, 3, 0, 0, 0)) := rfl
theorem bl_X2_wrongByte_34 : blk bX2_wrongByte 34 = some ([(.aload_n 0, 1, 0, 0, 0), (.iload_n 2, 1, 0, 0, 0)], some (.invokevirtual 46, 3, 44, 2, 1)) := rfl
theorem bl_X2_wrongByte_39 : blk bX2_wrongByte 39 = some ([(.istore_n 1, 1, 0, 0, 0), (.iload_n 1, 1, 0, 0, 0), (.bipush (-4), 2, 4, 1, 0)], some (.if_icmp .ne 40, 3, 0, 0, 0)) := rfl
theorem bl_X2_wrongByte_46 : blk bX2_wrongByte 46 = some ([(.iload_n 2, 1, 0, 0, 0)], some (.ireturn, 1, 0, 0, 0)) := rfl
theorem bl_X2_wrongByte_48 : blk bX2_wrongByte 48 = some ([(.iload_n 1, 1, 0, 0, 0)], some (.ifCond .le 23, 3, 0, 0, 0)) := rfl
theorem bl_X2_wrongByte_52 : blk bX2_wrongByte 52 = some ([(.iload_n 3, 1, 0, 0, 0), (.bipush 48, 2, 48, 0, 0)], some (.if_icmp .lt 9, 3, 0, 0, 0)) := rfl
theorem bl_X2_wrongByte_58 : blk bX2_wrongByte 58 = some ([(.iload_n 3, 1, 0, 0, 0), (.bipush 57, 2, 57, 0, 0)], some (.if_icmp .le 5, 3, 0, 0, 0)) := rfl
theorem bl_X2_wrongByte_64 : blk bX2_wrongByte 64 = some ([(.iload_n 2, 1, 0, 0, 0)], some (.ireturn, 1, 0, 0, 0)) := rfl
theorem bl_X2_wrongByte_66 : blk bX2_wrongByte 66 = some ([(.iinc 1 (-1), 3, 1, 1, 0)], some (.goto 14, 3, 0, 0, 0)) := rfl
theorem bl_X2_wrongByte_72 : blk bX2_wrongByte 72 = some ([(.iload_n 3, 1, 0, 0, 0), (.bipush 59, 2, 59, 0, 0)], some (.if_icmp .eq 5, 3, 0, 0, 0)) := rfl
theorem bl_X2_wrongByte_78 : blk bX2_wrongByte 78 = some ([(.iload_n 2, 1, 0, 0, 0)], some (.ireturn, 1, 0, 0, 0)) := rfl
theorem bl_X2_wrongByte_80 : blk bX2_wrongByte 80 = some ([(.bipush (-4), 2, 4, 1, 0), (.istore_n 1, 1, 0, 0, 0)], none) := rfl
theorem bl_X2_wrongByte_83 : blk bX2_wrongByte 83 = some ([(.iinc 2 1, 3, 1, 0, 0)], some (.goto (-72), 3, 0, 0, 0)) := rfl
theorem bl_X2_wrongByte_89 : blk bX2_wrongByte 89 = some ([(.iload_n 1, 1, 0, 0, 0), (.bipush (-4), 2, 4, 1, 0)], some (.if_icmp .ne 8, 3, 0, 0, 0)) := rfl
theorem bl_X2_wrongByte_95 : blk bX2_wrongByte 95 = some ([(.bipush (-4), 2, 4, 1, 0)], some (.goto 7, 3, 0, 0, 0)) := rfl
theorem bl_X2_wrongByte_100 : blk bX2_wrongByte 100 = some ([(.aload_n 0, 1, 0, 0, 0), (.getfield 24, 3, 1, 4, 0)], none) := rfl
theorem bl_X2_wrongByte_104 : blk bX2_wrongByte 104 = some ([], some (.ireturn, 1, 0, 0, 0)) := rfl
theorem bl_X2_digitAt_0 : blk bX2_digitAt 0 = some ([(.aload_n 0, 1, 0, 0, 0), (.iload_n 1, 1, 0, 0, 0)], some (.invokevirtual 42, 3, 43, 2, 1)) := rfl
theorem bl_X2_digitAt_5 : blk bX2_digitAt 5 = some ([(.bipush 48, 2, 48, 0, 0), (.isub, 1, 0, 0, 0)], some (.ireturn, 1, 0, 0, 0)) := rfl
theorem bl_X2_twoDigitsAt_0 : blk bX2_twoDigitsAt 0 = some ([(.bipush 10, 2, 10, 0, 0), (.aload_n 0, 1, 0, 0, 0), (.iload_n 1, 1, 0, 0, 0)], some (.invokevirtual 49, 3, 46, 2, 1)) := rfl
theorem bl_X2_twoDigitsAt_7 : blk bX2_twoDigitsAt 7 = some ([(.imul, 1, 0, 0, 0), (.aload_n 0, 1, 0, 0, 0), (.iload_n 1, 1, 0, 0, 0), (.iconst 1, 1, 1, 0, 0), (.iadd, 1, 0, 0, 0)], some (.invokevirtual 49, 3, 46, 2, 1)) := rfl
theorem bl_X2_twoDigitsAt_15 : blk bX2_twoDigitsAt 15 = some ([(.iadd, 1, 0, 0, 0)], some (.ireturn, 1, 0, 0, 0)) := rfl
theorem bl_X3_shelfAt_0 : blk bX3_shelfAt 0 = some ([(.iload_n 1, 1, 0, 0, 0)], some (.ifCond .lt 21, 3, 0, 0, 0)) := rfl
theorem bl_X3_shelfAt_4 : blk bX3_shelfAt 4 = some ([(.iload_n 1, 1, 0, 0, 0), (.aload_n 0, 1, 0, 0, 0), (.getfield 25, 3, 2, 3, 0), (.arraylength, 1, 0, 0, 0)], some (.if_icmp .ge 12, 3, 0, 0, 0)) := rfl
theorem bl_X3_shelfAt_13 : blk bX3_shelfAt 13 = some ([(.aload_n 0, 1, 0, 0, 0), (.getfield 25, 3, 2, 3, 0), (.iload_n 1, 1, 0, 0, 0), (.aaload, 1, 0, 0, 0)], some (.goto 4, 3, 0, 0, 0)) := rfl
theorem bl_X3_shelfAt_22 : blk bX3_shelfAt 22 = some ([(.aconst_null, 1, 0, 0, 0)], none) := rfl
theorem bl_X3_shelfAt_23 : blk bX3_shelfAt 23 = some ([], some (.areturn, 1, 0, 0, 0)) := rfl
theorem bl_X3_refusalUnless_0 : blk bX3_refusalUnless 0 = some ([(.aload_n 0, 1, 0, 0, 0)], some (.ifnonnull 5, 3, 0, 0, 0)) := rfl
theorem bl_X3_refusalUnless_4 : blk bX3_refusalUnless 4 = some ([(.iconst (-1), 1, 1, 1, 0)], some (.ireturn, 1, 0, 0, 0)) := rfl
theorem bl_X3_refusalUnless_6 : blk bX3_refusalUnless 6 = some ([(.aload_n 0, 1, 0, 0, 0), (.getfield 261, 3, 1, 0, 0)], some (.ifCond .ne 6, 3, 0, 0, 0)) := rfl
theorem bl_X3_refusalUnless_13 : blk bX3_refusalUnless 13 = some ([(.bipush (-11), 2, 11, 1, 0)], some (.ireturn, 1, 0, 0, 0)) := rfl
theorem bl_X3_refusalUnless_16 : blk bX3_refusalUnless 16 = some ([(.aload_n 0, 1, 0, 0, 0), (.getfield 261, 3, 1, 0, 0), (.iload_n 1, 1, 0, 0, 0)], some (.if_icmp .ne 7, 3, 0, 0, 0)) := rfl
theorem bl_X3_refusalUnless_24 : blk bX3_refusalUnless 24 = some ([(.iconst 0, 1, 0, 0, 0)], some (.goto 5, 3, 0, 0, 0)) := rfl
theorem bl_X3_refusalUnless_28 : blk bX3_refusalUnless 28 = some ([(.bipush (-12), 2, 12, 1, 0)], none) := rfl
theorem bl_X3_refusalUnless_30 : blk bX3_refusalUnless 30 = some ([], some (.ireturn, 1, 0, 0, 0)) := rfl
theorem bl_X3_isDone_0 : blk bX3_isDone 0 = some ([(.aload_n 1, 1, 0, 0, 0), (.iload_n 2, 1, 0, 0, 0), (.iconst 1, 1, 1, 0, 0), (.iadd, 1, 0, 0, 0)], some (.invokevirtual 316, 3, 46, 2, 1)) := rfl
theorem bl_X3_isDone_7 : blk bX3_isDone 7 = some ([(.istore_n 3, 1, 0, 0, 0), (.aload_n 1, 1, 0, 0, 0), (.iload_n 2, 1, 0, 0, 0), (.iconst 2, 1, 2, 0, 0), (.iadd, 1, 0, 0, 0)], some (.invokevirtual 316, 3, 46, 2, 1)) := rfl
theorem bl_X3_isDone_15 : blk bX3_isDone 15 = some ([(.istore 4, 2, 0, 0, 0), (.aload_n 1, 1, 0, 0, 0), (.iload_n 2, 1, 0, 0, 0), (.iconst 3, 1, 3, 0, 0), (.iadd, 1, 0, 0, 0)], some (.invokevirtual 316, 3, 46, 2, 1)) := rfl
theorem bl_X3_isDone_24 : blk bX3_isDone 24 = some ([(.istore 5, 2, 0, 0, 0), (.aload_n 1, 1, 0, 0, 0), (.iload_n 2, 1, 0, 0, 0)], some (.invokevirtual 252, 3, 43, 2, 1)) := rfl
theorem bl_X3_isDone_31 : blk bX3_isDone 31 = some ([], some (.lookupswitch 139 #[(100, 124), (107, 111), (109, 77), (112, 57), (116, 102), (120, 93)], 57, 0, 0, 0)) := rfl
theorem bl_X3_isDone_88 : blk bX3_isDone 88 = some ([(.aload_n 0, 1, 0, 0, 0), (.getfield 33, 3, 2, 5, 0), (.iload_n 3, 1, 0, 0, 0), (.iload 4, 2, 0, 0, 0), (.iload 5, 2, 0, 0, 0), (.aload_n 1, 1, 0, 0, 0), (.iload_n 2, 1, 0, 0, 0), (.iconst 4, 1, 4, 0, 0), (.iadd, 1, 0, 0, 0)], some (.invokevirtual 319, 3, 47, 2, 1)) := rfl
theorem bl_X3_isDone_104 : blk bX3_isDone 104 = some ([], some (.invokevirtual 133, 3, 10, 5, 0)) := rfl
theorem bl_X3_isDone_107 : blk bX3_isDone 107 = some ([], some (.ireturn, 1, 1, 0, 0)) := rfl
theorem bl_X3_isDone_108 : blk bX3_isDone 108 = some ([(.aload_n 0, 1, 0, 0, 0), (.getfield 33, 3, 2, 5, 0), (.iload_n 3, 1, 0, 0, 0), (.aload_n 1, 1, 0, 0, 0), (.iload_n 2, 1, 0, 0, 0), (.iconst 2, 1, 2, 0, 0), (.iadd, 1, 0, 0, 0)], some (.invokevirtual 319, 3, 47, 2, 1)) := rfl
theorem bl_X3_isDone_120 : blk bX3_isDone 120 = some ([], some (.invokevirtual 137, 3, 13, 3, 0)) := rfl
theorem bl_X3_isDone_123 : blk bX3_isDone 123 = some ([], some (.ireturn, 1, 1, 0, 0)) := rfl
theorem bl_X3_isDone_124 : blk bX3_isDone 124 = some ([(.aload_n 0, 1, 0, 0, 0), (.getfield 33, 3, 2, 5, 0), (.iload_n 3, 1, 0, 0, 0)], some (.invokevirtual 141, 3, 12, 2, 0)) := rfl
theorem bl_X3_isDone_132 : blk bX3_isDone 132 = some ([], some (.ireturn, 1, 1, 0, 0)) := rfl
theorem bl_X3_isDone_133 : blk bX3_isDone 133 = some ([(.aload_n 0, 1, 0, 0, 0), (.getfield 33, 3, 2, 5, 0), (.iload_n 3, 1, 0, 0, 0)], some (.invokevirtual 147, 3, 15, 2, 0)) := rfl
theorem bl_X3_isDone_141 : blk bX3_isDone 141 = some ([], some (.ireturn, 1, 1, 0, 0)) := rfl
theorem bl_X3_isDone_142 : blk bX3_isDone 142 = some ([(.aload_n 0, 1, 0, 0, 0), (.getfield 33, 3, 2, 5, 0), (.iload_n 3, 1, 0, 0, 0), (.iload 4, 2, 0, 0, 0), (.iload 5, 2, 0, 0, 0)], some (.invokevirtual 228, 3, 14, 4, 0)) := rfl
theorem bl_X3_isDone_154 : blk bX3_isDone 154 = some ([], some (.ireturn, 1, 1, 0, 0)) := rfl
theorem bl_X3_isDone_155 : blk bX3_isDone 155 = some ([(.aload_n 0, 1, 0, 0, 0), (.getfield 33, 3, 2, 5, 0), (.aload_n 1, 1, 0, 0, 0), (.iload_n 2, 1, 0, 0, 0), (.iconst 1, 1, 1, 0, 0), (.iadd, 1, 0, 0, 0)], some (.invokevirtual 319, 3, 47, 2, 1)) := rfl
theorem bl_X3_isDone_166 : blk bX3_isDone 166 = some ([], some (.invokevirtual 150, 3, 30, 2, 0)) := rfl
theorem bl_X3_isDone_169 : blk bX3_isDone 169 = some ([], some (.ireturn, 1, 1, 0, 0)) := rfl
theorem bl_X3_isDone_170 : blk bX3_isDone 170 = some ([(.iconst 0, 1, 0, 0, 0)], some (.ireturn, 1, 1, 0, 0)) := rfl
theorem bl_X3_game_0 : blk bX3_game 0 = some ([(.aload_n 0, 1, 0, 0, 0), (.iload_n 1, 1, 0, 0, 0)], some (.invokevirtual 51, 3, 48, 2, 2)) := rfl
theorem bl_X3_game_5 : blk bX3_game 5 = some ([(.astore_n 2, 1, 0, 0, 0), (.aload_n 2, 1, 0, 0, 0), (.iconst 2, 1, 2, 0, 0)], some (.invokestatic 55, 3, 49, 2, 0)) := rfl
theorem bl_X3_game_11 : blk bX3_game 11 = some ([(.istore_n 3, 1, 0, 0, 0), (.aload_n 2, 1, 0, 0, 0)], some (.ifnull 7, 3, 0, 0, 0)) := rfl
theorem bl_X3_game_16 : blk bX3_game 16 = some ([(.iload_n 3, 1, 0, 0, 0)], some (.ifCond .eq 5, 3, 0, 0, 0)) := rfl
theorem bl_X3_game_20 : blk bX3_game 20 = some ([(.iload_n 3, 1, 0, 0, 0)], some (.ireturn, 1, 0, 0, 0)) := rfl
theorem bl_X3_game_22 : blk bX3_game 22 = some ([(.aload_n 2, 1, 0, 0, 0), (.getfield 59, 3, 1, 3, 0)], some (.ifCond .eq 6, 3, 0, 0, 0)) := rfl
theorem bl_X3_game_29 : blk bX3_game 29 = some ([(.bipush (-12), 2, 12, 1, 0)], some (.ireturn, 1, 0, 0, 0)) := rfl
theorem bl_X3_game_32 : blk bX3_game 32 = some ([(.aload_n 2, 1, 0, 0, 0)], some (.invokevirtual 62, 3, 45, 1, 1)) := rfl
theorem bl_X3_game_36 : blk bX3_game 36 = some ([(.istore 4, 2, 0, 0, 0), (.iload 4, 2, 0, 0, 0), (.bipush (-4), 2, 4, 1, 0)], some (.if_icmp .eq 10, 3, 0, 0, 0)) := rfl
theorem bl_X3_game_45 : blk bX3_game 45 = some ([(.sipush (-1000), 3, 1000, 1, 0), (.iload 4, 2, 0, 0, 0), (.isub, 1, 0, 0, 0)], some (.ireturn, 1, 0, 0, 0)) := rfl
theorem bl_X3_game_52 : blk bX3_game 52 = some ([(.iconst 0, 1, 0, 0, 0), (.istore 5, 2, 0, 0, 0), (.aload_n 0, 1, 0, 0, 0), (.getfield 33, 3, 2, 5, 0), (.aload_n 0, 1, 0, 0, 0), (.getfield 10, 3, 2, 0, 0)], some (.invokevirtual 66, 3, 0, 2, 0)) := rfl
theorem bl_X3_game_66 : blk bX3_game 66 = some ([(.iconst 0, 1, 0, 0, 0), (.istore 6, 2, 0, 0, 0)], none) := rfl
theorem bl_X3_game_69 : blk bX3_game 69 = some ([(.iload 6, 2, 0, 0, 0), (.aload_n 2, 1, 0, 0, 0), (.getfield 70, 3, 1, 4, 0)], some (.if_icmp .ge 43, 3, 0, 0, 0)) := rfl
theorem bl_X3_game_78 : blk bX3_game 78 = some ([(.aload_n 0, 1, 0, 0, 0), (.aload_n 2, 1, 0, 0, 0), (.iload 6, 2, 0, 0, 0)], some (.invokevirtual 73, 3, 50, 3, 2)) := rfl
theorem bl_X3_game_85 : blk bX3_game 85 = some ([], some (.ifCond .ne 10, 3, 0, 0, 0)) := rfl
theorem bl_X3_game_88 : blk bX3_game 88 = some ([(.sipush (-2000), 3, 2000, 1, 0), (.iload 6, 2, 0, 0, 0), (.isub, 1, 0, 0, 0)], some (.ireturn, 1, 0, 0, 0)) := rfl
theorem bl_X3_game_95 : blk bX3_game 95 = some ([(.iinc 5 1, 3, 1, 0, 0), (.iload 6, 2, 0, 0, 0), (.iconst 2, 1, 2, 0, 0), (.iconst 0, 1, 0, 0, 0), (.aload_n 2, 1, 0, 0, 0), (.iload 6, 2, 0, 0, 0)], some (.invokevirtual 77, 3, 44, 2, 1)) := rfl
theorem bl_X3_game_108 : blk bX3_game 108 = some ([(.invokestatic 81, 3, 1, 0, 0), (.iadd, 1, 0, 0, 0), (.iadd, 1, 0, 0, 0), (.istore 6, 2, 0, 0, 0)], some (.goto (-46), 3, 0, 0, 0)) := rfl
theorem bl_X3_game_118 : blk bX3_game 118 = some ([(.aload_n 0, 1, 0, 0, 0), (.getfield 10, 3, 2, 0, 0), (.aload_n 0, 1, 0, 0, 0), (.getfield 33, 3, 2, 5, 0)], some (.invokevirtual 66, 3, 0, 2, 0)) := rfl
theorem bl_X3_game_129 : blk bX3_game 129 = some ([(.iload 5, 2, 0, 0, 0)], some (.ireturn, 1, 0, 0, 0)) := rfl
theorem bl_X3_piece_0 : blk bX3_piece 0 = some ([(.aload_n 0, 1, 0, 0, 0), (.getfield 10, 3, 2, 0, 0), (.iload_n 1, 1, 0, 0, 0)], some (.invokevirtual 87, 3, 1, 2, 0)) := rfl
theorem bl_X3_piece_8 : blk bX3_piece 8 = some ([], some (.ifCond .ne 5, 3, 0, 0, 0)) := rfl
theorem bl_X3_piece_11 : blk bX3_piece 11 = some ([(.iconst (-1), 1, 1, 1, 0)], some (.ireturn, 1, 0, 0, 0)) := rfl
theorem bl_X3_piece_13 : blk bX3_piece 13 = some ([(.iload_n 2, 1, 0, 0, 0)], some (.tableswitch 143 0 6 #[42, 52, 62, 72, 81, 103, 125], 42, 0, 0, 0)) := rfl
theorem bl_X3_piece_56 : blk bX3_piece 56 = some ([(.aload_n 0, 1, 0, 0, 0), (.getfield 10, 3, 2, 0, 0), (.getfield 91, 3, 0, 0, 0), (.iload_n 1, 1, 0, 0, 0), (.iaload, 1, 0, 0, 0)], some (.ireturn, 1, 0, 0, 0)) := rfl
theorem bl_X3_piece_66 : blk bX3_piece 66 = some ([(.aload_n 0, 1, 0, 0, 0), (.getfield 10, 3, 2, 0, 0), (.getfield 94, 3, 0, 1, 0), (.iload_n 1, 1, 0, 0, 0), (.iaload, 1, 0, 0, 0)], some (.ireturn, 1, 0, 0, 0)) := rfl
theorem bl_X3_piece_76 : blk bX3_piece 76 = some ([(.aload_n 0, 1, 0, 0, 0), (.getfield 10, 3, 2, 0, 0), (.getfield 97, 3, 0, 2, 0), (.iload_n 1, 1, 0, 0, 0), (.iaload, 1, 0, 0, 0)], some (.ireturn, 1, 0, 0, 0)) := rfl
theorem bl_X3_piece_86 : blk bX3_piece 86 = some ([(.aload_n 0, 1, 0, 0, 0), (.getfield 10, 3, 2, 0, 0), (.iload_n 1, 1, 0, 0, 0)], some (.invokevirtual 100, 3, 4, 2, 0)) := rfl
theorem bl_X3_piece_94 : blk bX3_piece 94 = some ([], some (.ireturn, 1, 0, 0, 0)) := rfl
theorem bl_X3_piece_95 : blk bX3_piece 95 = some ([(.aload_n 0, 1, 0, 0, 0), (.getfield 10, 3, 2, 0, 0), (.getfield 91, 3, 0, 0, 0), (.iload_n 1, 1, 0, 0, 0), (.iaload, 1, 0, 0, 0), (.aload_n 0, 1, 0, 0, 0), (.getfield 10, 3, 2, 0, 0), (.getfield 94, 3, 0, 1, 0), (.iload_n 1, 1, 0, 0, 0), (.iaload, 1, 0, 0, 0)], some (.invokestatic 103, 3, 24, 2, 0)) := rfl
theorem bl_X3_piece_116 : blk bX3_piece 116 = some ([], some (.ireturn, 1, 0, 0, 0)) := rfl
theorem bl_X3_piece_117 : blk bX3_piece 117 = some ([(.aload_n 0, 1, 0, 0, 0), (.getfield 10, 3, 2, 0, 0), (.getfield 91, 3, 0, 0, 0), (.iload_n 1, 1, 0, 0, 0), (.iaload, 1, 0, 0, 0), (.aload_n 0, 1, 0, 0, 0), (.getfield 10, 3, 2, 0, 0), (.getfield 94, 3, 0, 1, 0), (.iload_n 1, 1, 0, 0, 0), (.iaload, 1, 0, 0, 0)], some (.invokestatic 108, 3, 34, 2, 0)) := rfl
theorem bl_X3_piece_138 : blk bX3_piece 138 = some ([], some (.ireturn, 1, 0, 0, 0)) := rfl
theorem bl_X3_piece_139 : blk bX3_piece 139 = some ([(.aload_n 0, 1, 0, 0, 0), (.getfield 10, 3, 2, 0, 0), (.iload_n 1, 1, 0, 0, 0), (.aload_n 0, 1, 0, 0, 0), (.getfield 10, 3, 2, 0, 0), (.getfield 111, 3, 0, 8, 0), (.iconst 1, 1, 1, 0, 0), (.iadd, 1, 0, 0, 0)], some (.invokevirtual 114, 3, 23, 3, 0)) := rfl
theorem bl_X3_piece_156 : blk bX3_piece 156 = some ([], some (.ireturn, 1, 0, 0, 0)) := rfl
theorem bl_X3_piece_157 : blk bX3_piece 157 = some ([(.iconst (-1), 1, 1, 1, 0)], some (.ireturn, 1, 0, 0, 0)) := rfl
theorem bl_X3_on_0 : blk bX3_on 0 = some ([(.iload_n 1, 1, 0, 0, 0)], some (.invokestatic 117, 3, 11, 1, 0)) := rfl
theorem bl_X3_on_4 : blk bX3_on 4 = some ([], some (.ifCond .eq 15, 3, 0, 0, 0)) := rfl
theorem bl_X3_on_7 : blk bX3_on 7 = some ([(.aload_n 0, 1, 0, 0, 0), (.getfield 10, 3, 2, 0, 0), (.getfield 120, 3, 0, 4, 0), (.iload_n 1, 1, 0, 0, 0), (.iaload, 1, 0, 0, 0)], some (.goto 4, 3, 0, 0, 0)) := rfl
theorem bl_X3_on_19 : blk bX3_on 19 = some ([(.iconst (-1), 1, 1, 1, 0)], none) := rfl
theorem bl_X3_on_20 : blk bX3_on 20 = some ([], some (.ireturn, 1, 0, 0, 0)) := rfl
theorem bl_X3_comes_0 : blk bX3_comes 0 = some ([(.aload_n 0, 1, 0, 0, 0), (.iload_n 1, 1, 0, 0, 0)], some (.invokevirtual 51, 3, 48, 2, 2)) := rfl
theorem bl_X3_comes_5 : blk bX3_comes 5 = some ([(.astore 4, 2, 0, 0, 0), (.aload 4, 2, 0, 0, 0)], some (.ifnull 17, 3, 0, 0, 0)) := rfl
theorem bl_X3_comes_12 : blk bX3_comes 12 = some ([(.iload_n 2, 1, 0, 0, 0)], some (.invokestatic 123, 3, 9, 1, 0)) := rfl
theorem bl_X3_comes_16 : blk bX3_comes 16 = some ([], some (.ifCond .eq 10, 3, 0, 0, 0)) := rfl
theorem bl_X3_comes_19 : blk bX3_comes 19 = some ([(.iload_n 3, 1, 0, 0, 0)], some (.invokestatic 117, 3, 11, 1, 0)) := rfl
theorem bl_X3_comes_23 : blk bX3_comes 23 = some ([], some (.ifCond .ne 5, 3, 0, 0, 0)) := rfl
theorem bl_X3_comes_26 : blk bX3_comes 26 = some ([(.iconst (-1), 1, 1, 1, 0)], some (.ireturn, 1, 0, 0, 0)) := rfl
theorem bl_X3_comes_28 : blk bX3_comes 28 = some ([(.aload 4, 2, 0, 0, 0), (.iconst 1, 1, 1, 0, 0)], some (.invokestatic 55, 3, 49, 2, 0)) := rfl
theorem bl_X3_comes_34 : blk bX3_comes 34 = some ([(.istore 5, 2, 0, 0, 0), (.iload 5, 2, 0, 0, 0)], some (.ifCond .eq 6, 3, 0, 0, 0)) := rfl
theorem bl_X3_comes_41 : blk bX3_comes 41 = some ([(.iload 5, 2, 0, 0, 0)], some (.ireturn, 1, 0, 0, 0)) := rfl
theorem bl_X3_comes_44 : blk bX3_comes 44 = some ([(.aload_n 0, 1, 0, 0, 0), (.getfield 10, 3, 2, 0, 0), (.getfield 126, 3, 0, 5, 0), (.bipush 10, 2, 10, 0, 0)], some (.if_icmp .lt 6, 3, 0, 0, 0)) := rfl
theorem bl_X3_comes_56 : blk bX3_comes 56 = some ([(.bipush (-2), 2, 2, 1, 0)], some (.ireturn, 1, 0, 0, 0)) := rfl
theorem bl_X3_comes_59 : blk bX3_comes 59 = some ([(.aload_n 0, 1, 0, 0, 0), (.getfield 10, 3, 2, 0, 0), (.aload 4, 2, 0, 0, 0), (.getfield 129, 3, 1, 1, 0), (.aload 4, 2, 0, 0, 0), (.getfield 131, 3, 1, 2, 0), (.iload_n 2, 1, 0, 0, 0), (.iload_n 3, 1, 0, 0, 0)], some (.invokevirtual 133, 3, 10, 5, 0)) := rfl
theorem bl_X3_comes_78 : blk bX3_comes 78 = some ([], some (.ifCond .eq 15, 3, 0, 0, 0)) := rfl
theorem bl_X3_comes_81 : blk bX3_comes 81 = some ([(.aload_n 0, 1, 0, 0, 0), (.getfield 10, 3, 2, 0, 0), (.getfield 126, 3, 0, 5, 0), (.iconst 1, 1, 1, 0, 0), (.isub, 1, 0, 0, 0)], some (.goto 5, 3, 0, 0, 0)) := rfl
theorem bl_X3_comes_93 : blk bX3_comes 93 = some ([(.bipush (-3), 2, 3, 1, 0)], none) := rfl
theorem bl_X3_comes_95 : blk bX3_comes 95 = some ([], some (.ireturn, 1, 0, 0, 0)) := rfl
theorem bl_X3_stands_0 : blk bX3_stands 0 = some ([(.aload_n 0, 1, 0, 0, 0), (.getfield 10, 3, 2, 0, 0), (.iload_n 1, 1, 0, 0, 0)], some (.invokevirtual 87, 3, 1, 2, 0)) := rfl
theorem bl_X3_stands_8 : blk bX3_stands 8 = some ([], some (.ifCond .eq 10, 3, 0, 0, 0)) := rfl
theorem bl_X3_stands_11 : blk bX3_stands 11 = some ([(.iload_n 2, 1, 0, 0, 0)], some (.invokestatic 117, 3, 11, 1, 0)) := rfl
theorem bl_X3_stands_15 : blk bX3_stands 15 = some ([], some (.ifCond .ne 5, 3, 0, 0, 0)) := rfl
theorem bl_X3_stands_18 : blk bX3_stands 18 = some ([(.iconst (-1), 1, 1, 1, 0)], some (.ireturn, 1, 0, 0, 0)) := rfl
theorem bl_X3_stands_20 : blk bX3_stands 20 = some ([(.aload_n 0, 1, 0, 0, 0), (.getfield 10, 3, 2, 0, 0), (.iload_n 1, 1, 0, 0, 0)], some (.invokevirtual 100, 3, 4, 2, 0)) := rfl
theorem bl_X3_stands_28 : blk bX3_stands 28 = some ([(.istore_n 3, 1, 0, 0, 0), (.aload_n 0, 1, 0, 0, 0), (.getfield 10, 3, 2, 0, 0), (.iload_n 1, 1, 0, 0, 0), (.iload_n 2, 1, 0, 0, 0)], some (.invokevirtual 137, 3, 13, 3, 0)) := rfl
theorem bl_X3_stands_38 : blk bX3_stands 38 = some ([], some (.ifCond .eq 7, 3, 0, 0, 0)) := rfl
theorem bl_X3_stands_41 : blk bX3_stands 41 = some ([(.iload_n 3, 1, 0, 0, 0)], some (.goto 5, 3, 0, 0, 0)) := rfl
theorem bl_X3_stands_45 : blk bX3_stands 45 = some ([(.bipush (-3), 2, 3, 1, 0)], none) := rfl
theorem bl_X3_stands_47 : blk bX3_stands 47 = some ([], some (.ireturn, 1, 0, 0, 0)) := rfl
theorem bl_X3_takes_0 : blk bX3_takes 0 = some ([(.aload_n 0, 1, 0, 0, 0), (.getfield 10, 3, 2, 0, 0), (.iload_n 1, 1, 0, 0, 0)], some (.invokevirtual 87, 3, 1, 2, 0)) := rfl
theorem bl_X3_takes_8 : blk bX3_takes 8 = some ([], some (.ifCond .ne 5, 3, 0, 0, 0)) := rfl
theorem bl_X3_takes_11 : blk bX3_takes 11 = some ([(.iconst (-1), 1, 1, 1, 0)], some (.ireturn, 1, 0, 0, 0)) := rfl
theorem bl_X3_takes_13 : blk bX3_takes 13 = some ([(.aload_n 0, 1, 0, 0, 0), (.getfield 10, 3, 2, 0, 0), (.iload_n 1, 1, 0, 0, 0)], some (.invokevirtual 100, 3, 4, 2, 0)) := rfl
theorem bl_X3_takes_21 : blk bX3_takes 21 = some ([(.istore_n 2, 1, 0, 0, 0), (.aload_n 0, 1, 0, 0, 0), (.getfield 10, 3, 2, 0, 0), (.iload_n 1, 1, 0, 0, 0)], some (.invokevirtual 141, 3, 12, 2, 0)) := rfl
theorem bl_X3_takes_30 : blk bX3_takes 30 = some ([], some (.ifCond .eq 7, 3, 0, 0, 0)) := rfl
theorem bl_X3_takes_33 : blk bX3_takes 33 = some ([(.iload_n 2, 1, 0, 0, 0)], some (.goto 5, 3, 0, 0, 0)) := rfl
theorem bl_X3_takes_37 : blk bX3_takes 37 = some ([(.bipush (-3), 2, 3, 1, 0)], none) := rfl
theorem bl_X3_takes_39 : blk bX3_takes 39 = some ([], some (.ireturn, 1, 0, 0, 0)) := rfl
theorem bl_X3_turn_0 : blk bX3_turn 0 = some ([(.aload_n 0, 1, 0, 0, 0), (.getfield 10, 3, 2, 0, 0), (.getfield 144, 3, 0, 6, 0), (.istore_n 2, 1, 0, 0, 0), (.aload_n 0, 1, 0, 0, 0), (.getfield 10, 3, 2, 0, 0), (.iload_n 1, 1, 0, 0, 0)], some (.invokevirtual 147, 3, 15, 2, 0)) := rfl
theorem bl_X3_turn_16 : blk bX3_turn 16 = some ([], some (.ifCond .eq 7, 3, 0, 0, 0)) := rfl
theorem bl_X3_turn_19 : blk bX3_turn 19 = some ([(.iload_n 2, 1, 0, 0, 0)], some (.goto 4, 3, 0, 0, 0)) := rfl
theorem bl_X3_turn_23 : blk bX3_turn 23 = some ([(.iconst (-1), 1, 1, 1, 0)], none) := rfl
theorem bl_X3_turn_24 : blk bX3_turn 24 = some ([], some (.ireturn, 1, 0, 0, 0)) := rfl
theorem bl_X3_days_0 : blk bX3_days 0 = some ([(.iload_n 1, 1, 0, 0, 0), (.iconst 1, 1, 1, 0, 0)], some (.if_icmp .lt 9, 3, 0, 0, 0)) := rfl
theorem bl_X3_days_5 : blk bX3_days 5 = some ([(.iload_n 1, 1, 0, 0, 0), (.bipush 60, 2, 60, 0, 0)], some (.if_icmp .le 5, 3, 0, 0, 0)) := rfl
theorem bl_X3_days_11 : blk bX3_days 11 = some ([(.iconst (-1), 1, 1, 1, 0)], some (.ireturn, 1, 0, 0, 0)) := rfl
theorem bl_X3_days_13 : blk bX3_days 13 = some ([(.aload_n 0, 1, 0, 0, 0), (.getfield 10, 3, 2, 0, 0), (.iload_n 1, 1, 0, 0, 0)], some (.invokevirtual 150, 3, 30, 2, 0)) := rfl
theorem bl_X3_days_21 : blk bX3_days 21 = some ([], some (.ifCond .eq 13, 3, 0, 0, 0)) := rfl
theorem bl_X3_days_24 : blk bX3_days 24 = some ([(.aload_n 0, 1, 0, 0, 0), (.getfield 10, 3, 2, 0, 0)], some (.invokevirtual 153, 3, 32, 1, 0)) := rfl
theorem bl_X3_days_31 : blk bX3_days 31 = some ([], some (.goto 5, 3, 0, 0, 0)) := rfl
theorem bl_X3_days_34 : blk bX3_days 34 = some ([(.bipush (-3), 2, 3, 1, 0)], none) := rfl
theorem bl_X3_days_36 : blk bX3_days 36 = some ([], some (.ireturn, 1, 0, 0, 0)) := rfl
theorem bl_X3_lookAhead_0 : blk bX3_lookAhead 0 = some ([(.aload_n 0, 1, 0, 0, 0), (.getfield 33, 3, 2, 5, 0), (.aload_n 0, 1, 0, 0, 0), (.getfield 10, 3, 2, 0, 0)], some (.invokevirtual 66, 3, 0, 2, 0)) := rfl
theorem bl_X3_lookAhead_11 : blk bX3_lookAhead 11 = some ([(.aload_n 0, 1, 0, 0, 0), (.getfield 33, 3, 2, 5, 0), (.iload_n 1, 1, 0, 0, 0)], some (.invokevirtual 201, 3, 31, 2, 0)) := rfl
theorem bl_X3_lookAhead_19 : blk bX3_lookAhead 19 = some ([], some (.return_, 1, 0, 0, 0)) := rfl
theorem bl_X3_then_0 : blk bX3_then 0 = some ([(.iload_n 1, 1, 0, 0, 0)], some (.ifCond .lt 18, 3, 0, 0, 0)) := rfl
theorem bl_X3_then_4 : blk bX3_then 4 = some ([(.iload_n 1, 1, 0, 0, 0), (.bipush 60, 2, 60, 0, 0)], some (.if_icmp .gt 12, 3, 0, 0, 0)) := rfl
theorem bl_X3_then_10 : blk bX3_then 10 = some ([(.iload_n 2, 1, 0, 0, 0)], some (.ifCond .lt 8, 3, 0, 0, 0)) := rfl
theorem bl_X3_then_14 : blk bX3_then 14 = some ([(.iload_n 2, 1, 0, 0, 0), (.iconst 3, 1, 3, 0, 0)], some (.if_icmp .le 5, 3, 0, 0, 0)) := rfl
theorem bl_X3_then_19 : blk bX3_then 19 = some ([(.iconst (-1), 1, 1, 1, 0)], some (.ireturn, 1, 0, 0, 0)) := rfl
theorem bl_X3_then_21 : blk bX3_then 21 = some ([(.aload_n 0, 1, 0, 0, 0), (.iload_n 1, 1, 0, 0, 0)], some (.invokevirtual 156, 3, 59, 2, 2)) := rfl
theorem bl_X3_then_26 : blk bX3_then 26 = some ([(.iload_n 2, 1, 0, 0, 0)], some (.tableswitch 50 0 2 #[25, 33, 41], 25, 0, 0, 0)) := rfl
theorem bl_X3_then_52 : blk bX3_then 52 = some ([(.aload_n 0, 1, 0, 0, 0), (.getfield 33, 3, 2, 5, 0)], some (.invokevirtual 160, 3, 33, 1, 0)) := rfl
theorem bl_X3_then_59 : blk bX3_then 59 = some ([], some (.ireturn, 1, 0, 0, 0)) := rfl
theorem bl_X3_then_60 : blk bX3_then 60 = some ([(.aload_n 0, 1, 0, 0, 0), (.getfield 33, 3, 2, 5, 0), (.getfield 163, 3, 0, 7, 0)], some (.ireturn, 1, 0, 0, 0)) := rfl
theorem bl_X3_then_68 : blk bX3_then 68 = some ([(.aload_n 0, 1, 0, 0, 0), (.getfield 33, 3, 2, 5, 0), (.iconst 0, 1, 0, 0, 0)], some (.invokevirtual 166, 3, 35, 2, 0)) := rfl
theorem bl_X3_then_76 : blk bX3_then 76 = some ([], some (.ireturn, 1, 0, 0, 0)) := rfl
theorem bl_X3_then_77 : blk bX3_then 77 = some ([(.aload_n 0, 1, 0, 0, 0), (.getfield 33, 3, 2, 5, 0), (.iconst 1, 1, 1, 0, 0)], some (.invokevirtual 166, 3, 35, 2, 0)) := rfl
theorem bl_X3_then_85 : blk bX3_then 85 = some ([], some (.ireturn, 1, 0, 0, 0)) := rfl
theorem bl_X3_firstToFall_0 : blk bX3_firstToFall 0 = some ([(.aload_n 0, 1, 0, 0, 0), (.getfield 33, 3, 2, 5, 0), (.aload_n 0, 1, 0, 0, 0), (.getfield 10, 3, 2, 0, 0)], some (.invokevirtual 66, 3, 0, 2, 0)) := rfl
theorem bl_X3_firstToFall_11 : blk bX3_firstToFall 11 = some ([(.iconst 0, 1, 0, 0, 0), (.istore_n 1, 1, 0, 0, 0)], none) := rfl
theorem bl_X3_firstToFall_13 : blk bX3_firstToFall 13 = some ([(.iload_n 1, 1, 0, 0, 0), (.bipush 60, 2, 60, 0, 0)], some (.if_icmp .ge 62, 3, 0, 0, 0)) := rfl
theorem bl_X3_firstToFall_19 : blk bX3_firstToFall 19 = some ([(.aload_n 0, 1, 0, 0, 0), (.getfield 33, 3, 2, 5, 0), (.iconst 0, 1, 0, 0, 0), (.iconst 0, 1, 0, 0, 0)], some (.invokevirtual 175, 3, 29, 3, 0)) := rfl
theorem bl_X3_firstToFall_28 : blk bX3_firstToFall 28 = some ([(.pop, 1, 0, 0, 0), (.iconst 0, 1, 0, 0, 0), (.istore_n 2, 1, 0, 0, 0)], none) := rfl
theorem bl_X3_firstToFall_31 : blk bX3_firstToFall 31 = some ([(.iload_n 2, 1, 0, 0, 0), (.aload_n 0, 1, 0, 0, 0), (.getfield 10, 3, 2, 0, 0), (.getfield 126, 3, 0, 5, 0)], some (.if_icmp .ge 33, 3, 0, 0, 0)) := rfl
theorem bl_X3_firstToFall_42 : blk bX3_firstToFall 42 = some ([(.aload_n 0, 1, 0, 0, 0), (.getfield 10, 3, 2, 0, 0), (.iload_n 2, 1, 0, 0, 0)], some (.invokevirtual 172, 3, 2, 2, 0)) := rfl
theorem bl_X3_firstToFall_50 : blk bX3_firstToFall 50 = some ([], some (.ifCond .eq 16, 3, 0, 0, 0)) := rfl
theorem bl_X3_firstToFall_53 : blk bX3_firstToFall 53 = some ([(.aload_n 0, 1, 0, 0, 0), (.getfield 33, 3, 2, 5, 0), (.iload_n 2, 1, 0, 0, 0)], some (.invokevirtual 172, 3, 2, 2, 0)) := rfl
theorem bl_X3_firstToFall_61 : blk bX3_firstToFall 61 = some ([], some (.ifCond .ne 5, 3, 0, 0, 0)) := rfl
theorem bl_X3_firstToFall_64 : blk bX3_firstToFall 64 = some ([(.iload_n 2, 1, 0, 0, 0)], some (.ireturn, 1, 0, 0, 0)) := rfl
theorem bl_X3_firstToFall_66 : blk bX3_firstToFall 66 = some ([(.iinc 2 1, 3, 1, 0, 0)], some (.goto (-38), 3, 0, 0, 0)) := rfl
theorem bl_X3_firstToFall_72 : blk bX3_firstToFall 72 = some ([(.iinc 1 1, 3, 1, 0, 0)], some (.goto (-62), 3, 0, 0, 0)) := rfl
theorem bl_X3_firstToFall_78 : blk bX3_firstToFall 78 = some ([(.bipush (-4), 2, 4, 1, 0)], some (.ireturn, 1, 0, 0, 0)) := rfl
theorem bl_X3_falls_0 : blk bX3_falls 0 = some ([(.iload_n 1, 1, 0, 0, 0), (.iconst (-1), 1, 1, 1, 0)], some (.if_icmp .ne 8, 3, 0, 0, 0)) := rfl
theorem bl_X3_falls_5 : blk bX3_falls 5 = some ([(.aload_n 0, 1, 0, 0, 0)], some (.invokevirtual 169, 3, 61, 1, 2)) := rfl
theorem bl_X3_falls_9 : blk bX3_falls 9 = some ([], some (.ireturn, 1, 0, 0, 0)) := rfl
theorem bl_X3_falls_10 : blk bX3_falls 10 = some ([(.aload_n 0, 1, 0, 0, 0), (.getfield 10, 3, 2, 0, 0), (.iload_n 1, 1, 0, 0, 0)], some (.invokevirtual 87, 3, 1, 2, 0)) := rfl
theorem bl_X3_falls_18 : blk bX3_falls 18 = some ([], some (.ifCond .ne 5, 3, 0, 0, 0)) := rfl
theorem bl_X3_falls_21 : blk bX3_falls 21 = some ([(.iconst (-1), 1, 1, 1, 0)], some (.ireturn, 1, 0, 0, 0)) := rfl
theorem bl_X3_falls_23 : blk bX3_falls 23 = some ([(.aload_n 0, 1, 0, 0, 0), (.getfield 33, 3, 2, 5, 0), (.aload_n 0, 1, 0, 0, 0), (.getfield 10, 3, 2, 0, 0)], some (.invokevirtual 66, 3, 0, 2, 0)) := rfl
theorem bl_X3_falls_34 : blk bX3_falls 34 = some ([(.iconst 0, 1, 0, 0, 0), (.istore_n 2, 1, 0, 0, 0)], none) := rfl
theorem bl_X3_falls_36 : blk bX3_falls 36 = some ([(.iload_n 2, 1, 0, 0, 0), (.bipush 60, 2, 60, 0, 0)], some (.if_icmp .ge 32, 3, 0, 0, 0)) := rfl
theorem bl_X3_falls_42 : blk bX3_falls 42 = some ([(.aload_n 0, 1, 0, 0, 0), (.getfield 33, 3, 2, 5, 0), (.iload_n 1, 1, 0, 0, 0)], some (.invokevirtual 172, 3, 2, 2, 0)) := rfl
theorem bl_X3_falls_50 : blk bX3_falls 50 = some ([], some (.ifCond .ne 5, 3, 0, 0, 0)) := rfl
theorem bl_X3_falls_53 : blk bX3_falls 53 = some ([(.iload_n 2, 1, 0, 0, 0)], some (.ireturn, 1, 0, 0, 0)) := rfl
theorem bl_X3_falls_55 : blk bX3_falls 55 = some ([(.aload_n 0, 1, 0, 0, 0), (.getfield 33, 3, 2, 5, 0), (.iconst 0, 1, 0, 0, 0), (.iconst 0, 1, 0, 0, 0)], some (.invokevirtual 175, 3, 29, 3, 0)) := rfl
theorem bl_X3_falls_64 : blk bX3_falls 64 = some ([(.pop, 1, 0, 0, 0), (.iinc 2 1, 3, 1, 0, 0)], some (.goto (-32), 3, 0, 0, 0)) := rfl
theorem bl_X3_falls_71 : blk bX3_falls 71 = some ([(.aload_n 0, 1, 0, 0, 0), (.getfield 33, 3, 2, 5, 0), (.iload_n 1, 1, 0, 0, 0)], some (.invokevirtual 172, 3, 2, 2, 0)) := rfl
theorem bl_X3_falls_79 : blk bX3_falls 79 = some ([], some (.ifCond .eq 8, 3, 0, 0, 0)) := rfl
theorem bl_X3_falls_82 : blk bX3_falls 82 = some ([(.bipush (-4), 2, 4, 1, 0)], some (.goto 5, 3, 0, 0, 0)) := rfl
theorem bl_X3_falls_87 : blk bX3_falls 87 = some ([(.bipush 60, 2, 60, 0, 0)], none) := rfl
theorem bl_X3_falls_89 : blk bX3_falls 89 = some ([], some (.ireturn, 1, 0, 0, 0)) := rfl
theorem bl_X3_still_0 : blk bX3_still 0 = some ([(.aload_n 0, 1, 0, 0, 0), (.getfield 33, 3, 2, 5, 0), (.aload_n 0, 1, 0, 0, 0), (.getfield 10, 3, 2, 0, 0)], some (.invokevirtual 66, 3, 0, 2, 0)) := rfl
theorem bl_X3_still_11 : blk bX3_still 11 = some ([(.iconst 0, 1, 0, 0, 0), (.istore_n 1, 1, 0, 0, 0), (.iconst 1, 1, 1, 0, 0), (.istore_n 2, 1, 0, 0, 0)], none) := rfl
theorem bl_X3_still_15 : blk bX3_still 15 = some ([(.iload_n 2, 1, 0, 0, 0), (.bipush 60, 2, 60, 0, 0)], some (.if_icmp .gt 42, 3, 0, 0, 0)) := rfl
theorem bl_X3_still_21 : blk bX3_still 21 = some ([(.aload_n 0, 1, 0, 0, 0), (.getfield 33, 3, 2, 5, 0), (.iconst 0, 1, 0, 0, 0), (.iconst 0, 1, 0, 0, 0)], some (.invokevirtual 175, 3, 29, 3, 0)) := rfl
theorem bl_X3_still_30 : blk bX3_still 30 = some ([], some (.ifCond .eq 5, 3, 0, 0, 0)) := rfl
theorem bl_X3_still_33 : blk bX3_still 33 = some ([(.iload_n 2, 1, 0, 0, 0), (.istore_n 1, 1, 0, 0, 0)], none) := rfl
theorem bl_X3_still_35 : blk bX3_still 35 = some ([(.iload_n 1, 1, 0, 0, 0), (.bipush 40, 2, 40, 0, 0)], some (.if_icmp .le 6, 3, 0, 0, 0)) := rfl
theorem bl_X3_still_41 : blk bX3_still 41 = some ([(.bipush (-4), 2, 4, 1, 0)], some (.ireturn, 1, 0, 0, 0)) := rfl
theorem bl_X3_still_44 : blk bX3_still 44 = some ([(.iload_n 2, 1, 0, 0, 0), (.iload_n 1, 1, 0, 0, 0), (.isub, 1, 0, 0, 0), (.bipush 20, 2, 20, 0, 0)], some (.if_icmp .ne 5, 3, 0, 0, 0)) := rfl
theorem bl_X3_still_52 : blk bX3_still 52 = some ([(.iload_n 1, 1, 0, 0, 0)], some (.ireturn, 1, 0, 0, 0)) := rfl
theorem bl_X3_still_54 : blk bX3_still 54 = some ([(.iinc 2 1, 3, 1, 0, 0)], some (.goto (-42), 3, 0, 0, 0)) := rfl
theorem bl_X3_still_60 : blk bX3_still 60 = some ([(.bipush (-4), 2, 4, 1, 0)], some (.ireturn, 1, 0, 0, 0)) := rfl
theorem bl_X3_next_0 : blk bX3_next 0 = some ([(.iload_n 1, 1, 0, 0, 0)], some (.ifCond .lt 8, 3, 0, 0, 0)) := rfl
theorem bl_X3_next_4 : blk bX3_next 4 = some ([(.iload_n 1, 1, 0, 0, 0), (.iconst 2, 1, 2, 0, 0)], some (.if_icmp .le 5, 3, 0, 0, 0)) := rfl
theorem bl_X3_next_9 : blk bX3_next 9 = some ([(.iconst (-1), 1, 1, 1, 0)], some (.ireturn, 1, 0, 0, 0)) := rfl
theorem bl_X3_next_11 : blk bX3_next 11 = some ([(.aload_n 0, 1, 0, 0, 0), (.getfield 10, 3, 2, 0, 0), (.getfield 111, 3, 0, 8, 0), (.iconst 1, 1, 1, 0, 0), (.iadd, 1, 0, 0, 0), (.istore_n 2, 1, 0, 0, 0), (.aload_n 0, 1, 0, 0, 0), (.getfield 10, 3, 2, 0, 0), (.iload_n 2, 1, 0, 0, 0), (.iconst 0, 1, 0, 0, 0), (.iconst 0, 1, 0, 0, 0)], some (.invokevirtual 179, 3, 28, 4, 0)) := rfl
theorem bl_X3_next_31 : blk bX3_next 31 = some ([(.istore_n 3, 1, 0, 0, 0), (.iload_n 1, 1, 0, 0, 0)], some (.ifCond .ne 5, 3, 0, 0, 0)) := rfl
theorem bl_X3_next_36 : blk bX3_next 36 = some ([(.iload_n 3, 1, 0, 0, 0)], some (.ireturn, 1, 0, 0, 0)) := rfl
theorem bl_X3_next_38 : blk bX3_next 38 = some ([(.iload_n 1, 1, 0, 0, 0), (.iconst 1, 1, 1, 0, 0)], some (.if_icmp .ne 13, 3, 0, 0, 0)) := rfl
theorem bl_X3_next_43 : blk bX3_next 43 = some ([(.aload_n 0, 1, 0, 0, 0), (.getfield 10, 3, 2, 0, 0), (.iload_n 3, 1, 0, 0, 0), (.iload_n 2, 1, 0, 0, 0)], some (.invokevirtual 114, 3, 23, 3, 0)) := rfl
theorem bl_X3_next_52 : blk bX3_next 52 = some ([], some (.ireturn, 1, 0, 0, 0)) := rfl
theorem bl_X3_next_53 : blk bX3_next 53 = some ([(.aload_n 0, 1, 0, 0, 0), (.getfield 10, 3, 2, 0, 0), (.iload_n 3, 1, 0, 0, 0), (.iconst 0, 1, 0, 0, 0)], some (.invokevirtual 183, 3, 25, 3, 0)) := rfl
theorem bl_X3_next_62 : blk bX3_next 62 = some ([], some (.invokestatic 187, 3, 26, 1, 0)) := rfl
theorem bl_X3_next_65 : blk bX3_next 65 = some ([], some (.ireturn, 1, 0, 0, 0)) := rfl
theorem bl_X3_heard_0 : blk bX3_heard 0 = some ([(.aload_n 0, 1, 0, 0, 0), (.getfield 10, 3, 2, 0, 0), (.iload_n 1, 1, 0, 0, 0)], some (.invokevirtual 87, 3, 1, 2, 0)) := rfl
theorem bl_X3_heard_8 : blk bX3_heard 8 = some ([], some (.ifCond .ne 5, 3, 0, 0, 0)) := rfl
theorem bl_X3_heard_11 : blk bX3_heard 11 = some ([(.iconst (-1), 1, 1, 1, 0)], some (.ireturn, 1, 0, 0, 0)) := rfl
theorem bl_X3_heard_13 : blk bX3_heard 13 = some ([(.aload_n 0, 1, 0, 0, 0), (.getfield 10, 3, 2, 0, 0), (.iload_n 1, 1, 0, 0, 0)], some (.invokevirtual 172, 3, 2, 2, 0)) := rfl
theorem bl_X3_heard_21 : blk bX3_heard 21 = some ([], some (.ifCond .eq 15, 3, 0, 0, 0)) := rfl
theorem bl_X3_heard_24 : blk bX3_heard 24 = some ([(.aload_n 0, 1, 0, 0, 0), (.getfield 10, 3, 2, 0, 0), (.iload_n 1, 1, 0, 0, 0), (.iconst 0, 1, 0, 0, 0)], some (.invokevirtual 183, 3, 25, 3, 0)) := rfl
theorem bl_X3_heard_33 : blk bX3_heard 33 = some ([], some (.goto 5, 3, 0, 0, 0)) := rfl
theorem bl_X3_heard_36 : blk bX3_heard 36 = some ([(.bipush (-3), 2, 3, 1, 0)], none) := rfl
theorem bl_X3_heard_38 : blk bX3_heard 38 = some ([], some (.ireturn, 1, 0, 0, 0)) := rfl
theorem bl_X3_danger_0 : blk bX3_danger 0 = some ([(.iload_n 1, 1, 0, 0, 0)], some (.invokestatic 123, 3, 9, 1, 0)) := rfl
theorem bl_X3_danger_4 : blk bX3_danger 4 = some ([], some (.ifCond .ne 5, 3, 0, 0, 0)) := rfl
theorem bl_X3_danger_7 : blk bX3_danger 7 = some ([(.iconst (-1), 1, 1, 1, 0)], some (.ireturn, 1, 0, 0, 0)) := rfl
theorem bl_X3_danger_9 : blk bX3_danger 9 = some ([(.iconst 0, 1, 0, 0, 0), (.istore_n 2, 1, 0, 0, 0), (.iconst 0, 1, 0, 0, 0), (.istore_n 3, 1, 0, 0, 0)], none) := rfl
theorem bl_X3_danger_13 : blk bX3_danger 13 = some ([(.iload_n 3, 1, 0, 0, 0), (.aload_n 0, 1, 0, 0, 0), (.getfield 10, 3, 2, 0, 0), (.getfield 126, 3, 0, 5, 0)], some (.if_icmp .ge 75, 3, 0, 0, 0)) := rfl
theorem bl_X3_danger_24 : blk bX3_danger 24 = some ([(.aload_n 0, 1, 0, 0, 0), (.getfield 10, 3, 2, 0, 0), (.iload_n 3, 1, 0, 0, 0), (.iconst 1, 1, 1, 0, 0), (.iload_n 1, 1, 0, 0, 0), (.isub, 1, 0, 0, 0)], some (.invokevirtual 192, 3, 3, 3, 0)) := rfl
theorem bl_X3_danger_35 : blk bX3_danger 35 = some ([], some (.ifCond .eq 23, 3, 0, 0, 0)) := rfl
theorem bl_X3_danger_38 : blk bX3_danger 38 = some ([(.aload_n 0, 1, 0, 0, 0), (.getfield 10, 3, 2, 0, 0), (.iload_n 3, 1, 0, 0, 0), (.aload_n 0, 1, 0, 0, 0), (.getfield 10, 3, 2, 0, 0), (.getfield 111, 3, 0, 8, 0), (.iconst 1, 1, 1, 0, 0), (.iadd, 1, 0, 0, 0)], some (.invokevirtual 114, 3, 23, 3, 0)) := rfl
theorem bl_X3_danger_55 : blk bX3_danger 55 = some ([], some (.goto 5, 3, 0, 0, 0)) := rfl
theorem bl_X3_danger_58 : blk bX3_danger 58 = some ([(.bipush (-4), 2, 4, 1, 0)], none) := rfl
theorem bl_X3_danger_60 : blk bX3_danger 60 = some ([(.istore 4, 2, 0, 0, 0), (.aload_n 0, 1, 0, 0, 0), (.getfield 10, 3, 2, 0, 0), (.iload 4, 2, 0, 0, 0), (.iload_n 1, 1, 0, 0, 0)], some (.invokevirtual 195, 3, 6, 3, 0)) := rfl
theorem bl_X3_danger_72 : blk bX3_danger 72 = some ([], some (.ifCond .eq 18, 3, 0, 0, 0)) := rfl
theorem bl_X3_danger_75 : blk bX3_danger 75 = some ([(.iload_n 2, 1, 0, 0, 0), (.iconst 1, 1, 1, 0, 0), (.aload_n 0, 1, 0, 0, 0), (.getfield 10, 3, 2, 0, 0), (.getfield 120, 3, 0, 4, 0), (.iload 4, 2, 0, 0, 0), (.iaload, 1, 0, 0, 0), (.ishl, 1, 0, 0, 0), (.ior, 1, 0, 0, 0), (.istore_n 2, 1, 0, 0, 0)], none) := rfl
theorem bl_X3_danger_90 : blk bX3_danger 90 = some ([(.iinc 3 1, 3, 1, 0, 0)], some (.goto (-80), 3, 0, 0, 0)) := rfl
theorem bl_X3_danger_96 : blk bX3_danger 96 = some ([(.iload_n 2, 1, 0, 0, 0)], some (.ireturn, 1, 0, 0, 0)) := rfl
theorem bl_X3_placeInMind_0 : blk bX3_placeInMind 0 = some ([(.aload_n 0, 1, 0, 0, 0), (.getfield 33, 3, 2, 5, 0), (.aload_n 0, 1, 0, 0, 0), (.getfield 10, 3, 2, 0, 0)], some (.invokevirtual 66, 3, 0, 2, 0)) := rfl
theorem bl_X3_placeInMind_11 : blk bX3_placeInMind 11 = some ([(.aload_n 0, 1, 0, 0, 0), (.getfield 33, 3, 2, 5, 0), (.iload_n 1, 1, 0, 0, 0), (.iload_n 2, 1, 0, 0, 0)], some (.invokevirtual 137, 3, 13, 3, 0)) := rfl
theorem bl_X3_placeInMind_20 : blk bX3_placeInMind 20 = some ([], some (.ireturn, 1, 1, 0, 0)) := rfl
theorem bl_X3_stand_0 : blk bX3_stand 0 = some ([(.aload_n 0, 1, 0, 0, 0), (.getfield 10, 3, 2, 0, 0), (.iload_n 1, 1, 0, 0, 0)], some (.invokevirtual 87, 3, 1, 2, 0)) := rfl
theorem bl_X3_stand_8 : blk bX3_stand 8 = some ([], some (.ifCond .eq 22, 3, 0, 0, 0)) := rfl
theorem bl_X3_stand_11 : blk bX3_stand 11 = some ([(.iload_n 2, 1, 0, 0, 0)], some (.ifCond .lt 18, 3, 0, 0, 0)) := rfl
theorem bl_X3_stand_15 : blk bX3_stand 15 = some ([(.iload_n 2, 1, 0, 0, 0), (.bipush 20, 2, 20, 0, 0)], some (.if_icmp .gt 12, 3, 0, 0, 0)) := rfl
theorem bl_X3_stand_21 : blk bX3_stand 21 = some ([(.iload_n 3, 1, 0, 0, 0)], some (.ifCond .lt 8, 3, 0, 0, 0)) := rfl
theorem bl_X3_stand_25 : blk bX3_stand 25 = some ([(.iload_n 3, 1, 0, 0, 0), (.iconst 1, 1, 1, 0, 0)], some (.if_icmp .le 5, 3, 0, 0, 0)) := rfl
theorem bl_X3_stand_30 : blk bX3_stand 30 = some ([(.iconst (-1), 1, 1, 1, 0)], some (.ireturn, 1, 0, 0, 0)) := rfl
theorem bl_X3_stand_32 : blk bX3_stand 32 = some ([(.aload_n 0, 1, 0, 0, 0), (.getfield 10, 3, 2, 0, 0), (.iload_n 1, 1, 0, 0, 0)], some (.invokevirtual 172, 3, 2, 2, 0)) := rfl
theorem bl_X3_stand_40 : blk bX3_stand 40 = some ([], some (.ifCond .ne 6, 3, 0, 0, 0)) := rfl
theorem bl_X3_stand_43 : blk bX3_stand 43 = some ([(.bipush (-3), 2, 3, 1, 0)], some (.ireturn, 1, 0, 0, 0)) := rfl
theorem bl_X3_stand_46 : blk bX3_stand 46 = some ([(.bipush (-4), 2, 4, 1, 0), (.istore 4, 2, 0, 0, 0), (.iconst 0, 1, 0, 0, 0), (.istore 5, 2, 0, 0, 0), (.iconst 0, 1, 0, 0, 0), (.istore 6, 2, 0, 0, 0)], none) := rfl
theorem bl_X3_stand_56 : blk bX3_stand 56 = some ([(.iload 6, 2, 0, 0, 0), (.bipush 36, 2, 36, 0, 0)], some (.if_icmp .ge 86, 3, 0, 0, 0)) := rfl
theorem bl_X3_stand_63 : blk bX3_stand 63 = some ([(.aload_n 0, 1, 0, 0, 0), (.iload_n 1, 1, 0, 0, 0), (.iload 6, 2, 0, 0, 0)], some (.invokevirtual 198, 3, 67, 3, 2)) := rfl
theorem bl_X3_stand_70 : blk bX3_stand 70 = some ([], some (.ifCond .eq 70, 3, 0, 0, 0)) := rfl
theorem bl_X3_stand_73 : blk bX3_stand 73 = some ([(.aload_n 0, 1, 0, 0, 0), (.getfield 33, 3, 2, 5, 0), (.iload_n 2, 1, 0, 0, 0)], some (.invokevirtual 201, 3, 31, 2, 0)) := rfl
theorem bl_X3_stand_81 : blk bX3_stand 81 = some ([(.aload_n 0, 1, 0, 0, 0), (.getfield 33, 3, 2, 5, 0), (.aload_n 0, 1, 0, 0, 0), (.getfield 10, 3, 2, 0, 0), (.getfield 97, 3, 0, 2, 0), (.iload_n 1, 1, 0, 0, 0), (.iaload, 1, 0, 0, 0)], some (.invokevirtual 166, 3, 35, 2, 0)) := rfl
theorem bl_X3_stand_97 : blk bX3_stand 97 = some ([(.aload_n 0, 1, 0, 0, 0), (.getfield 33, 3, 2, 5, 0), (.iconst 1, 1, 1, 0, 0), (.aload_n 0, 1, 0, 0, 0), (.getfield 10, 3, 2, 0, 0), (.getfield 97, 3, 0, 2, 0), (.iload_n 1, 1, 0, 0, 0), (.iaload, 1, 0, 0, 0), (.isub, 1, 0, 0, 0)], some (.invokevirtual 166, 3, 35, 2, 0)) := rfl
theorem bl_X3_stand_115 : blk bX3_stand 115 = some ([(.isub, 1, 0, 0, 0), (.istore 7, 2, 0, 0, 0), (.iload 4, 2, 0, 0, 0), (.bipush (-4), 2, 4, 1, 0)], some (.if_icmp .eq 10, 3, 0, 0, 0)) := rfl
theorem bl_X3_stand_125 : blk bX3_stand 125 = some ([(.iload 7, 2, 0, 0, 0), (.iload 5, 2, 0, 0, 0)], some (.if_icmp .le 11, 3, 0, 0, 0)) := rfl
theorem bl_X3_stand_132 : blk bX3_stand 132 = some ([(.iload 6, 2, 0, 0, 0), (.istore 4, 2, 0, 0, 0), (.iload 7, 2, 0, 0, 0), (.istore 5, 2, 0, 0, 0)], none) := rfl
theorem bl_X3_stand_140 : blk bX3_stand 140 = some ([(.iinc 6 1, 3, 1, 0, 0)], some (.goto (-87), 3, 0, 0, 0)) := rfl
theorem bl_X3_stand_146 : blk bX3_stand 146 = some ([(.iload_n 3, 1, 0, 0, 0)], some (.ifCond .ne 8, 3, 0, 0, 0)) := rfl
theorem bl_X3_stand_150 : blk bX3_stand 150 = some ([(.iload 4, 2, 0, 0, 0)], some (.goto 8, 3, 0, 0, 0)) := rfl
theorem bl_X3_stand_155 : blk bX3_stand 155 = some ([(.iload 5, 2, 0, 0, 0), (.bipush 100, 2, 100, 0, 0), (.iadd, 1, 0, 0, 0)], none) := rfl
theorem bl_X3_stand_160 : blk bX3_stand 160 = some ([], some (.ireturn, 1, 0, 0, 0)) := rfl
theorem bl_X3_off_0 : blk bX3_off 0 = some ([(.iload_n 1, 1, 0, 0, 0)], some (.ifCond .lt 9, 3, 0, 0, 0)) := rfl
theorem bl_X3_off_4 : blk bX3_off 4 = some ([(.iload_n 1, 1, 0, 0, 0), (.bipush 30, 2, 30, 0, 0)], some (.if_icmp .le 5, 3, 0, 0, 0)) := rfl
theorem bl_X3_off_10 : blk bX3_off 10 = some ([(.iconst (-1), 1, 1, 1, 0)], some (.ireturn, 1, 0, 0, 0)) := rfl
theorem bl_X3_off_12 : blk bX3_off 12 = some ([(.aload_n 0, 1, 0, 0, 0), (.getfield 36, 3, 2, 6, 0), (.aload_n 0, 1, 0, 0, 0), (.getfield 10, 3, 2, 0, 0)], some (.invokevirtual 66, 3, 0, 2, 0)) := rfl
theorem bl_X3_off_23 : blk bX3_off 23 = some ([(.aload_n 0, 1, 0, 0, 0), (.getfield 36, 3, 2, 6, 0), (.iload_n 1, 1, 0, 0, 0)], some (.invokevirtual 201, 3, 31, 2, 0)) := rfl
theorem bl_X3_off_31 : blk bX3_off 31 = some ([(.bipush (-4), 2, 4, 1, 0), (.istore_n 2, 1, 0, 0, 0), (.iconst 0, 1, 0, 0, 0), (.istore_n 3, 1, 0, 0, 0), (.iconst 0, 1, 0, 0, 0), (.istore 4, 2, 0, 0, 0)], none) := rfl
theorem bl_X3_off_39 : blk bX3_off 39 = some ([(.iload 4, 2, 0, 0, 0), (.aload_n 0, 1, 0, 0, 0), (.getfield 10, 3, 2, 0, 0), (.getfield 126, 3, 0, 5, 0)], some (.if_icmp .ge 77, 3, 0, 0, 0)) := rfl
theorem bl_X3_off_51 : blk bX3_off 51 = some ([(.aload_n 0, 1, 0, 0, 0), (.getfield 33, 3, 2, 5, 0), (.aload_n 0, 1, 0, 0, 0), (.getfield 10, 3, 2, 0, 0)], some (.invokevirtual 66, 3, 0, 2, 0)) := rfl
theorem bl_X3_off_62 : blk bX3_off 62 = some ([(.aload_n 0, 1, 0, 0, 0), (.getfield 33, 3, 2, 5, 0), (.iload 4, 2, 0, 0, 0)], some (.invokevirtual 141, 3, 12, 2, 0)) := rfl
theorem bl_X3_off_71 : blk bX3_off 71 = some ([], some (.ifCond .eq 48, 3, 0, 0, 0)) := rfl
theorem bl_X3_off_74 : blk bX3_off 74 = some ([(.aload_n 0, 1, 0, 0, 0), (.getfield 33, 3, 2, 5, 0), (.iload_n 1, 1, 0, 0, 0)], some (.invokevirtual 201, 3, 31, 2, 0)) := rfl
theorem bl_X3_off_82 : blk bX3_off 82 = some ([(.aload_n 0, 1, 0, 0, 0), (.getfield 33, 3, 2, 5, 0), (.iload 4, 2, 0, 0, 0)], some (.invokevirtual 204, 3, 36, 2, 0)) := rfl
theorem bl_X3_off_91 : blk bX3_off 91 = some ([(.istore 5, 2, 0, 0, 0), (.iload 5, 2, 0, 0, 0), (.aload_n 0, 1, 0, 0, 0), (.getfield 36, 3, 2, 6, 0), (.iload 4, 2, 0, 0, 0)], some (.invokevirtual 204, 3, 36, 2, 0)) := rfl
theorem bl_X3_off_104 : blk bX3_off 104 = some ([], some (.if_icmp .le 15, 3, 0, 0, 0)) := rfl
theorem bl_X3_off_107 : blk bX3_off 107 = some ([(.iload 5, 2, 0, 0, 0), (.iload_n 3, 1, 0, 0, 0)], some (.if_icmp .le 9, 3, 0, 0, 0)) := rfl
theorem bl_X3_off_113 : blk bX3_off 113 = some ([(.iload 4, 2, 0, 0, 0), (.istore_n 2, 1, 0, 0, 0), (.iload 5, 2, 0, 0, 0), (.istore_n 3, 1, 0, 0, 0)], none) := rfl
theorem bl_X3_off_119 : blk bX3_off 119 = some ([(.iinc 4 1, 3, 1, 0, 0)], some (.goto (-83), 3, 0, 0, 0)) := rfl
theorem bl_X3_off_125 : blk bX3_off 125 = some ([(.iload_n 2, 1, 0, 0, 0)], some (.ireturn, 1, 0, 0, 0)) := rfl
theorem bl_X3_side_0 : blk bX3_side 0 = some ([(.iload_n 1, 1, 0, 0, 0)], some (.invokestatic 123, 3, 9, 1, 0)) := rfl
theorem bl_X3_side_4 : blk bX3_side 4 = some ([], some (.ifCond .ne 5, 3, 0, 0, 0)) := rfl
theorem bl_X3_side_7 : blk bX3_side 7 = some ([(.iconst (-1), 1, 1, 1, 0)], some (.ireturn, 1, 0, 0, 0)) := rfl
theorem bl_X3_side_9 : blk bX3_side 9 = some ([(.iload_n 2, 1, 0, 0, 0)], some (.tableswitch 66 0 3 #[30, 39, 48, 57], 30, 0, 0, 0)) := rfl
theorem bl_X3_side_40 : blk bX3_side 40 = some ([(.aload_n 0, 1, 0, 0, 0), (.getfield 10, 3, 2, 0, 0), (.iload_n 1, 1, 0, 0, 0)], some (.invokevirtual 213, 3, 38, 2, 0)) := rfl
theorem bl_X3_side_48 : blk bX3_side 48 = some ([], some (.ireturn, 1, 0, 0, 0)) := rfl
theorem bl_X3_side_49 : blk bX3_side 49 = some ([(.aload_n 0, 1, 0, 0, 0), (.getfield 10, 3, 2, 0, 0), (.iload_n 1, 1, 0, 0, 0)], some (.invokevirtual 166, 3, 35, 2, 0)) := rfl
theorem bl_X3_side_57 : blk bX3_side 57 = some ([], some (.ireturn, 1, 0, 0, 0)) := rfl
theorem bl_X3_side_58 : blk bX3_side 58 = some ([(.aload_n 0, 1, 0, 0, 0), (.getfield 10, 3, 2, 0, 0), (.iload_n 1, 1, 0, 0, 0)], some (.invokevirtual 216, 3, 39, 2, 0)) := rfl
theorem bl_X3_side_66 : blk bX3_side 66 = some ([], some (.ireturn, 1, 0, 0, 0)) := rfl
theorem bl_X3_side_67 : blk bX3_side 67 = some ([(.aload_n 0, 1, 0, 0, 0), (.getfield 10, 3, 2, 0, 0), (.iload_n 1, 1, 0, 0, 0)], some (.invokevirtual 219, 3, 27, 2, 0)) := rfl
theorem bl_X3_side_75 : blk bX3_side 75 = some ([], some (.ireturn, 1, 0, 0, 0)) := rfl
theorem bl_X3_side_76 : blk bX3_side 76 = some ([(.iconst (-1), 1, 1, 1, 0)], some (.ireturn, 1, 0, 0, 0)) := rfl
theorem bl_X3_free_0 : blk bX3_free 0 = some ([(.iload_n 1, 1, 0, 0, 0)], some (.tableswitch 63 0 2 #[27, 38, 46], 27, 0, 0, 0)) := rfl
theorem bl_X3_free_28 : blk bX3_free 28 = some ([(.bipush 36, 2, 36, 0, 0), (.aload_n 0, 1, 0, 0, 0), (.getfield 10, 3, 2, 0, 0)], some (.invokevirtual 153, 3, 32, 1, 0)) := rfl
theorem bl_X3_free_37 : blk bX3_free 37 = some ([(.isub, 1, 0, 0, 0)], some (.ireturn, 1, 0, 0, 0)) := rfl
theorem bl_X3_free_39 : blk bX3_free 39 = some ([(.aload_n 0, 1, 0, 0, 0), (.getfield 10, 3, 2, 0, 0)], some (.invokevirtual 222, 3, 40, 1, 0)) := rfl
theorem bl_X3_free_46 : blk bX3_free 46 = some ([], some (.ireturn, 1, 0, 0, 0)) := rfl
theorem bl_X3_free_47 : blk bX3_free 47 = some ([(.aload_n 0, 1, 0, 0, 0), (.getfield 10, 3, 2, 0, 0), (.aload_n 0, 1, 0, 0, 0), (.getfield 10, 3, 2, 0, 0), (.getfield 111, 3, 0, 8, 0), (.iconst 1, 1, 1, 0, 0), (.iadd, 1, 0, 0, 0)], some (.invokevirtual 225, 3, 41, 2, 0)) := rfl
theorem bl_X3_free_63 : blk bX3_free 63 = some ([], some (.ireturn, 1, 0, 0, 0)) := rfl
theorem bl_X3_free_64 : blk bX3_free 64 = some ([(.iconst (-1), 1, 1, 1, 0)], some (.ireturn, 1, 0, 0, 0)) := rfl
theorem bl_X3_image_0 : blk bX3_image 0 = some ([(.aload_n 0, 1, 0, 0, 0), (.getfield 16, 3, 2, 1, 0), (.aload_n 0, 1, 0, 0, 0), (.getfield 10, 3, 2, 0, 0)], some (.invokevirtual 66, 3, 0, 2, 0)) := rfl
theorem bl_X3_image_11 : blk bX3_image 11 = some ([(.aload_n 0, 1, 0, 0, 0), (.iconst 1, 1, 1, 0, 0), (.putfield 19, 3, 2, 2, 0), (.aload_n 0, 1, 0, 0, 0), (.getfield 10, 3, 2, 0, 0), (.getfield 111, 3, 0, 8, 0)], some (.ireturn, 1, 0, 0, 0)) := rfl
theorem bl_X3_restore_0 : blk bX3_restore 0 = some ([(.aload_n 0, 1, 0, 0, 0), (.getfield 19, 3, 2, 2, 0)], some (.ifCond .ne 6, 3, 0, 0, 0)) := rfl
theorem bl_X3_restore_7 : blk bX3_restore 7 = some ([(.bipush (-3), 2, 3, 1, 0)], some (.ireturn, 1, 0, 0, 0)) := rfl
theorem bl_X3_restore_10 : blk bX3_restore 10 = some ([(.aload_n 0, 1, 0, 0, 0), (.getfield 10, 3, 2, 0, 0), (.aload_n 0, 1, 0, 0, 0), (.getfield 16, 3, 2, 1, 0)], some (.invokevirtual 66, 3, 0, 2, 0)) := rfl
theorem bl_X3_restore_21 : blk bX3_restore 21 = some ([(.aload_n 0, 1, 0, 0, 0), (.getfield 10, 3, 2, 0, 0), (.getfield 111, 3, 0, 8, 0)], some (.ireturn, 1, 0, 0, 0)) := rfl
theorem bl_X3_count_0 : blk bX3_count 0 = some ([(.iload_n 1, 1, 0, 0, 0)], some (.tableswitch 75 0 4 #[35, 43, 51, 59, 67], 35, 0, 0, 0)) := rfl
theorem bl_X3_count_36 : blk bX3_count 36 = some ([(.aload_n 0, 1, 0, 0, 0), (.getfield 10, 3, 2, 0, 0), (.getfield 126, 3, 0, 5, 0)], some (.ireturn, 1, 0, 0, 0)) := rfl
theorem bl_X3_count_44 : blk bX3_count 44 = some ([(.aload_n 0, 1, 0, 0, 0), (.getfield 10, 3, 2, 0, 0), (.getfield 111, 3, 0, 8, 0)], some (.ireturn, 1, 0, 0, 0)) := rfl
theorem bl_X3_count_52 : blk bX3_count 52 = some ([(.aload_n 0, 1, 0, 0, 0), (.getfield 10, 3, 2, 0, 0), (.getfield 144, 3, 0, 6, 0)], some (.ireturn, 1, 0, 0, 0)) := rfl
theorem bl_X3_count_60 : blk bX3_count 60 = some ([(.aload_n 0, 1, 0, 0, 0), (.getfield 10, 3, 2, 0, 0), (.getfield 163, 3, 0, 7, 0)], some (.ireturn, 1, 0, 0, 0)) := rfl
theorem bl_X3_count_68 : blk bX3_count 68 = some ([(.aload_n 0, 1, 0, 0, 0), (.getfield 10, 3, 2, 0, 0)], some (.invokevirtual 160, 3, 33, 1, 0)) := rfl
theorem bl_X3_count_75 : blk bX3_count 75 = some ([], some (.ireturn, 1, 0, 0, 0)) := rfl
theorem bl_X3_count_76 : blk bX3_count 76 = some ([(.iconst (-1), 1, 1, 1, 0)], some (.ireturn, 1, 0, 0, 0)) := rfl
theorem bl_X3_keep_0 : blk bX3_keep 0 = some ([(.aload_n 0, 1, 0, 0, 0), (.iload_n 1, 1, 0, 0, 0)], some (.invokevirtual 51, 3, 48, 2, 2)) := rfl
theorem bl_X3_keep_5 : blk bX3_keep 5 = some ([(.astore 5, 2, 0, 0, 0), (.aload 5, 2, 0, 0, 0)], some (.ifnull 12, 3, 0, 0, 0)) := rfl
theorem bl_X3_keep_12 : blk bX3_keep 12 = some ([(.iload_n 2, 1, 0, 0, 0)], some (.ifCond .lt 8, 3, 0, 0, 0)) := rfl
theorem bl_X3_keep_16 : blk bX3_keep 16 = some ([(.iload_n 2, 1, 0, 0, 0), (.iconst 1, 1, 1, 0, 0)], some (.if_icmp .le 5, 3, 0, 0, 0)) := rfl
theorem bl_X3_keep_21 : blk bX3_keep 21 = some ([(.iconst (-1), 1, 1, 1, 0)], some (.ireturn, 1, 0, 0, 0)) := rfl
theorem bl_X3_keep_23 : blk bX3_keep 23 = some ([(.iload_n 2, 1, 0, 0, 0)], some (.ifCond .ne 11, 3, 0, 0, 0)) := rfl
theorem bl_X3_keep_27 : blk bX3_keep 27 = some ([(.aload 5, 2, 0, 0, 0), (.iconst 0, 1, 0, 0, 0), (.putfield 261, 3, 1, 0, 0), (.iconst 0, 1, 0, 0, 0)], some (.ireturn, 1, 0, 0, 0)) := rfl
theorem bl_X3_keep_35 : blk bX3_keep 35 = some ([(.iload_n 3, 1, 0, 0, 0)], some (.invokestatic 264, 3, 7, 1, 0)) := rfl
theorem bl_X3_keep_39 : blk bX3_keep 39 = some ([], some (.ifCond .eq 11, 3, 0, 0, 0)) := rfl
theorem bl_X3_keep_42 : blk bX3_keep 42 = some ([(.iload 4, 2, 0, 0, 0)], some (.invokestatic 267, 3, 8, 1, 0)) := rfl
theorem bl_X3_keep_47 : blk bX3_keep 47 = some ([], some (.ifCond .ne 5, 3, 0, 0, 0)) := rfl
theorem bl_X3_keep_50 : blk bX3_keep 50 = some ([(.iconst (-1), 1, 1, 1, 0)], some (.ireturn, 1, 0, 0, 0)) := rfl
theorem bl_X3_keep_52 : blk bX3_keep 52 = some ([(.aload 5, 2, 0, 0, 0), (.iconst 1, 1, 1, 0, 0), (.putfield 261, 3, 1, 0, 0), (.aload 5, 2, 0, 0, 0), (.iload_n 3, 1, 0, 0, 0), (.putfield 129, 3, 1, 1, 0), (.aload 5, 2, 0, 0, 0), (.iload 4, 2, 0, 0, 0), (.putfield 131, 3, 1, 2, 0), (.iconst 0, 1, 0, 0, 0)], some (.ireturn, 1, 0, 0, 0)) := rfl
theorem bl_J7_fill_53178_0 : blk bJ7_fill_53178 0 = some ([(.iconst 0, 1, 0, 0, 0), (.istore_n 2, 1, 0, 0, 0), (.aload_n 0, 1, 0, 0, 0), (.arraylength, 1, 0, 0, 0), (.istore_n 3, 1, 0, 0, 0)], none) := rfl
theorem bl_J7_fill_53178_5 : blk bJ7_fill_53178 5 = some ([(.iload_n 2, 1, 0, 0, 0), (.iload_n 3, 1, 0, 0, 0)], some (.if_icmp .ge 13, 3, 0, 0, 0)) := rfl
theorem bl_J7_fill_53178_10 : blk bJ7_fill_53178 10 = some ([(.aload_n 0, 1, 0, 0, 0), (.iload_n 2, 1, 0, 0, 0), (.iload_n 1, 1, 0, 0, 0), (.iastore, 1, 0, 0, 0), (.iinc 2 1, 3, 1, 0, 0)], some (.goto (-12), 3, 0, 0, 0)) := rfl
theorem bl_J7_fill_53178_20 : blk bJ7_fill_53178 20 = some ([], some (.return_, 1, 0, 0, 0)) := rfl
theorem bl_L_cell_0 : blk bL_cell 0 = some ([(.ldc 7, 2, 69069, 0, 0), (.iload_n 1, 1, 0, 0, 0), (.aload_n 0, 1, 0, 0, 0), (.arraylength, 1, 0, 0, 0)], some (.if_icmp .ge 9, 3, 0, 0, 0)) := rfl
theorem bl_L_cell_8 : blk bL_cell 8 = some ([(.aload_n 0, 1, 0, 0, 0), (.iload_n 1, 1, 0, 0, 0), (.iaload, 1, 0, 0, 0)], some (.goto 4, 3, 0, 0, 0)) := rfl
theorem bl_L_cell_14 : blk bL_cell 14 = some ([(.iconst 0, 1, 0, 0, 0)], none) := rfl
theorem bl_L_cell_15 : blk bL_cell 15 = some ([(.sipush 1009, 3, 1009, 0, 0), (.iload_n 1, 1, 0, 0, 0), (.imul, 1, 0, 0, 0), (.iadd, 1, 0, 0, 0), (.imul, 1, 0, 0, 0), (.sipush 12345, 3, 12345, 0, 0), (.iadd, 1, 0, 0, 0), (.istore_n 2, 1, 0, 0, 0), (.iload_n 2, 1, 0, 0, 0), (.iload_n 2, 1, 0, 0, 0), (.bipush 13, 2, 13, 0, 0), (.iushr, 1, 0, 0, 0), (.ixor, 1, 0, 0, 0), (.ldc 8, 2, 1103515245, 0, 0), (.imul, 1, 0, 0, 0), (.istore_n 2, 1, 0, 0, 0), (.iload_n 2, 1, 0, 0, 0), (.iload_n 2, 1, 0, 0, 0), (.bipush 16, 2, 16, 0, 0), (.iushr, 1, 0, 0, 0), (.ixor, 1, 0, 0, 0)], some (.ireturn, 1, 0, 0, 0)) := rfl
theorem bl_L_at_0 : blk bL_at 0 = some ([(.iconst (-1), 1, 1, 1, 0), (.istore_n 2, 1, 0, 0, 0), (.iconst 0, 1, 0, 0, 0), (.istore_n 3, 1, 0, 0, 0)], none) := rfl
theorem bl_L_at_4 : blk bL_at 4 = some ([(.iload_n 3, 1, 0, 0, 0), (.aload_n 0, 1, 0, 0, 0), (.bipush 20, 2, 20, 0, 0), (.iaload, 1, 0, 0, 0)], some (.if_icmp .ge 25, 3, 0, 0, 0)) := rfl
theorem bl_L_at_12 : blk bL_at 12 = some ([(.aload_n 0, 1, 0, 0, 0), (.bipush 10, 2, 10, 0, 0), (.iload_n 3, 1, 0, 0, 0), (.iadd, 1, 0, 0, 0), (.iaload, 1, 0, 0, 0), (.iload_n 1, 1, 0, 0, 0)], some (.if_icmp .ne 7, 3, 0, 0, 0)) := rfl
theorem bl_L_at_22 : blk bL_at 22 = some ([(.iload_n 3, 1, 0, 0, 0)], some (.goto 4, 3, 0, 0, 0)) := rfl
theorem bl_L_at_26 : blk bL_at 26 = some ([(.iload_n 2, 1, 0, 0, 0)], none) := rfl
theorem bl_L_at_27 : blk bL_at 27 = some ([(.istore_n 2, 1, 0, 0, 0), (.iinc 3 1, 3, 1, 0, 0)], some (.goto (-27), 3, 0, 0, 0)) := rfl
theorem bl_L_at_34 : blk bL_at 34 = some ([(.iload_n 2, 1, 0, 0, 0)], some (.ireturn, 1, 0, 0, 0)) := rfl
theorem bl_L_on_0 : blk bL_on 0 = some ([(.iload_n 0, 1, 0, 0, 0), (.bipush 6, 2, 6, 0, 0), (.idiv, 1, 0, 0, 0), (.iload_n 1, 1, 0, 0, 0), (.iadd, 1, 0, 0, 0), (.istore_n 3, 1, 0, 0, 0), (.iload_n 0, 1, 0, 0, 0), (.bipush 6, 2, 6, 0, 0), (.irem, 1, 0, 0, 0), (.iload_n 2, 1, 0, 0, 0), (.iadd, 1, 0, 0, 0), (.istore 4, 2, 0, 0, 0), (.iload_n 3, 1, 0, 0, 0)], some (.ifCond .lt 19, 3, 0, 0, 0)) := rfl
theorem bl_L_on_19 : blk bL_on 19 = some ([(.iload_n 3, 1, 0, 0, 0), (.iconst 5, 1, 5, 0, 0)], some (.if_icmp .gt 14, 3, 0, 0, 0)) := rfl
theorem bl_L_on_24 : blk bL_on 24 = some ([(.iload 4, 2, 0, 0, 0)], some (.ifCond .lt 9, 3, 0, 0, 0)) := rfl
theorem bl_L_on_29 : blk bL_on 29 = some ([(.iload 4, 2, 0, 0, 0), (.iconst 5, 1, 5, 0, 0)], some (.if_icmp .le 8, 3, 0, 0, 0)) := rfl
theorem bl_L_on_35 : blk bL_on 35 = some ([(.bipush (-9), 2, 9, 1, 0)], some (.goto 10, 3, 0, 0, 0)) := rfl
theorem bl_L_on_40 : blk bL_on 40 = some ([(.bipush 6, 2, 6, 0, 0), (.iload_n 3, 1, 0, 0, 0), (.imul, 1, 0, 0, 0), (.iload 4, 2, 0, 0, 0), (.iadd, 1, 0, 0, 0)], none) := rfl
theorem bl_L_on_47 : blk bL_on 47 = some ([], some (.ireturn, 1, 0, 0, 0)) := rfl
theorem bl_L_what_0 : blk bL_what 0 = some ([(.iload_n 1, 1, 0, 0, 0)], some (.ifCond .ge 7, 3, 0, 0, 0)) := rfl
theorem bl_L_what_4 : blk bL_what 4 = some ([(.iconst (-1), 1, 1, 1, 0)], some (.goto 8, 3, 0, 0, 0)) := rfl
theorem bl_L_what_8 : blk bL_what 8 = some ([(.aload_n 0, 1, 0, 0, 0), (.iload_n 1, 1, 0, 0, 0)], some (.invokestatic 9, 3, 78, 2, 0)) := rfl
theorem bl_L_what_13 : blk bL_what 13 = some ([(.istore_n 3, 1, 0, 0, 0), (.iload_n 1, 1, 0, 0, 0)], some (.ifCond .ge 7, 3, 0, 0, 0)) := rfl
theorem bl_L_what_18 : blk bL_what 18 = some ([(.iconst 3, 1, 3, 0, 0)], some (.goto 26, 3, 0, 0, 0)) := rfl
theorem bl_L_what_22 : blk bL_what 22 = some ([(.iload_n 3, 1, 0, 0, 0)], some (.ifCond .ge 7, 3, 0, 0, 0)) := rfl
theorem bl_L_what_26 : blk bL_what 26 = some ([(.iconst 0, 1, 0, 0, 0)], some (.goto 18, 3, 0, 0, 0)) := rfl
theorem bl_L_what_30 : blk bL_what 30 = some ([(.aload_n 0, 1, 0, 0, 0), (.iload_n 3, 1, 0, 0, 0), (.iaload, 1, 0, 0, 0), (.bipush 100, 2, 100, 0, 0), (.idiv, 1, 0, 0, 0), (.iload_n 2, 1, 0, 0, 0)], some (.if_icmp .ne 7, 3, 0, 0, 0)) := rfl
theorem bl_L_what_40 : blk bL_what 40 = some ([(.iconst 1, 1, 1, 0, 0)], some (.goto 4, 3, 0, 0, 0)) := rfl
theorem bl_L_what_44 : blk bL_what 44 = some ([(.iconst 2, 1, 2, 0, 0)], none) := rfl
theorem bl_L_what_45 : blk bL_what 45 = some ([], some (.ireturn, 1, 0, 0, 0)) := rfl
theorem bl_L_far_0 : blk bL_far 0 = some ([(.iload_n 0, 1, 0, 0, 0), (.bipush 6, 2, 6, 0, 0), (.idiv, 1, 0, 0, 0), (.iload_n 1, 1, 0, 0, 0), (.bipush 6, 2, 6, 0, 0), (.idiv, 1, 0, 0, 0)], some (.if_icmp .ge 15, 3, 0, 0, 0)) := rfl
theorem bl_L_far_11 : blk bL_far 11 = some ([(.iload_n 1, 1, 0, 0, 0), (.bipush 6, 2, 6, 0, 0), (.idiv, 1, 0, 0, 0), (.iload_n 0, 1, 0, 0, 0), (.bipush 6, 2, 6, 0, 0), (.idiv, 1, 0, 0, 0), (.isub, 1, 0, 0, 0)], some (.goto 12, 3, 0, 0, 0)) := rfl
theorem bl_L_far_23 : blk bL_far 23 = some ([(.iload_n 0, 1, 0, 0, 0), (.bipush 6, 2, 6, 0, 0), (.idiv, 1, 0, 0, 0), (.iload_n 1, 1, 0, 0, 0), (.bipush 6, 2, 6, 0, 0), (.idiv, 1, 0, 0, 0), (.isub, 1, 0, 0, 0)], none) := rfl
theorem bl_L_far_32 : blk bL_far 32 = some ([(.istore_n 2, 1, 0, 0, 0), (.iload_n 0, 1, 0, 0, 0), (.bipush 6, 2, 6, 0, 0), (.irem, 1, 0, 0, 0), (.iload_n 1, 1, 0, 0, 0), (.bipush 6, 2, 6, 0, 0), (.irem, 1, 0, 0, 0)], some (.if_icmp .ge 15, 3, 0, 0, 0)) := rfl
theorem bl_L_far_44 : blk bL_far 44 = some ([(.iload_n 1, 1, 0, 0, 0), (.bipush 6, 2, 6, 0, 0), (.irem, 1, 0, 0, 0), (.iload_n 0, 1, 0, 0, 0), (.bipush 6, 2, 6, 0, 0), (.irem, 1, 0, 0, 0), (.isub, 1, 0, 0, 0)], some (.goto 12, 3, 0, 0, 0)) := rfl
theorem bl_L_far_56 : blk bL_far 56 = some ([(.iload_n 0, 1, 0, 0, 0), (.bipush 6, 2, 6, 0, 0), (.irem, 1, 0, 0, 0), (.iload_n 1, 1, 0, 0, 0), (.bipush 6, 2, 6, 0, 0), (.irem, 1, 0, 0, 0), (.isub, 1, 0, 0, 0)], none) := rfl
theorem bl_L_far_65 : blk bL_far 65 = some ([(.istore_n 3, 1, 0, 0, 0), (.iload_n 2, 1, 0, 0, 0), (.iload_n 3, 1, 0, 0, 0)], some (.if_icmp .ge 7, 3, 0, 0, 0)) := rfl
theorem bl_L_far_71 : blk bL_far 71 = some ([(.iload_n 3, 1, 0, 0, 0)], some (.goto 4, 3, 0, 0, 0)) := rfl
theorem bl_L_far_75 : blk bL_far 75 = some ([(.iload_n 2, 1, 0, 0, 0)], none) := rfl
theorem bl_L_far_76 : blk bL_far 76 = some ([], some (.ireturn, 1, 0, 0, 0)) := rfl
theorem bl_L_slide_0 : blk bL_slide 0 = some ([(.aload_n 0, 1, 0, 0, 0), (.iload_n 1, 1, 0, 0, 0), (.iaload, 1, 0, 0, 0), (.bipush 100, 2, 100, 0, 0), (.idiv, 1, 0, 0, 0), (.istore 4, 2, 0, 0, 0), (.bipush (-4), 2, 4, 1, 0), (.istore 5, 2, 0, 0, 0), (.aload_n 0, 1, 0, 0, 0), (.bipush 10, 2, 10, 0, 0), (.iload_n 1, 1, 0, 0, 0), (.iadd, 1, 0, 0, 0), (.iaload, 1, 0, 0, 0), (.iload_n 2, 1, 0, 0, 0), (.iload_n 3, 1, 0, 0, 0)], some (.invokestatic 15, 3, 79, 3, 0)) := rfl
theorem bl_L_slide_23 : blk bL_slide 23 = some ([(.istore 6, 2, 0, 0, 0)], none) := rfl
theorem bl_L_slide_25 : blk bL_slide 25 = some ([(.aload_n 0, 1, 0, 0, 0), (.iload 6, 2, 0, 0, 0), (.iload 4, 2, 0, 0, 0)], some (.invokestatic 19, 3, 80, 3, 0)) := rfl
theorem bl_L_slide_33 : blk bL_slide 33 = some ([], some (.ifCond .ne 19, 3, 0, 0, 0)) := rfl
theorem bl_L_slide_36 : blk bL_slide 36 = some ([(.iload 6, 2, 0, 0, 0), (.istore 5, 2, 0, 0, 0), (.iload 6, 2, 0, 0, 0), (.iload_n 2, 1, 0, 0, 0), (.iload_n 3, 1, 0, 0, 0)], some (.invokestatic 15, 3, 79, 3, 0)) := rfl
theorem bl_L_slide_47 : blk bL_slide 47 = some ([(.istore 6, 2, 0, 0, 0)], some (.goto (-24), 3, 0, 0, 0)) := rfl
theorem bl_L_slide_52 : blk bL_slide 52 = some ([(.aload_n 0, 1, 0, 0, 0), (.iload 6, 2, 0, 0, 0), (.iload 4, 2, 0, 0, 0)], some (.invokestatic 19, 3, 80, 3, 0)) := rfl
theorem bl_L_slide_60 : blk bL_slide 60 = some ([(.iconst 2, 1, 2, 0, 0)], some (.if_icmp .ne 8, 3, 0, 0, 0)) := rfl
theorem bl_L_slide_64 : blk bL_slide 64 = some ([(.iload 6, 2, 0, 0, 0)], some (.goto 5, 3, 0, 0, 0)) := rfl
theorem bl_L_slide_69 : blk bL_slide 69 = some ([(.iload 5, 2, 0, 0, 0)], none) := rfl
theorem bl_L_slide_71 : blk bL_slide 71 = some ([], some (.ireturn, 1, 0, 0, 0)) := rfl
theorem bl_L_idea_0 : blk bL_idea 0 = some ([(.aload_n 0, 1, 0, 0, 0), (.bipush 10, 2, 10, 0, 0), (.iload_n 1, 1, 0, 0, 0), (.iadd, 1, 0, 0, 0), (.iaload, 1, 0, 0, 0), (.istore_n 3, 1, 0, 0, 0), (.aload_n 0, 1, 0, 0, 0), (.iload_n 1, 1, 0, 0, 0), (.iaload, 1, 0, 0, 0), (.bipush 10, 2, 10, 0, 0), (.irem, 1, 0, 0, 0), (.istore 4, 2, 0, 0, 0), (.aload_n 0, 1, 0, 0, 0), (.iload_n 1, 1, 0, 0, 0), (.iaload, 1, 0, 0, 0), (.bipush 100, 2, 100, 0, 0), (.idiv, 1, 0, 0, 0), (.istore 5, 2, 0, 0, 0), (.iload 5, 2, 0, 0, 0)], some (.ifCond .ne 7, 3, 0, 0, 0)) := rfl
theorem bl_L_idea_28 : blk bL_idea 28 = some ([(.iconst 1, 1, 1, 0, 0)], some (.goto 4, 3, 0, 0, 0)) := rfl
theorem bl_L_idea_32 : blk bL_idea 32 = some ([(.iconst (-1), 1, 1, 1, 0)], none) := rfl
theorem bl_L_idea_33 : blk bL_idea 33 = some ([(.istore 6, 2, 0, 0, 0), (.iload_n 3, 1, 0, 0, 0)], some (.ifCond .lt 15, 3, 0, 0, 0)) := rfl
theorem bl_L_idea_39 : blk bL_idea 39 = some ([(.aload_n 0, 1, 0, 0, 0), (.bipush 24, 2, 24, 0, 0), (.iaload, 1, 0, 0, 0), (.iload_n 1, 1, 0, 0, 0), (.ishr, 1, 0, 0, 0), (.iconst 1, 1, 1, 0, 0), (.iand, 1, 0, 0, 0), (.iconst 1, 1, 1, 0, 0)], some (.if_icmp .ne 6, 3, 0, 0, 0)) := rfl
theorem bl_L_idea_51 : blk bL_idea 51 = some ([(.bipush (-4), 2, 4, 1, 0)], some (.ireturn, 1, 0, 0, 0)) := rfl
theorem bl_L_idea_54 : blk bL_idea 54 = some ([(.iload 4, 2, 0, 0, 0), (.iconst 2, 1, 2, 0, 0)], some (.if_icmp .eq 16, 3, 0, 0, 0)) := rfl
theorem bl_L_idea_60 : blk bL_idea 60 = some ([(.iload 4, 2, 0, 0, 0), (.iconst 4, 1, 4, 0, 0)], some (.if_icmp .eq 10, 3, 0, 0, 0)) := rfl
theorem bl_L_idea_66 : blk bL_idea 66 = some ([(.iload 4, 2, 0, 0, 0), (.bipush 6, 2, 6, 0, 0)], some (.if_icmp .ne 37, 3, 0, 0, 0)) := rfl
theorem bl_L_idea_73 : blk bL_idea 73 = some ([(.aload_n 0, 1, 0, 0, 0), (.iload_n 1, 1, 0, 0, 0), (.iload 6, 2, 0, 0, 0), (.iconst 0, 1, 0, 0, 0)], some (.invokestatic 23, 3, 82, 4, 0)) := rfl
theorem bl_L_idea_81 : blk bL_idea 81 = some ([(.istore 7, 2, 0, 0, 0), (.iload 4, 2, 0, 0, 0), (.iconst 4, 1, 4, 0, 0)], some (.if_icmp .ne 18, 3, 0, 0, 0)) := rfl
theorem bl_L_idea_89 : blk bL_idea 89 = some ([(.iload 7, 2, 0, 0, 0)], some (.ifCond .ge 13, 3, 0, 0, 0)) := rfl
theorem bl_L_idea_94 : blk bL_idea 94 = some ([(.aload_n 0, 1, 0, 0, 0), (.iload_n 1, 1, 0, 0, 0), (.iconst 0, 1, 0, 0, 0), (.iconst 1, 1, 1, 0, 0)], some (.invokestatic 23, 3, 82, 4, 0)) := rfl
theorem bl_L_idea_101 : blk bL_idea 101 = some ([], some (.goto 5, 3, 0, 0, 0)) := rfl
theorem bl_L_idea_104 : blk bL_idea 104 = some ([(.iload 7, 2, 0, 0, 0)], none) := rfl
theorem bl_L_idea_106 : blk bL_idea 106 = some ([], some (.ireturn, 1, 0, 0, 0)) := rfl
theorem bl_L_idea_107 : blk bL_idea 107 = some ([(.iload_n 3, 1, 0, 0, 0), (.iload 4, 2, 0, 0, 0), (.iconst 1, 1, 1, 0, 0)], some (.if_icmp .ne 10, 3, 0, 0, 0)) := rfl
theorem bl_L_idea_114 : blk bL_idea 114 = some ([(.iconst 2, 1, 2, 0, 0), (.iload 6, 2, 0, 0, 0), (.imul, 1, 0, 0, 0)], some (.goto 28, 3, 0, 0, 0)) := rfl
theorem bl_L_idea_121 : blk bL_idea 121 = some ([(.iload 4, 2, 0, 0, 0), (.iconst 5, 1, 5, 0, 0)], some (.if_icmp .ne 9, 3, 0, 0, 0)) := rfl
theorem bl_L_idea_127 : blk bL_idea 127 = some ([(.iload 6, 2, 0, 0, 0), (.ineg, 1, 0, 0, 0)], some (.goto 16, 3, 0, 0, 0)) := rfl
theorem bl_L_idea_133 : blk bL_idea 133 = some ([(.iload 4, 2, 0, 0, 0), (.bipush 7, 2, 7, 0, 0)], some (.if_icmp .ne 7, 3, 0, 0, 0)) := rfl
theorem bl_L_idea_140 : blk bL_idea 140 = some ([(.iconst 0, 1, 0, 0, 0)], some (.goto 5, 3, 0, 0, 0)) := rfl
theorem bl_L_idea_144 : blk bL_idea 144 = some ([(.iload 6, 2, 0, 0, 0)], none) := rfl
theorem bl_L_idea_146 : blk bL_idea 146 = some ([(.iload 4, 2, 0, 0, 0), (.iconst 1, 1, 1, 0, 0)], some (.if_icmp .ne 7, 3, 0, 0, 0)) := rfl
theorem bl_L_idea_152 : blk bL_idea 152 = some ([(.iconst 1, 1, 1, 0, 0)], some (.goto 15, 3, 0, 0, 0)) := rfl
theorem bl_L_idea_156 : blk bL_idea 156 = some ([(.iload 4, 2, 0, 0, 0), (.bipush 7, 2, 7, 0, 0)], some (.if_icmp .ne 7, 3, 0, 0, 0)) := rfl
theorem bl_L_idea_163 : blk bL_idea 163 = some ([(.iconst (-1), 1, 1, 1, 0)], some (.goto 4, 3, 0, 0, 0)) := rfl
theorem bl_L_idea_167 : blk bL_idea 167 = some ([(.iconst 0, 1, 0, 0, 0)], none) := rfl
theorem bl_L_idea_168 : blk bL_idea 168 = some ([], some (.invokestatic 15, 3, 79, 3, 0)) := rfl
theorem bl_L_idea_171 : blk bL_idea 171 = some ([(.istore 7, 2, 0, 0, 0), (.iload_n 3, 1, 0, 0, 0), (.iload 4, 2, 0, 0, 0), (.iconst 1, 1, 1, 0, 0)], some (.if_icmp .ne 10, 3, 0, 0, 0)) := rfl
theorem bl_L_idea_180 : blk bL_idea 180 = some ([(.iconst 2, 1, 2, 0, 0), (.iload 6, 2, 0, 0, 0), (.imul, 1, 0, 0, 0)], some (.goto 5, 3, 0, 0, 0)) := rfl
theorem bl_L_idea_187 : blk bL_idea 187 = some ([(.iload 6, 2, 0, 0, 0)], none) := rfl
theorem bl_L_idea_189 : blk bL_idea 189 = some ([(.iload 4, 2, 0, 0, 0), (.iconst 1, 1, 1, 0, 0)], some (.if_icmp .ne 7, 3, 0, 0, 0)) := rfl
theorem bl_L_idea_195 : blk bL_idea 195 = some ([(.iconst (-1), 1, 1, 1, 0)], some (.goto 4, 3, 0, 0, 0)) := rfl
theorem bl_L_idea_199 : blk bL_idea 199 = some ([(.iconst 1, 1, 1, 0, 0)], none) := rfl
theorem bl_L_idea_200 : blk bL_idea 200 = some ([], some (.invokestatic 15, 3, 79, 3, 0)) := rfl
theorem bl_L_idea_203 : blk bL_idea 203 = some ([(.istore 8, 2, 0, 0, 0), (.aload_n 0, 1, 0, 0, 0), (.iload 7, 2, 0, 0, 0), (.iload 5, 2, 0, 0, 0)], some (.invokestatic 19, 3, 80, 3, 0)) := rfl
theorem bl_L_idea_213 : blk bL_idea 213 = some ([(.istore 9, 2, 0, 0, 0), (.aload_n 0, 1, 0, 0, 0), (.iload 8, 2, 0, 0, 0), (.iload 5, 2, 0, 0, 0)], some (.invokestatic 19, 3, 80, 3, 0)) := rfl
theorem bl_L_idea_223 : blk bL_idea 223 = some ([(.istore 10, 2, 0, 0, 0), (.iload 4, 2, 0, 0, 0)], some (.ifCond .ne 27, 3, 0, 0, 0)) := rfl
theorem bl_L_idea_230 : blk bL_idea 230 = some ([(.iload 9, 2, 0, 0, 0)], some (.ifCond .ne 8, 3, 0, 0, 0)) := rfl
theorem bl_L_idea_235 : blk bL_idea 235 = some ([(.iload 7, 2, 0, 0, 0)], some (.goto 16, 3, 0, 0, 0)) := rfl
theorem bl_L_idea_240 : blk bL_idea 240 = some ([(.iload 10, 2, 0, 0, 0), (.iconst 2, 1, 2, 0, 0)], some (.if_icmp .ne 8, 3, 0, 0, 0)) := rfl
theorem bl_L_idea_246 : blk bL_idea 246 = some ([(.iload 8, 2, 0, 0, 0)], some (.goto 5, 3, 0, 0, 0)) := rfl
theorem bl_L_idea_251 : blk bL_idea 251 = some ([(.bipush (-4), 2, 4, 1, 0)], none) := rfl
theorem bl_L_idea_253 : blk bL_idea 253 = some ([], some (.ireturn, 1, 0, 0, 0)) := rfl
theorem bl_L_idea_254 : blk bL_idea 254 = some ([(.iload 4, 2, 0, 0, 0), (.iconst 1, 1, 1, 0, 0)], some (.if_icmp .ne 30, 3, 0, 0, 0)) := rfl
theorem bl_L_idea_260 : blk bL_idea 260 = some ([(.iload 9, 2, 0, 0, 0), (.iconst 2, 1, 2, 0, 0), (.irem, 1, 0, 0, 0)], some (.ifCond .ne 8, 3, 0, 0, 0)) := rfl
theorem bl_L_idea_267 : blk bL_idea 267 = some ([(.iload 7, 2, 0, 0, 0)], some (.goto 17, 3, 0, 0, 0)) := rfl
theorem bl_L_idea_272 : blk bL_idea 272 = some ([(.iload 10, 2, 0, 0, 0), (.iconst 2, 1, 2, 0, 0), (.irem, 1, 0, 0, 0)], some (.ifCond .ne 8, 3, 0, 0, 0)) := rfl
theorem bl_L_idea_279 : blk bL_idea 279 = some ([(.iload 8, 2, 0, 0, 0)], some (.goto 5, 3, 0, 0, 0)) := rfl
theorem bl_L_idea_284 : blk bL_idea 284 = some ([(.bipush (-4), 2, 4, 1, 0)], none) := rfl
theorem bl_L_idea_286 : blk bL_idea 286 = some ([], some (.ireturn, 1, 0, 0, 0)) := rfl
theorem bl_L_idea_287 : blk bL_idea 287 = some ([(.iload 4, 2, 0, 0, 0), (.iconst 5, 1, 5, 0, 0)], some (.if_icmp .ne 89, 3, 0, 0, 0)) := rfl
theorem bl_L_idea_293 : blk bL_idea 293 = some ([(.iconst 0, 1, 0, 0, 0), (.istore 11, 2, 0, 0, 0), (.iconst 0, 1, 0, 0, 0), (.istore 12, 2, 0, 0, 0)], none) := rfl
theorem bl_L_idea_299 : blk bL_idea 299 = some ([(.iload 12, 2, 0, 0, 0), (.aload_n 0, 1, 0, 0, 0), (.bipush 20, 2, 20, 0, 0), (.iaload, 1, 0, 0, 0)], some (.if_icmp .ge 56, 3, 0, 0, 0)) := rfl
theorem bl_L_idea_308 : blk bL_idea 308 = some ([(.iload 11, 2, 0, 0, 0), (.aload_n 0, 1, 0, 0, 0), (.bipush 10, 2, 10, 0, 0), (.iload 12, 2, 0, 0, 0), (.iadd, 1, 0, 0, 0), (.iaload, 1, 0, 0, 0)], some (.ifCond .lt 34, 3, 0, 0, 0)) := rfl
theorem bl_L_idea_320 : blk bL_idea 320 = some ([(.aload_n 0, 1, 0, 0, 0), (.iload 12, 2, 0, 0, 0), (.iaload, 1, 0, 0, 0), (.bipush 100, 2, 100, 0, 0), (.idiv, 1, 0, 0, 0), (.iload 5, 2, 0, 0, 0)], some (.if_icmp .eq 22, 3, 0, 0, 0)) := rfl
theorem bl_L_idea_332 : blk bL_idea 332 = some ([(.aload_n 0, 1, 0, 0, 0), (.bipush 10, 2, 10, 0, 0), (.iload 12, 2, 0, 0, 0), (.iadd, 1, 0, 0, 0), (.iaload, 1, 0, 0, 0), (.iload_n 3, 1, 0, 0, 0)], some (.invokestatic 27, 3, 81, 2, 0)) := rfl
theorem bl_L_idea_343 : blk bL_idea 343 = some ([(.iconst 2, 1, 2, 0, 0)], some (.if_icmp .ge 7, 3, 0, 0, 0)) := rfl
theorem bl_L_idea_347 : blk bL_idea 347 = some ([(.iconst 1, 1, 1, 0, 0)], some (.goto 4, 3, 0, 0, 0)) := rfl
theorem bl_L_idea_351 : blk bL_idea 351 = some ([(.iconst 0, 1, 0, 0, 0)], none) := rfl
theorem bl_L_idea_352 : blk bL_idea 352 = some ([(.ior, 1, 0, 0, 0), (.istore 11, 2, 0, 0, 0), (.iinc 12 1, 3, 1, 0, 0)], some (.goto (-59), 3, 0, 0, 0)) := rfl
theorem bl_L_idea_361 : blk bL_idea 361 = some ([(.iload 11, 2, 0, 0, 0)], some (.ifCond .eq 13, 3, 0, 0, 0)) := rfl
theorem bl_L_idea_366 : blk bL_idea 366 = some ([(.iload 9, 2, 0, 0, 0)], some (.ifCond .ne 8, 3, 0, 0, 0)) := rfl
theorem bl_L_idea_371 : blk bL_idea 371 = some ([(.iload 7, 2, 0, 0, 0)], some (.goto 5, 3, 0, 0, 0)) := rfl
theorem bl_L_idea_376 : blk bL_idea 376 = some ([(.bipush (-4), 2, 4, 1, 0)], none) := rfl
theorem bl_L_idea_378 : blk bL_idea 378 = some ([], some (.ireturn, 1, 0, 0, 0)) := rfl
theorem bl_L_idea_379 : blk bL_idea 379 = some ([(.iload 4, 2, 0, 0, 0), (.bipush 7, 2, 7, 0, 0)], some (.if_icmp .ne 13, 3, 0, 0, 0)) := rfl
theorem bl_L_idea_386 : blk bL_idea 386 = some ([(.iload 9, 2, 0, 0, 0)], some (.ifCond .ne 8, 3, 0, 0, 0)) := rfl
theorem bl_L_idea_391 : blk bL_idea 391 = some ([(.iload 7, 2, 0, 0, 0)], some (.goto 33, 3, 0, 0, 0)) := rfl
theorem bl_L_idea_396 : blk bL_idea 396 = some ([(.iload 10, 2, 0, 0, 0), (.iconst 2, 1, 2, 0, 0), (.irem, 1, 0, 0, 0)], some (.ifCond .ne 24, 3, 0, 0, 0)) := rfl
theorem bl_L_idea_403 : blk bL_idea 403 = some ([(.iload_n 2, 1, 0, 0, 0), (.aload_n 0, 1, 0, 0, 0), (.iload_n 1, 1, 0, 0, 0), (.iaload, 1, 0, 0, 0), (.bipush 10, 2, 10, 0, 0), (.idiv, 1, 0, 0, 0), (.bipush 10, 2, 10, 0, 0), (.irem, 1, 0, 0, 0), (.iconst 2, 1, 2, 0, 0), (.iadd, 1, 0, 0, 0), (.irem, 1, 0, 0, 0)], some (.ifCond .ne 8, 3, 0, 0, 0)) := rfl
theorem bl_L_idea_419 : blk bL_idea 419 = some ([(.iload 8, 2, 0, 0, 0)], some (.goto 5, 3, 0, 0, 0)) := rfl
theorem bl_L_idea_424 : blk bL_idea 424 = some ([(.bipush (-4), 2, 4, 1, 0)], none) := rfl
theorem bl_L_idea_426 : blk bL_idea 426 = some ([], some (.ireturn, 1, 0, 0, 0)) := rfl
theorem bl_L_ears_0 : blk bL_ears 0 = some ([(.iload_n 0, 1, 0, 0, 0), (.bipush 10, 2, 10, 0, 0), (.irem, 1, 0, 0, 0), (.istore_n 1, 1, 0, 0, 0), (.iload_n 0, 1, 0, 0, 0), (.bipush 10, 2, 10, 0, 0), (.idiv, 1, 0, 0, 0), (.bipush 10, 2, 10, 0, 0), (.irem, 1, 0, 0, 0), (.istore_n 2, 1, 0, 0, 0), (.iload_n 1, 1, 0, 0, 0)], some (.ifCond .ne 7, 3, 0, 0, 0)) := rfl
theorem bl_L_ears_17 : blk bL_ears 17 = some ([(.iconst 2, 1, 2, 0, 0)], some (.goto 52, 3, 0, 0, 0)) := rfl
theorem bl_L_ears_21 : blk bL_ears 21 = some ([(.iload_n 1, 1, 0, 0, 0), (.iconst 1, 1, 1, 0, 0)], some (.if_icmp .ne 7, 3, 0, 0, 0)) := rfl
theorem bl_L_ears_26 : blk bL_ears 26 = some ([(.iconst 3, 1, 3, 0, 0)], some (.goto 43, 3, 0, 0, 0)) := rfl
theorem bl_L_ears_30 : blk bL_ears 30 = some ([(.iload_n 1, 1, 0, 0, 0), (.iconst 2, 1, 2, 0, 0)], some (.if_icmp .ne 7, 3, 0, 0, 0)) := rfl
theorem bl_L_ears_35 : blk bL_ears 35 = some ([(.iload_n 2, 1, 0, 0, 0)], some (.goto 34, 3, 0, 0, 0)) := rfl
theorem bl_L_ears_39 : blk bL_ears 39 = some ([(.iload_n 1, 1, 0, 0, 0), (.iconst 4, 1, 4, 0, 0)], some (.if_icmp .ne 9, 3, 0, 0, 0)) := rfl
theorem bl_L_ears_44 : blk bL_ears 44 = some ([(.iload_n 2, 1, 0, 0, 0), (.iconst 3, 1, 3, 0, 0), (.iadd, 1, 0, 0, 0)], some (.goto 23, 3, 0, 0, 0)) := rfl
theorem bl_L_ears_50 : blk bL_ears 50 = some ([(.iload_n 1, 1, 0, 0, 0), (.iconst 5, 1, 5, 0, 0)], some (.if_icmp .ne 7, 3, 0, 0, 0)) := rfl
theorem bl_L_ears_55 : blk bL_ears 55 = some ([(.iconst 5, 1, 5, 0, 0)], some (.goto 14, 3, 0, 0, 0)) := rfl
theorem bl_L_ears_59 : blk bL_ears 59 = some ([(.iload_n 1, 1, 0, 0, 0), (.bipush 6, 2, 6, 0, 0)], some (.if_icmp .ne 7, 3, 0, 0, 0)) := rfl
theorem bl_L_ears_65 : blk bL_ears 65 = some ([(.iconst 0, 1, 0, 0, 0)], some (.goto 4, 3, 0, 0, 0)) := rfl
theorem bl_L_ears_69 : blk bL_ears 69 = some ([(.iconst 4, 1, 4, 0, 0)], none) := rfl
theorem bl_L_ears_70 : blk bL_ears 70 = some ([], some (.ireturn, 1, 0, 0, 0)) := rfl
theorem bl_L_hears_0 : blk bL_hears 0 = some ([(.aload_n 0, 1, 0, 0, 0), (.bipush 10, 2, 10, 0, 0), (.iload_n 1, 1, 0, 0, 0), (.iadd, 1, 0, 0, 0), (.iaload, 1, 0, 0, 0)], some (.ifCond .lt 31, 3, 0, 0, 0)) := rfl
theorem bl_L_hears_9 : blk bL_hears 9 = some ([(.aload_n 0, 1, 0, 0, 0), (.bipush 10, 2, 10, 0, 0), (.iload_n 2, 1, 0, 0, 0), (.iadd, 1, 0, 0, 0), (.iaload, 1, 0, 0, 0)], some (.ifCond .lt 22, 3, 0, 0, 0)) := rfl
theorem bl_L_hears_18 : blk bL_hears 18 = some ([(.aload_n 0, 1, 0, 0, 0), (.iload_n 1, 1, 0, 0, 0), (.iaload, 1, 0, 0, 0), (.bipush 100, 2, 100, 0, 0), (.idiv, 1, 0, 0, 0), (.aload_n 0, 1, 0, 0, 0), (.iload_n 2, 1, 0, 0, 0), (.iaload, 1, 0, 0, 0), (.bipush 100, 2, 100, 0, 0), (.idiv, 1, 0, 0, 0)], some (.if_icmp .ne 7, 3, 0, 0, 0)) := rfl
theorem bl_L_hears_33 : blk bL_hears 33 = some ([(.iconst 1, 1, 1, 0, 0)], some (.goto 4, 3, 0, 0, 0)) := rfl
theorem bl_L_hears_37 : blk bL_hears 37 = some ([(.iconst 0, 1, 0, 0, 0)], none) := rfl
theorem bl_L_hears_38 : blk bL_hears 38 = some ([(.istore_n 3, 1, 0, 0, 0), (.iload_n 1, 1, 0, 0, 0), (.iload_n 2, 1, 0, 0, 0)], some (.if_icmp .eq 43, 3, 0, 0, 0)) := rfl
theorem bl_L_hears_44 : blk bL_hears 44 = some ([(.iload_n 3, 1, 0, 0, 0)], some (.ifCond .eq 43, 3, 0, 0, 0)) := rfl
theorem bl_L_hears_48 : blk bL_hears 48 = some ([(.aload_n 0, 1, 0, 0, 0), (.bipush 10, 2, 10, 0, 0), (.iload_n 1, 1, 0, 0, 0), (.iadd, 1, 0, 0, 0), (.iaload, 1, 0, 0, 0), (.aload_n 0, 1, 0, 0, 0), (.bipush 10, 2, 10, 0, 0), (.iload_n 2, 1, 0, 0, 0), (.iadd, 1, 0, 0, 0), (.iaload, 1, 0, 0, 0)], some (.invokestatic 27, 3, 81, 2, 0)) := rfl
theorem bl_L_hears_63 : blk bL_hears 63 = some ([(.aload_n 0, 1, 0, 0, 0), (.bipush 25, 2, 25, 0, 0), (.iaload, 1, 0, 0, 0), (.iconst 1, 1, 1, 0, 0)], some (.if_icmp .ne 7, 3, 0, 0, 0)) := rfl
theorem bl_L_hears_71 : blk bL_hears 71 = some ([(.iconst 1, 1, 1, 0, 0)], some (.goto 9, 3, 0, 0, 0)) := rfl
theorem bl_L_hears_75 : blk bL_hears 75 = some ([(.aload_n 0, 1, 0, 0, 0), (.iload_n 1, 1, 0, 0, 0), (.iaload, 1, 0, 0, 0)], some (.invokestatic 31, 3, 84, 1, 0)) := rfl
theorem bl_L_hears_81 : blk bL_hears 81 = some ([], some (.if_icmp .gt 7, 3, 0, 0, 0)) := rfl
theorem bl_L_hears_84 : blk bL_hears 84 = some ([(.iconst 1, 1, 1, 0, 0)], some (.goto 4, 3, 0, 0, 0)) := rfl
theorem bl_L_hears_88 : blk bL_hears 88 = some ([(.iconst 0, 1, 0, 0, 0)], none) := rfl
theorem bl_L_hears_89 : blk bL_hears 89 = some ([], some (.ireturn, 1, 1, 0, 0)) := rfl
theorem bl_L_heard_0 : blk bL_heard 0 = some ([(.iconst 0, 1, 0, 0, 0), (.istore_n 2, 1, 0, 0, 0), (.iconst 0, 1, 0, 0, 0), (.istore_n 3, 1, 0, 0, 0)], none) := rfl
theorem bl_L_heard_4 : blk bL_heard 4 = some ([(.iload_n 3, 1, 0, 0, 0), (.aload_n 0, 1, 0, 0, 0), (.bipush 20, 2, 20, 0, 0), (.iaload, 1, 0, 0, 0)], some (.if_icmp .ge 28, 3, 0, 0, 0)) := rfl
theorem bl_L_heard_12 : blk bL_heard 12 = some ([(.iload_n 2, 1, 0, 0, 0), (.aload_n 0, 1, 0, 0, 0), (.iload_n 3, 1, 0, 0, 0), (.iload_n 1, 1, 0, 0, 0)], some (.invokestatic 35, 3, 85, 3, 0)) := rfl
theorem bl_L_heard_19 : blk bL_heard 19 = some ([], some (.ifCond .eq 9, 3, 0, 0, 0)) := rfl
theorem bl_L_heard_22 : blk bL_heard 22 = some ([(.iconst 1, 1, 1, 0, 0), (.iload_n 3, 1, 0, 0, 0), (.ishl, 1, 0, 0, 0)], some (.goto 4, 3, 0, 0, 0)) := rfl
theorem bl_L_heard_28 : blk bL_heard 28 = some ([(.iconst 0, 1, 0, 0, 0)], none) := rfl
theorem bl_L_heard_29 : blk bL_heard 29 = some ([(.ior, 1, 0, 0, 0), (.istore_n 2, 1, 0, 0, 0), (.iinc 3 1, 3, 1, 0, 0)], some (.goto (-30), 3, 0, 0, 0)) := rfl
theorem bl_L_heard_37 : blk bL_heard 37 = some ([(.iload_n 2, 1, 0, 0, 0)], some (.ireturn, 1, 0, 0, 0)) := rfl
theorem bl_L_bits_0 : blk bL_bits 0 = some ([(.iconst 0, 1, 0, 0, 0), (.istore_n 1, 1, 0, 0, 0), (.iload_n 0, 1, 0, 0, 0), (.istore_n 2, 1, 0, 0, 0)], none) := rfl
theorem bl_L_bits_4 : blk bL_bits 4 = some ([(.iload_n 2, 1, 0, 0, 0)], some (.ifCond .eq 15, 3, 0, 0, 0)) := rfl
theorem bl_L_bits_8 : blk bL_bits 8 = some ([(.iinc 1 1, 3, 1, 0, 0), (.iload_n 2, 1, 0, 0, 0), (.iload_n 2, 1, 0, 0, 0), (.iconst 1, 1, 1, 0, 0), (.isub, 1, 0, 0, 0), (.iand, 1, 0, 0, 0), (.istore_n 2, 1, 0, 0, 0)], some (.goto (-13), 3, 0, 0, 0)) := rfl
theorem bl_L_bits_20 : blk bL_bits 20 = some ([(.iload_n 1, 1, 0, 0, 0)], some (.ireturn, 1, 0, 0, 0)) := rfl
theorem bl_L_goes_0 : blk bL_goes 0 = some ([(.bipush (-4), 2, 4, 1, 0), (.istore_n 2, 1, 0, 0, 0), (.iconst 0, 1, 0, 0, 0), (.istore_n 3, 1, 0, 0, 0), (.iconst 0, 1, 0, 0, 0), (.istore 4, 2, 0, 0, 0), (.iconst 0, 1, 0, 0, 0), (.istore 5, 2, 0, 0, 0)], none) := rfl
theorem bl_L_goes_11 : blk bL_goes 11 = some ([(.iload 5, 2, 0, 0, 0), (.aload_n 0, 1, 0, 0, 0), (.bipush 20, 2, 20, 0, 0), (.iaload, 1, 0, 0, 0)], some (.if_icmp .ge 111, 3, 0, 0, 0)) := rfl
theorem bl_L_goes_20 : blk bL_goes 20 = some ([(.aload_n 0, 1, 0, 0, 0), (.bipush 10, 2, 10, 0, 0), (.iload 5, 2, 0, 0, 0), (.iadd, 1, 0, 0, 0), (.iaload, 1, 0, 0, 0)], some (.ifCond .lt 21, 3, 0, 0, 0)) := rfl
theorem bl_L_goes_30 : blk bL_goes 30 = some ([(.aload_n 0, 1, 0, 0, 0), (.iload 5, 2, 0, 0, 0), (.iaload, 1, 0, 0, 0), (.bipush 100, 2, 100, 0, 0), (.idiv, 1, 0, 0, 0), (.aload_n 0, 1, 0, 0, 0), (.bipush 22, 2, 22, 0, 0), (.iaload, 1, 0, 0, 0)], some (.if_icmp .ne 7, 3, 0, 0, 0)) := rfl
theorem bl_L_goes_44 : blk bL_goes 44 = some ([(.iconst 1, 1, 1, 0, 0)], some (.goto 4, 3, 0, 0, 0)) := rfl
theorem bl_L_goes_48 : blk bL_goes 48 = some ([(.iconst 0, 1, 0, 0, 0)], none) := rfl
theorem bl_L_goes_49 : blk bL_goes 49 = some ([(.istore 6, 2, 0, 0, 0), (.iload 6, 2, 0, 0, 0)], some (.ifCond .eq 25, 3, 0, 0, 0)) := rfl
theorem bl_L_goes_56 : blk bL_goes 56 = some ([(.aload_n 0, 1, 0, 0, 0), (.iload 5, 2, 0, 0, 0), (.iload_n 1, 1, 0, 0, 0)], some (.invokestatic 39, 3, 83, 3, 0)) := rfl
theorem bl_L_goes_63 : blk bL_goes 63 = some ([], some (.ifCond .lt 15, 3, 0, 0, 0)) := rfl
theorem bl_L_goes_66 : blk bL_goes 66 = some ([(.aload_n 0, 1, 0, 0, 0), (.iload 5, 2, 0, 0, 0)], some (.invokestatic 42, 3, 86, 2, 0)) := rfl
theorem bl_L_goes_72 : blk bL_goes 72 = some ([], some (.invokestatic 45, 3, 87, 1, 0)) := rfl
theorem bl_L_goes_75 : blk bL_goes 75 = some ([], some (.goto 4, 3, 0, 0, 0)) := rfl
theorem bl_L_goes_78 : blk bL_goes 78 = some ([(.iconst 0, 1, 0, 0, 0)], none) := rfl
theorem bl_L_goes_79 : blk bL_goes 79 = some ([(.istore 7, 2, 0, 0, 0), (.iload 4, 2, 0, 0, 0), (.iload 6, 2, 0, 0, 0)], some (.ifCond .eq 7, 3, 0, 0, 0)) := rfl
theorem bl_L_goes_88 : blk bL_goes 88 = some ([(.iconst 1, 1, 1, 0, 0)], some (.goto 4, 3, 0, 0, 0)) := rfl
theorem bl_L_goes_92 : blk bL_goes 92 = some ([(.iconst 0, 1, 0, 0, 0)], none) := rfl
theorem bl_L_goes_93 : blk bL_goes 93 = some ([(.iadd, 1, 0, 0, 0), (.istore 4, 2, 0, 0, 0), (.iload 7, 2, 0, 0, 0), (.iload_n 3, 1, 0, 0, 0)], some (.if_icmp .le 8, 3, 0, 0, 0)) := rfl
theorem bl_L_goes_102 : blk bL_goes 102 = some ([(.iload 5, 2, 0, 0, 0)], some (.goto 4, 3, 0, 0, 0)) := rfl
theorem bl_L_goes_107 : blk bL_goes 107 = some ([(.iload_n 2, 1, 0, 0, 0)], none) := rfl
theorem bl_L_goes_108 : blk bL_goes 108 = some ([(.istore_n 2, 1, 0, 0, 0), (.iload 7, 2, 0, 0, 0), (.iload_n 3, 1, 0, 0, 0)], some (.if_icmp .le 8, 3, 0, 0, 0)) := rfl
theorem bl_L_goes_115 : blk bL_goes 115 = some ([(.iload 7, 2, 0, 0, 0)], some (.goto 4, 3, 0, 0, 0)) := rfl
theorem bl_L_goes_120 : blk bL_goes 120 = some ([(.iload_n 3, 1, 0, 0, 0)], none) := rfl
theorem bl_L_goes_121 : blk bL_goes 121 = some ([(.istore_n 3, 1, 0, 0, 0), (.iinc 5 1, 3, 1, 0, 0)], some (.goto (-114), 3, 0, 0, 0)) := rfl
theorem bl_L_goes_128 : blk bL_goes 128 = some ([(.iconst 2, 1, 2, 0, 0), (.iload_n 3, 1, 0, 0, 0), (.imul, 1, 0, 0, 0), (.iload 4, 2, 0, 0, 0)], some (.if_icmp .le 7, 3, 0, 0, 0)) := rfl
theorem bl_L_goes_136 : blk bL_goes 136 = some ([(.iload_n 2, 1, 0, 0, 0)], some (.goto 5, 3, 0, 0, 0)) := rfl
theorem bl_L_goes_140 : blk bL_goes 140 = some ([(.bipush (-4), 2, 4, 1, 0)], none) := rfl
theorem bl_L_goes_142 : blk bL_goes 142 = some ([], some (.ireturn, 1, 0, 0, 0)) := rfl
theorem bl_L_day_0 : blk bL_day 0 = some ([(.aload_n 0, 1, 0, 0, 0), (.bipush 21, 2, 21, 0, 0), (.dup2, 1, 0, 0, 0), (.iaload, 1, 0, 0, 0), (.iconst 1, 1, 1, 0, 0), (.iadd, 1, 0, 0, 0), (.iastore, 1, 0, 0, 0), (.aload_n 0, 1, 0, 0, 0), (.aload_n 0, 1, 0, 0, 0), (.bipush 21, 2, 21, 0, 0), (.iaload, 1, 0, 0, 0)], some (.invokestatic 48, 3, 88, 2, 0)) := rfl
theorem bl_L_day_16 : blk bL_day 16 = some ([(.istore_n 1, 1, 0, 0, 0), (.iload_n 1, 1, 0, 0, 0)], some (.ifCond .ge 8, 3, 0, 0, 0)) := rfl
theorem bl_L_day_21 : blk bL_day 21 = some ([(.bipush (-9), 2, 9, 1, 0)], some (.goto 12, 3, 0, 0, 0)) := rfl
theorem bl_L_day_26 : blk bL_day 26 = some ([(.aload_n 0, 1, 0, 0, 0), (.iload_n 1, 1, 0, 0, 0), (.aload_n 0, 1, 0, 0, 0), (.bipush 21, 2, 21, 0, 0), (.iaload, 1, 0, 0, 0)], some (.invokestatic 39, 3, 83, 3, 0)) := rfl
theorem bl_L_day_35 : blk bL_day 35 = some ([(.istore_n 2, 1, 0, 0, 0), (.iload_n 1, 1, 0, 0, 0)], some (.ifCond .ge 7, 3, 0, 0, 0)) := rfl
theorem bl_L_day_40 : blk bL_day 40 = some ([(.iconst (-1), 1, 1, 1, 0)], some (.goto 8, 3, 0, 0, 0)) := rfl
theorem bl_L_day_44 : blk bL_day 44 = some ([(.aload_n 0, 1, 0, 0, 0), (.iload_n 2, 1, 0, 0, 0)], some (.invokestatic 9, 3, 78, 2, 0)) := rfl
theorem bl_L_day_49 : blk bL_day 49 = some ([(.istore_n 3, 1, 0, 0, 0), (.aload_n 0, 1, 0, 0, 0), (.bipush 23, 2, 23, 0, 0), (.dup2, 1, 0, 0, 0), (.iaload, 1, 0, 0, 0), (.iload_n 1, 1, 0, 0, 0)], some (.ifCond .ge 17, 3, 0, 0, 0)) := rfl
theorem bl_L_day_59 : blk bL_day 59 = some ([(.aload_n 0, 1, 0, 0, 0), (.bipush 23, 2, 23, 0, 0), (.iaload, 1, 0, 0, 0), (.sipush 9999, 3, 9999, 0, 0)], some (.if_icmp .ge 7, 3, 0, 0, 0)) := rfl
theorem bl_L_day_69 : blk bL_day 69 = some ([(.iconst 1, 1, 1, 0, 0)], some (.goto 4, 3, 0, 0, 0)) := rfl
theorem bl_L_day_73 : blk bL_day 73 = some ([(.iconst 0, 1, 0, 0, 0)], none) := rfl
theorem bl_L_day_74 : blk bL_day 74 = some ([(.iadd, 1, 0, 0, 0), (.iastore, 1, 0, 0, 0), (.iload_n 3, 1, 0, 0, 0)], some (.ifCond .lt 11, 3, 0, 0, 0)) := rfl
theorem bl_L_day_80 : blk bL_day 80 = some ([(.aload_n 0, 1, 0, 0, 0), (.bipush 10, 2, 10, 0, 0), (.iload_n 3, 1, 0, 0, 0), (.iadd, 1, 0, 0, 0), (.bipush (-4), 2, 4, 1, 0), (.iastore, 1, 0, 0, 0)], none) := rfl
theorem bl_L_day_88 : blk bL_day 88 = some ([(.iload_n 1, 1, 0, 0, 0)], some (.ifCond .lt 10, 3, 0, 0, 0)) := rfl
theorem bl_L_day_92 : blk bL_day 92 = some ([(.aload_n 0, 1, 0, 0, 0), (.bipush 10, 2, 10, 0, 0), (.iload_n 1, 1, 0, 0, 0), (.iadd, 1, 0, 0, 0), (.iload_n 2, 1, 0, 0, 0), (.iastore, 1, 0, 0, 0)], none) := rfl
theorem bl_L_day_99 : blk bL_day 99 = some ([(.aload_n 0, 1, 0, 0, 0), (.bipush 22, 2, 22, 0, 0), (.iconst 1, 1, 1, 0, 0), (.aload_n 0, 1, 0, 0, 0), (.bipush 22, 2, 22, 0, 0), (.iaload, 1, 0, 0, 0), (.isub, 1, 0, 0, 0), (.iastore, 1, 0, 0, 0)], some (.return_, 1, 0, 0, 0)) := rfl
theorem bl_L_days_0 : blk bL_days 0 = some ([(.iconst 0, 1, 0, 0, 0), (.istore_n 2, 1, 0, 0, 0)], none) := rfl
theorem bl_L_days_2 : blk bL_days 2 = some ([(.iload_n 2, 1, 0, 0, 0), (.iload_n 1, 1, 0, 0, 0)], some (.if_icmp .ge 13, 3, 0, 0, 0)) := rfl
theorem bl_L_days_7 : blk bL_days 7 = some ([(.aload_n 0, 1, 0, 0, 0)], some (.invokestatic 51, 3, 89, 1, 0)) := rfl
theorem bl_L_days_11 : blk bL_days 11 = some ([(.iinc 2 1, 3, 1, 0, 0)], some (.goto (-12), 3, 0, 0, 0)) := rfl
theorem bl_L_days_17 : blk bL_days 17 = some ([], some (.return_, 1, 0, 0, 0)) := rfl
theorem bl_L_there_0 : blk bL_there 0 = some ([(.iconst 0, 1, 0, 0, 0), (.istore_n 2, 1, 0, 0, 0), (.iconst 0, 1, 0, 0, 0), (.istore_n 3, 1, 0, 0, 0)], none) := rfl
theorem bl_L_there_4 : blk bL_there 4 = some ([(.iload_n 3, 1, 0, 0, 0), (.aload_n 0, 1, 0, 0, 0), (.bipush 20, 2, 20, 0, 0), (.iaload, 1, 0, 0, 0)], some (.if_icmp .ge 42, 3, 0, 0, 0)) := rfl
theorem bl_L_there_12 : blk bL_there 12 = some ([(.iload_n 2, 1, 0, 0, 0), (.aload_n 0, 1, 0, 0, 0), (.bipush 10, 2, 10, 0, 0), (.iload_n 3, 1, 0, 0, 0), (.iadd, 1, 0, 0, 0), (.iaload, 1, 0, 0, 0)], some (.ifCond .lt 23, 3, 0, 0, 0)) := rfl
theorem bl_L_there_22 : blk bL_there 22 = some ([(.iload_n 1, 1, 0, 0, 0)], some (.ifCond .lt 13, 3, 0, 0, 0)) := rfl
theorem bl_L_there_26 : blk bL_there 26 = some ([(.aload_n 0, 1, 0, 0, 0), (.iload_n 3, 1, 0, 0, 0), (.iaload, 1, 0, 0, 0), (.bipush 100, 2, 100, 0, 0), (.idiv, 1, 0, 0, 0), (.iload_n 1, 1, 0, 0, 0)], some (.if_icmp .ne 9, 3, 0, 0, 0)) := rfl
theorem bl_L_there_36 : blk bL_there 36 = some ([(.iconst 1, 1, 1, 0, 0), (.iload_n 3, 1, 0, 0, 0), (.ishl, 1, 0, 0, 0)], some (.goto 4, 3, 0, 0, 0)) := rfl
theorem bl_L_there_42 : blk bL_there 42 = some ([(.iconst 0, 1, 0, 0, 0)], none) := rfl
theorem bl_L_there_43 : blk bL_there 43 = some ([(.ior, 1, 0, 0, 0), (.istore_n 2, 1, 0, 0, 0), (.iinc 3 1, 3, 1, 0, 0)], some (.goto (-44), 3, 0, 0, 0)) := rfl
theorem bl_L_there_51 : blk bL_there 51 = some ([(.iload_n 2, 1, 0, 0, 0)], some (.ireturn, 1, 0, 0, 0)) := rfl
theorem bl_L_board_0 : blk bL_board 0 = some ([(.aload_n 2, 1, 0, 0, 0), (.iload_n 3, 1, 0, 0, 0)], some (.invokestatic 58, 3, 77, 2, 0)) := rfl
theorem bl_L_board_5 : blk bL_board 5 = some ([(.istore 4, 2, 0, 0, 0), (.iconst 1, 1, 1, 0, 0), (.istore 5, 2, 0, 0, 0), (.iconst 0, 1, 0, 0, 0), (.istore 6, 2, 0, 0, 0)], none) := rfl
theorem bl_L_board_13 : blk bL_board 13 = some ([(.iload 6, 2, 0, 0, 0), (.iload 4, 2, 0, 0, 0), (.bipush 15, 2, 15, 0, 0), (.iand, 1, 0, 0, 0), (.bipush 11, 2, 11, 0, 0), (.irem, 1, 0, 0, 0)], some (.if_icmp .ge 171, 3, 0, 0, 0)) := rfl
theorem bl_L_board_26 : blk bL_board 26 = some ([(.aload_n 2, 1, 0, 0, 0), (.iload_n 3, 1, 0, 0, 0), (.iconst 1, 1, 1, 0, 0), (.iadd, 1, 0, 0, 0), (.iload 6, 2, 0, 0, 0), (.iadd, 1, 0, 0, 0)], some (.invokestatic 58, 3, 77, 2, 0)) := rfl
theorem bl_L_board_36 : blk bL_board 36 = some ([(.istore 7, 2, 0, 0, 0), (.iload 7, 2, 0, 0, 0), (.bipush 7, 2, 7, 0, 0), (.iand, 1, 0, 0, 0), (.istore 8, 2, 0, 0, 0), (.iload 7, 2, 0, 0, 0), (.iconst 3, 1, 3, 0, 0), (.ishr, 1, 0, 0, 0), (.bipush 15, 2, 15, 0, 0), (.iand, 1, 0, 0, 0), (.bipush 10, 2, 10, 0, 0), (.irem, 1, 0, 0, 0), (.istore 9, 2, 0, 0, 0), (.iload 7, 2, 0, 0, 0), (.bipush 7, 2, 7, 0, 0), (.ishr, 1, 0, 0, 0), (.iconst 1, 1, 1, 0, 0), (.iand, 1, 0, 0, 0), (.istore 10, 2, 0, 0, 0), (.iload 7, 2, 0, 0, 0), (.bipush 8, 2, 8, 0, 0), (.ishr, 1, 0, 0, 0), (.bipush 63, 2, 63, 0, 0), (.iand, 1, 0, 0, 0), (.bipush 36, 2, 36, 0, 0), (.irem, 1, 0, 0, 0), (.istore 11, 2, 0, 0, 0), (.aload_n 1, 1, 0, 0, 0), (.iload 11, 2, 0, 0, 0)], some (.invokestatic 9, 3, 78, 2, 0)) := rfl
theorem bl_L_board_85 : blk bL_board 85 = some ([], some (.ifCond .ge 7, 3, 0, 0, 0)) := rfl
theorem bl_L_board_88 : blk bL_board 88 = some ([(.iconst 1, 1, 1, 0, 0)], some (.goto 4, 3, 0, 0, 0)) := rfl
theorem bl_L_board_92 : blk bL_board 92 = some ([(.iconst 0, 1, 0, 0, 0)], none) := rfl
theorem bl_L_board_93 : blk bL_board 93 = some ([(.istore 12, 2, 0, 0, 0), (.iload 5, 2, 0, 0, 0), (.aload_n 0, 1, 0, 0, 0), (.iconst 1, 1, 1, 0, 0), (.iconst 1, 1, 1, 0, 0), (.iload 8, 2, 0, 0, 0), (.iload 9, 2, 0, 0, 0)], some (.invokevirtual 61, 3, 75, 5, 2)) := rfl
theorem bl_L_board_107 : blk bL_board 107 = some ([], some (.ifCond .ne 33, 3, 0, 0, 0)) := rfl
theorem bl_L_board_110 : blk bL_board 110 = some ([(.aload_n 0, 1, 0, 0, 0), (.iconst 1, 1, 1, 0, 0), (.iload 10, 2, 0, 0, 0), (.iload 11, 2, 0, 0, 0)], some (.invokevirtual 67, 3, 54, 4, 2)) := rfl
theorem bl_L_board_119 : blk bL_board 119 = some ([(.iload 12, 2, 0, 0, 0)], some (.ifCond .eq 10, 3, 0, 0, 0)) := rfl
theorem bl_L_board_124 : blk bL_board 124 = some ([(.aload_n 1, 1, 0, 0, 0), (.bipush 20, 2, 20, 0, 0), (.iaload, 1, 0, 0, 0)], some (.goto 5, 3, 0, 0, 0)) := rfl
theorem bl_L_board_131 : blk bL_board 131 = some ([(.bipush (-3), 2, 3, 1, 0)], none) := rfl
theorem bl_L_board_133 : blk bL_board 133 = some ([], some (.if_icmp .ne 7, 3, 0, 0, 0)) := rfl
theorem bl_L_board_136 : blk bL_board 136 = some ([(.iconst 1, 1, 1, 0, 0)], some (.goto 4, 3, 0, 0, 0)) := rfl
theorem bl_L_board_140 : blk bL_board 140 = some ([(.iconst 0, 1, 0, 0, 0)], none) := rfl
theorem bl_L_board_141 : blk bL_board 141 = some ([(.iand, 1, 0, 0, 0), (.istore 5, 2, 0, 0, 0), (.iload 12, 2, 0, 0, 0)], some (.ifCond .eq 42, 3, 0, 0, 0)) := rfl
theorem bl_L_board_149 : blk bL_board 149 = some ([(.aload_n 1, 1, 0, 0, 0), (.aload_n 1, 1, 0, 0, 0), (.bipush 20, 2, 20, 0, 0), (.iaload, 1, 0, 0, 0), (.iload 8, 2, 0, 0, 0), (.bipush 10, 2, 10, 0, 0), (.iload 9, 2, 0, 0, 0), (.imul, 1, 0, 0, 0), (.iadd, 1, 0, 0, 0), (.bipush 100, 2, 100, 0, 0), (.iload 10, 2, 0, 0, 0), (.imul, 1, 0, 0, 0), (.iadd, 1, 0, 0, 0), (.iastore, 1, 0, 0, 0), (.aload_n 1, 1, 0, 0, 0), (.bipush 10, 2, 10, 0, 0), (.aload_n 1, 1, 0, 0, 0), (.bipush 20, 2, 20, 0, 0), (.iaload, 1, 0, 0, 0), (.iadd, 1, 0, 0, 0), (.iload 11, 2, 0, 0, 0), (.iastore, 1, 0, 0, 0), (.aload_n 1, 1, 0, 0, 0), (.bipush 20, 2, 20, 0, 0), (.dup2, 1, 0, 0, 0), (.iaload, 1, 0, 0, 0), (.iconst 1, 1, 1, 0, 0), (.iadd, 1, 0, 0, 0), (.iastore, 1, 0, 0, 0)], none) := rfl
theorem bl_L_board_188 : blk bL_board 188 = some ([(.iinc 6 1, 3, 1, 0, 0)], some (.goto (-178), 3, 0, 0, 0)) := rfl
theorem bl_L_board_194 : blk bL_board 194 = some ([(.iload 4, 2, 0, 0, 0), (.iconst 4, 1, 4, 0, 0), (.ishr, 1, 0, 0, 0), (.iconst 3, 1, 3, 0, 0), (.iand, 1, 0, 0, 0)], some (.ifCond .ne 60, 3, 0, 0, 0)) := rfl
theorem bl_L_board_203 : blk bL_board 203 = some ([(.aload_n 1, 1, 0, 0, 0), (.bipush 20, 2, 20, 0, 0), (.iaload, 1, 0, 0, 0)], some (.ifCond .le 53, 3, 0, 0, 0)) := rfl
theorem bl_L_board_210 : blk bL_board 210 = some ([(.iload 4, 2, 0, 0, 0), (.bipush 6, 2, 6, 0, 0), (.ishr, 1, 0, 0, 0), (.bipush 15, 2, 15, 0, 0), (.iand, 1, 0, 0, 0), (.aload_n 1, 1, 0, 0, 0), (.bipush 20, 2, 20, 0, 0), (.iaload, 1, 0, 0, 0), (.irem, 1, 0, 0, 0), (.istore 6, 2, 0, 0, 0), (.iload 5, 2, 0, 0, 0), (.aload_n 0, 1, 0, 0, 0), (.iload 6, 2, 0, 0, 0)], some (.invokevirtual 70, 3, 56, 2, 2)) := rfl
theorem bl_L_board_233 : blk bL_board 233 = some ([(.aload_n 1, 1, 0, 0, 0), (.bipush 10, 2, 10, 0, 0), (.iload 6, 2, 0, 0, 0), (.iadd, 1, 0, 0, 0), (.iaload, 1, 0, 0, 0)], some (.if_icmp .ne 7, 3, 0, 0, 0)) := rfl
theorem bl_L_board_243 : blk bL_board 243 = some ([(.iconst 1, 1, 1, 0, 0)], some (.goto 4, 3, 0, 0, 0)) := rfl
theorem bl_L_board_247 : blk bL_board 247 = some ([(.iconst 0, 1, 0, 0, 0)], none) := rfl
theorem bl_L_board_248 : blk bL_board 248 = some ([(.iand, 1, 0, 0, 0), (.istore 5, 2, 0, 0, 0), (.aload_n 1, 1, 0, 0, 0), (.bipush 10, 2, 10, 0, 0), (.iload 6, 2, 0, 0, 0), (.iadd, 1, 0, 0, 0), (.bipush (-4), 2, 4, 1, 0), (.iastore, 1, 0, 0, 0)], none) := rfl
theorem bl_L_board_260 : blk bL_board 260 = some ([(.aload_n 1, 1, 0, 0, 0), (.bipush 22, 2, 22, 0, 0), (.iload 4, 2, 0, 0, 0), (.bipush 10, 2, 10, 0, 0), (.ishr, 1, 0, 0, 0), (.iconst 1, 1, 1, 0, 0), (.iand, 1, 0, 0, 0), (.iastore, 1, 0, 0, 0), (.iload 5, 2, 0, 0, 0), (.aload_n 0, 1, 0, 0, 0), (.aload_n 1, 1, 0, 0, 0), (.bipush 22, 2, 22, 0, 0), (.iaload, 1, 0, 0, 0)], some (.invokevirtual 73, 3, 57, 2, 2)) := rfl
theorem bl_L_board_281 : blk bL_board 281 = some ([], some (.ifCond .ne 7, 3, 0, 0, 0)) := rfl
theorem bl_L_board_284 : blk bL_board 284 = some ([(.iconst 1, 1, 1, 0, 0)], some (.goto 4, 3, 0, 0, 0)) := rfl
theorem bl_L_board_288 : blk bL_board 288 = some ([(.iconst 0, 1, 0, 0, 0)], none) := rfl
theorem bl_L_board_289 : blk bL_board 289 = some ([(.iand, 1, 0, 0, 0), (.istore 5, 2, 0, 0, 0), (.iload 4, 2, 0, 0, 0), (.bipush 11, 2, 11, 0, 0), (.ishr, 1, 0, 0, 0), (.iconst 1, 1, 1, 0, 0), (.iand, 1, 0, 0, 0)], some (.ifCond .ne 7, 3, 0, 0, 0)) := rfl
theorem bl_L_board_302 : blk bL_board 302 = some ([(.iconst 0, 1, 0, 0, 0)], some (.goto 13, 3, 0, 0, 0)) := rfl
theorem bl_L_board_306 : blk bL_board 306 = some ([(.iconst 1, 1, 1, 0, 0), (.iload 4, 2, 0, 0, 0), (.bipush 12, 2, 12, 0, 0), (.ishr, 1, 0, 0, 0), (.bipush 7, 2, 7, 0, 0), (.iand, 1, 0, 0, 0), (.iadd, 1, 0, 0, 0)], none) := rfl
theorem bl_L_board_316 : blk bL_board 316 = some ([(.istore 6, 2, 0, 0, 0), (.aload_n 1, 1, 0, 0, 0), (.iload 6, 2, 0, 0, 0)], some (.invokestatic 76, 3, 90, 2, 0)) := rfl
theorem bl_L_board_324 : blk bL_board 324 = some ([(.iload 5, 2, 0, 0, 0)], some (.ifCond .eq 29, 3, 0, 0, 0)) := rfl
theorem bl_L_board_329 : blk bL_board 329 = some ([(.iload 6, 2, 0, 0, 0)], some (.ifCond .eq 20, 3, 0, 0, 0)) := rfl
theorem bl_L_board_334 : blk bL_board 334 = some ([(.aload_n 0, 1, 0, 0, 0), (.iload 6, 2, 0, 0, 0)], some (.invokevirtual 80, 3, 58, 2, 2)) := rfl
theorem bl_L_board_340 : blk bL_board 340 = some ([(.aload_n 1, 1, 0, 0, 0), (.iconst (-1), 1, 1, 1, 0)], some (.invokestatic 82, 3, 91, 2, 0)) := rfl
theorem bl_L_board_345 : blk bL_board 345 = some ([], some (.invokestatic 45, 3, 87, 1, 0)) := rfl
theorem bl_L_board_348 : blk bL_board 348 = some ([], some (.if_icmp .ne 7, 3, 0, 0, 0)) := rfl
theorem bl_L_board_351 : blk bL_board 351 = some ([(.iconst 1, 1, 1, 0, 0)], some (.goto 4, 3, 0, 0, 0)) := rfl
theorem bl_L_board_355 : blk bL_board 355 = some ([(.iconst 0, 1, 0, 0, 0)], none) := rfl
theorem bl_L_board_356 : blk bL_board 356 = some ([], some (.ireturn, 1, 1, 0, 0)) := rfl
theorem bl_L_sight_0 : blk bL_sight 0 = some ([(.ldc2_w 85, 3, 7, 0, 0), (.lstore_n 1, 1, 0, 0, 0), (.iconst 0, 1, 0, 0, 0), (.istore_n 3, 1, 0, 0, 0)], none) := rfl
theorem bl_L_sight_6 : blk bL_sight 6 = some ([(.iload_n 3, 1, 0, 0, 0), (.iconst 5, 1, 5, 0, 0)], some (.if_icmp .ge 22, 3, 0, 0, 0)) := rfl
theorem bl_L_sight_11 : blk bL_sight 11 = some ([(.ldc2_w 87, 3, 31, 0, 0), (.lload_n 1, 1, 0, 0, 0), (.lmul, 1, 0, 0, 0), (.aload_n 0, 1, 0, 0, 0), (.iload_n 3, 1, 0, 0, 0)], some (.invokevirtual 89, 3, 74, 2, 2)) := rfl
theorem bl_L_sight_21 : blk bL_sight 21 = some ([(.i2l, 1, 0, 0, 0), (.ladd, 1, 0, 0, 0), (.lstore_n 1, 1, 0, 0, 0), (.iinc 3 1, 3, 1, 0, 0)], some (.goto (-21), 3, 0, 0, 0)) := rfl
theorem bl_L_sight_30 : blk bL_sight 30 = some ([(.iconst 0, 1, 0, 0, 0), (.istore_n 3, 1, 0, 0, 0)], none) := rfl
theorem bl_L_sight_32 : blk bL_sight 32 = some ([(.iload_n 3, 1, 0, 0, 0), (.aload_n 0, 1, 0, 0, 0), (.iconst 0, 1, 0, 0, 0)], some (.invokevirtual 89, 3, 74, 2, 2)) := rfl
theorem bl_L_sight_38 : blk bL_sight 38 = some ([], some (.if_icmp .ge 40, 3, 0, 0, 0)) := rfl
theorem bl_L_sight_41 : blk bL_sight 41 = some ([(.iconst 0, 1, 0, 0, 0), (.istore 4, 2, 0, 0, 0)], none) := rfl
theorem bl_L_sight_44 : blk bL_sight 44 = some ([(.iload 4, 2, 0, 0, 0), (.bipush 7, 2, 7, 0, 0)], some (.if_icmp .ge 24, 3, 0, 0, 0)) := rfl
theorem bl_L_sight_51 : blk bL_sight 51 = some ([(.ldc2_w 87, 3, 31, 0, 0), (.lload_n 1, 1, 0, 0, 0), (.lmul, 1, 0, 0, 0), (.aload_n 0, 1, 0, 0, 0), (.iload_n 3, 1, 0, 0, 0), (.iload 4, 2, 0, 0, 0)], some (.invokevirtual 92, 3, 52, 3, 2)) := rfl
theorem bl_L_sight_63 : blk bL_sight 63 = some ([(.i2l, 1, 0, 0, 0), (.ladd, 1, 0, 0, 0), (.lstore_n 1, 1, 0, 0, 0), (.iinc 4 1, 3, 1, 0, 0)], some (.goto (-25), 3, 0, 0, 0)) := rfl
theorem bl_L_sight_72 : blk bL_sight 72 = some ([(.iinc 3 1, 3, 1, 0, 0)], some (.goto (-43), 3, 0, 0, 0)) := rfl
theorem bl_L_sight_78 : blk bL_sight 78 = some ([(.lload_n 1, 1, 0, 0, 0)], some (.lreturn, 1, 0, 0, 0)) := rfl


