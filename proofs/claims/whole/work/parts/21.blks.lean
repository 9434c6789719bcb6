/-! the blocks, one by one (by program) -/
theorem bl_X0_becomes_0 : blk bX0_becomes 0 = some ([(.aload_n 1, 1, 0, 0, 0), (.getfield 9, 3, 0, 0, 0), (.iconst 0, 1, 0, 0, 0), (.aload_n 0, 1, 0, 0, 0), (.getfield 9, 3, 0, 0, 0), (.iconst 0, 1, 0, 0, 0), (.bipush 10, 2, 10, 0, 0), (.invokestatic 46, 3, 0, 0, 0), (.aload_n 1, 1, 0, 0, 0), (.getfield 15, 3, 0, 1, 0), (.iconst 0, 1, 0, 0, 0), (.aload_n 0, 1, 0, 0, 0), (.getfield 15, 3, 0, 1, 0), (.iconst 0, 1, 0, 0, 0), (.bipush 10, 2, 10, 0, 0), (.invokestatic 46, 3, 0, 0, 0), (.aload_n 1, 1, 0, 0, 0), (.getfield 18, 3, 0, 2, 0), (.iconst 0, 1, 0, 0, 0), (.aload_n 0, 1, 0, 0, 0), (.getfield 18, 3, 0, 2, 0), (.iconst 0, 1, 0, 0, 0), (.bipush 10, 2, 10, 0, 0), (.invokestatic 46, 3, 0, 0, 0), (.aload_n 1, 1, 0, 0, 0), (.getfield 21, 3, 0, 3, 0), (.iconst 0, 1, 0, 0, 0), (.aload_n 0, 1, 0, 0, 0), (.getfield 21, 3, 0, 3, 0), (.iconst 0, 1, 0, 0, 0), (.bipush 10, 2, 10, 0, 0), (.invokestatic 46, 3, 0, 0, 0), (.aload_n 1, 1, 0, 0, 0), (.getfield 24, 3, 0, 4, 0), (.iconst 0, 1, 0, 0, 0), (.aload_n 0, 1, 0, 0, 0), (.getfield 24, 3, 0, 4, 0), (.iconst 0, 1, 0, 0, 0), (.bipush 36, 2, 36, 0, 0), (.invokestatic 46, 3, 0, 0, 0), (.aload_n 0, 1, 0, 0, 0), (.aload_n 1, 1, 0, 0, 0), (.getfield 27, 3, 0, 5, 0), (.putfield 27, 3, 0, 5, 0), (.aload_n 0, 1, 0, 0, 0), (.aload_n 1, 1, 0, 0, 0), (.getfield 31, 3, 0, 6, 0), (.putfield 31, 3, 0, 6, 0), (.aload_n 0, 1, 0, 0, 0), (.aload_n 1, 1, 0, 0, 0), (.getfield 34, 3, 0, 7, 0), (.putfield 34, 3, 0, 7, 0), (.aload_n 0, 1, 0, 0, 0), (.aload_n 1, 1, 0, 0, 0), (.getfield 37, 3, 0, 8, 0), (.putfield 37, 3, 0, 8, 0)], some (.return_, 1, 0, 0, 0)) := rfl
theorem bl_X0_has_0 : blk bX0_has 0 = some ([(.iload_n 1, 1, 0, 0, 0)], some (.ifCond .lt 21, 3, 0, 0, 0)) := rfl
theorem bl_X0_has_4 : blk bX0_has 4 = some ([(.iload_n 1, 1, 0, 0, 0), (.aload_n 0, 1, 0, 0, 0), (.getfield 27, 3, 0, 5, 0)], some (.if_icmp .ge 13, 3, 0, 0, 0)) := rfl
theorem bl_X0_has_12 : blk bX0_has 12 = some ([(.iload_n 1, 1, 0, 0, 0), (.bipush 10, 2, 10, 0, 0)], some (.if_icmp .ge 7, 3, 0, 0, 0)) := rfl
theorem bl_X0_has_18 : blk bX0_has 18 = some ([(.iconst 1, 1, 1, 0, 0)], some (.goto 4, 3, 0, 0, 0)) := rfl
theorem bl_X0_has_22 : blk bX0_has 22 = some ([(.iconst 0, 1, 0, 0, 0)], none) := rfl
theorem bl_X0_has_23 : blk bX0_has 23 = some ([], some (.ireturn, 1, 1, 0, 0)) := rfl
theorem bl_X0_isThere_0 : blk bX0_isThere 0 = some ([(.aload_n 0, 1, 0, 0, 0), (.iload_n 1, 1, 0, 0, 0)], some (.invokevirtual 52, 3, 1, 2, 0)) := rfl
theorem bl_X0_isThere_5 : blk bX0_isThere 5 = some ([], some (.ifCond .eq 18, 3, 0, 0, 0)) := rfl
theorem bl_X0_isThere_8 : blk bX0_isThere 8 = some ([(.aload_n 0, 1, 0, 0, 0), (.getfield 21, 3, 0, 3, 0), (.iload_n 1, 1, 0, 0, 0), (.iaload, 1, 0, 0, 0), (.bipush 36, 2, 36, 0, 0)], some (.if_icmp .eq 7, 3, 0, 0, 0)) := rfl
theorem bl_X0_isThere_19 : blk bX0_isThere 19 = some ([(.iconst 1, 1, 1, 0, 0)], some (.goto 4, 3, 0, 0, 0)) := rfl
theorem bl_X0_isThere_23 : blk bX0_isThere 23 = some ([(.iconst 0, 1, 0, 0, 0)], none) := rfl
theorem bl_X0_isThere_24 : blk bX0_isThere 24 = some ([], some (.ireturn, 1, 1, 0, 0)) := rfl
theorem bl_X0_isThereOf_0 : blk bX0_isThereOf 0 = some ([(.iload_n 1, 1, 0, 0, 0)], some (.ifCond .lt 42, 3, 0, 0, 0)) := rfl
theorem bl_X0_isThereOf_4 : blk bX0_isThereOf 4 = some ([(.iload_n 1, 1, 0, 0, 0), (.aload_n 0, 1, 0, 0, 0), (.getfield 27, 3, 0, 5, 0)], some (.if_icmp .ge 34, 3, 0, 0, 0)) := rfl
theorem bl_X0_isThereOf_12 : blk bX0_isThereOf 12 = some ([(.iload_n 1, 1, 0, 0, 0), (.bipush 10, 2, 10, 0, 0)], some (.if_icmp .ge 28, 3, 0, 0, 0)) := rfl
theorem bl_X0_isThereOf_18 : blk bX0_isThereOf 18 = some ([(.aload_n 0, 1, 0, 0, 0), (.getfield 18, 3, 0, 2, 0), (.iload_n 1, 1, 0, 0, 0), (.iaload, 1, 0, 0, 0), (.iload_n 2, 1, 0, 0, 0)], some (.if_icmp .ne 18, 3, 0, 0, 0)) := rfl
theorem bl_X0_isThereOf_28 : blk bX0_isThereOf 28 = some ([(.aload_n 0, 1, 0, 0, 0), (.getfield 21, 3, 0, 3, 0), (.iload_n 1, 1, 0, 0, 0), (.iaload, 1, 0, 0, 0), (.bipush 36, 2, 36, 0, 0)], some (.if_icmp .eq 7, 3, 0, 0, 0)) := rfl
theorem bl_X0_isThereOf_39 : blk bX0_isThereOf 39 = some ([(.iconst 1, 1, 1, 0, 0)], some (.goto 4, 3, 0, 0, 0)) := rfl
theorem bl_X0_isThereOf_43 : blk bX0_isThereOf 43 = some ([(.iconst 0, 1, 0, 0, 0)], none) := rfl
theorem bl_X0_isThereOf_44 : blk bX0_isThereOf 44 = some ([], some (.ireturn, 1, 1, 0, 0)) := rfl
theorem bl_X0_squareOf_0 : blk bX0_squareOf 0 = some ([(.aload_n 0, 1, 0, 0, 0), (.iload_n 1, 1, 0, 0, 0)], some (.invokevirtual 52, 3, 1, 2, 0)) := rfl
theorem bl_X0_squareOf_5 : blk bX0_squareOf 5 = some ([], some (.ifCond .eq 12, 3, 0, 0, 0)) := rfl
theorem bl_X0_squareOf_8 : blk bX0_squareOf 8 = some ([(.aload_n 0, 1, 0, 0, 0), (.getfield 21, 3, 0, 3, 0), (.iload_n 1, 1, 0, 0, 0), (.iaload, 1, 0, 0, 0)], some (.goto 5, 3, 0, 0, 0)) := rfl
theorem bl_X0_squareOf_17 : blk bX0_squareOf 17 = some ([(.bipush 36, 2, 36, 0, 0)], none) := rfl
theorem bl_X0_squareOf_19 : blk bX0_squareOf 19 = some ([], some (.ireturn, 1, 0, 0, 0)) := rfl
theorem bl_X0_squareOrNone_0 : blk bX0_squareOrNone 0 = some ([(.aload_n 0, 1, 0, 0, 0), (.iload_n 1, 1, 0, 0, 0)], some (.invokevirtual 56, 3, 2, 2, 0)) := rfl
theorem bl_X0_squareOrNone_5 : blk bX0_squareOrNone 5 = some ([], some (.ifCond .eq 12, 3, 0, 0, 0)) := rfl
theorem bl_X0_squareOrNone_8 : blk bX0_squareOrNone 8 = some ([(.aload_n 0, 1, 0, 0, 0), (.getfield 21, 3, 0, 3, 0), (.iload_n 1, 1, 0, 0, 0), (.iaload, 1, 0, 0, 0)], some (.goto 5, 3, 0, 0, 0)) := rfl
theorem bl_X0_squareOrNone_17 : blk bX0_squareOrNone 17 = some ([(.bipush (-4), 2, 4, 1, 0)], none) := rfl
theorem bl_X0_squareOrNone_19 : blk bX0_squareOrNone 19 = some ([], some (.ireturn, 1, 0, 0, 0)) := rfl
theorem bl_X0_isFree_0 : blk bX0_isFree 0 = some ([(.iload_n 1, 1, 0, 0, 0)], some (.ifCond .lt 24, 3, 0, 0, 0)) := rfl
theorem bl_X0_isFree_4 : blk bX0_isFree 4 = some ([(.iload_n 1, 1, 0, 0, 0), (.bipush 36, 2, 36, 0, 0)], some (.if_icmp .ge 18, 3, 0, 0, 0)) := rfl
theorem bl_X0_isFree_10 : blk bX0_isFree 10 = some ([(.aload_n 0, 1, 0, 0, 0), (.getfield 24, 3, 0, 4, 0), (.iload_n 1, 1, 0, 0, 0), (.iaload, 1, 0, 0, 0), (.bipush (-4), 2, 4, 1, 0)], some (.if_icmp .ne 7, 3, 0, 0, 0)) := rfl
theorem bl_X0_isFree_21 : blk bX0_isFree 21 = some ([(.iconst 1, 1, 1, 0, 0)], some (.goto 4, 3, 0, 0, 0)) := rfl
theorem bl_X0_isFree_25 : blk bX0_isFree 25 = some ([(.iconst 0, 1, 0, 0, 0)], none) := rfl
theorem bl_X0_isFree_26 : blk bX0_isFree 26 = some ([], some (.ireturn, 1, 1, 0, 0)) := rfl
theorem bl_X0_isHeldBy_0 : blk bX0_isHeldBy 0 = some ([(.iload_n 1, 1, 0, 0, 0)], some (.ifCond .lt 18, 3, 0, 0, 0)) := rfl
theorem bl_X0_isHeldBy_4 : blk bX0_isHeldBy 4 = some ([(.iload_n 1, 1, 0, 0, 0), (.bipush 36, 2, 36, 0, 0)], some (.if_icmp .ge 12, 3, 0, 0, 0)) := rfl
theorem bl_X0_isHeldBy_10 : blk bX0_isHeldBy 10 = some ([(.aload_n 0, 1, 0, 0, 0), (.getfield 24, 3, 0, 4, 0), (.iload_n 1, 1, 0, 0, 0), (.iaload, 1, 0, 0, 0)], some (.goto 5, 3, 0, 0, 0)) := rfl
theorem bl_X0_isHeldBy_19 : blk bX0_isHeldBy 19 = some ([(.bipush (-4), 2, 4, 1, 0)], none) := rfl
theorem bl_X0_isHeldBy_21 : blk bX0_isHeldBy 21 = some ([(.istore_n 3, 1, 0, 0, 0), (.iload_n 3, 1, 0, 0, 0)], some (.ifCond .lt 31, 3, 0, 0, 0)) := rfl
theorem bl_X0_isHeldBy_26 : blk bX0_isHeldBy 26 = some ([(.iload_n 3, 1, 0, 0, 0), (.aload_n 0, 1, 0, 0, 0), (.getfield 27, 3, 0, 5, 0)], some (.if_icmp .ge 23, 3, 0, 0, 0)) := rfl
theorem bl_X0_isHeldBy_34 : blk bX0_isHeldBy 34 = some ([(.iload_n 3, 1, 0, 0, 0), (.bipush 10, 2, 10, 0, 0)], some (.if_icmp .ge 17, 3, 0, 0, 0)) := rfl
theorem bl_X0_isHeldBy_40 : blk bX0_isHeldBy 40 = some ([(.aload_n 0, 1, 0, 0, 0), (.getfield 18, 3, 0, 2, 0), (.iload_n 3, 1, 0, 0, 0), (.iaload, 1, 0, 0, 0), (.iload_n 2, 1, 0, 0, 0)], some (.if_icmp .ne 7, 3, 0, 0, 0)) := rfl
theorem bl_X0_isHeldBy_50 : blk bX0_isHeldBy 50 = some ([(.iconst 1, 1, 1, 0, 0)], some (.goto 4, 3, 0, 0, 0)) := rfl
theorem bl_X0_isHeldBy_54 : blk bX0_isHeldBy 54 = some ([(.iconst 0, 1, 0, 0, 0)], none) := rfl
theorem bl_X0_isHeldBy_55 : blk bX0_isHeldBy 55 = some ([], some (.ireturn, 1, 1, 0, 0)) := rfl
theorem bl_X3_isKind_0 : blk bX3_isKind 0 = some ([(.iload_n 0, 1, 0, 0, 0)], some (.ifCond .lt 13, 3, 0, 0, 0)) := rfl
theorem bl_X3_isKind_4 : blk bX3_isKind 4 = some ([(.iload_n 0, 1, 0, 0, 0), (.bipush 8, 2, 8, 0, 0)], some (.if_icmp .ge 7, 3, 0, 0, 0)) := rfl
theorem bl_X3_isKind_10 : blk bX3_isKind 10 = some ([(.iconst 1, 1, 1, 0, 0)], some (.goto 4, 3, 0, 0, 0)) := rfl
theorem bl_X3_isKind_14 : blk bX3_isKind 14 = some ([(.iconst 0, 1, 0, 0, 0)], none) := rfl
theorem bl_X3_isKind_15 : blk bX3_isKind 15 = some ([], some (.ireturn, 1, 1, 0, 0)) := rfl
theorem bl_X3_isFigure_0 : blk bX3_isFigure 0 = some ([(.iload_n 0, 1, 0, 0, 0)], some (.ifCond .lt 13, 3, 0, 0, 0)) := rfl
theorem bl_X3_isFigure_4 : blk bX3_isFigure 4 = some ([(.iload_n 0, 1, 0, 0, 0), (.bipush 10, 2, 10, 0, 0)], some (.if_icmp .ge 7, 3, 0, 0, 0)) := rfl
theorem bl_X3_isFigure_10 : blk bX3_isFigure 10 = some ([(.iconst 1, 1, 1, 0, 0)], some (.goto 4, 3, 0, 0, 0)) := rfl
theorem bl_X3_isFigure_14 : blk bX3_isFigure 14 = some ([(.iconst 0, 1, 0, 0, 0)], none) := rfl
theorem bl_X3_isFigure_15 : blk bX3_isFigure 15 = some ([], some (.ireturn, 1, 1, 0, 0)) := rfl
theorem bl_X3_isSide_0 : blk bX3_isSide 0 = some ([(.iload_n 0, 1, 0, 0, 0)], some (.ifCond .eq 8, 3, 0, 0, 0)) := rfl
theorem bl_X3_isSide_4 : blk bX3_isSide 4 = some ([(.iload_n 0, 1, 0, 0, 0), (.iconst 1, 1, 1, 0, 0)], some (.if_icmp .ne 7, 3, 0, 0, 0)) := rfl
theorem bl_X3_isSide_9 : blk bX3_isSide 9 = some ([(.iconst 1, 1, 1, 0, 0)], some (.goto 4, 3, 0, 0, 0)) := rfl
theorem bl_X3_isSide_13 : blk bX3_isSide 13 = some ([(.iconst 0, 1, 0, 0, 0)], none) := rfl
theorem bl_X3_isSide_14 : blk bX3_isSide 14 = some ([], some (.ireturn, 1, 1, 0, 0)) := rfl
theorem bl_X0_addPiece_0 : blk bX0_addPiece 0 = some ([(.aload_n 0, 1, 0, 0, 0), (.getfield 27, 3, 0, 5, 0)], some (.ifCond .lt 42, 3, 0, 0, 0)) := rfl
theorem bl_X0_addPiece_7 : blk bX0_addPiece 7 = some ([(.aload_n 0, 1, 0, 0, 0), (.getfield 27, 3, 0, 5, 0), (.bipush 10, 2, 10, 0, 0)], some (.if_icmp .ge 33, 3, 0, 0, 0)) := rfl
theorem bl_X0_addPiece_16 : blk bX0_addPiece 16 = some ([(.iload_n 1, 1, 0, 0, 0)], some (.invokestatic 59, 3, 8, 1, 0)) := rfl
theorem bl_X0_addPiece_20 : blk bX0_addPiece 20 = some ([], some (.ifCond .eq 26, 3, 0, 0, 0)) := rfl
theorem bl_X0_addPiece_23 : blk bX0_addPiece 23 = some ([(.iload_n 2, 1, 0, 0, 0)], some (.invokestatic 62, 3, 9, 1, 0)) := rfl
theorem bl_X0_addPiece_27 : blk bX0_addPiece 27 = some ([], some (.ifCond .eq 19, 3, 0, 0, 0)) := rfl
theorem bl_X0_addPiece_30 : blk bX0_addPiece 30 = some ([(.iload_n 3, 1, 0, 0, 0)], some (.invokestatic 65, 3, 10, 1, 0)) := rfl
theorem bl_X0_addPiece_34 : blk bX0_addPiece 34 = some ([], some (.ifCond .eq 12, 3, 0, 0, 0)) := rfl
theorem bl_X0_addPiece_37 : blk bX0_addPiece 37 = some ([(.aload_n 0, 1, 0, 0, 0), (.iload 4, 2, 0, 0, 0)], some (.invokevirtual 68, 3, 6, 2, 0)) := rfl
theorem bl_X0_addPiece_43 : blk bX0_addPiece 43 = some ([], some (.ifCond .ne 5, 3, 0, 0, 0)) := rfl
theorem bl_X0_addPiece_46 : blk bX0_addPiece 46 = some ([(.iconst 0, 1, 0, 0, 0)], some (.ireturn, 1, 1, 0, 0)) := rfl
theorem bl_X0_addPiece_48 : blk bX0_addPiece 48 = some ([(.aload_n 0, 1, 0, 0, 0), (.getfield 9, 3, 0, 0, 0), (.aload_n 0, 1, 0, 0, 0), (.getfield 27, 3, 0, 5, 0), (.iload_n 1, 1, 0, 0, 0), (.iastore, 1, 0, 0, 0), (.aload_n 0, 1, 0, 0, 0), (.getfield 15, 3, 0, 1, 0), (.aload_n 0, 1, 0, 0, 0), (.getfield 27, 3, 0, 5, 0), (.iload_n 2, 1, 0, 0, 0), (.iastore, 1, 0, 0, 0), (.aload_n 0, 1, 0, 0, 0), (.getfield 18, 3, 0, 2, 0), (.aload_n 0, 1, 0, 0, 0), (.getfield 27, 3, 0, 5, 0), (.iload_n 3, 1, 0, 0, 0), (.iastore, 1, 0, 0, 0), (.aload_n 0, 1, 0, 0, 0), (.getfield 21, 3, 0, 3, 0), (.aload_n 0, 1, 0, 0, 0), (.getfield 27, 3, 0, 5, 0), (.iload 4, 2, 0, 0, 0), (.iastore, 1, 0, 0, 0), (.aload_n 0, 1, 0, 0, 0), (.getfield 24, 3, 0, 4, 0), (.iload 4, 2, 0, 0, 0), (.aload_n 0, 1, 0, 0, 0), (.getfield 27, 3, 0, 5, 0), (.iastore, 1, 0, 0, 0), (.aload_n 0, 1, 0, 0, 0), (.dup, 1, 0, 0, 0), (.getfield 27, 3, 0, 5, 0), (.iconst 1, 1, 1, 0, 0), (.iadd, 1, 0, 0, 0), (.putfield 27, 3, 0, 5, 0), (.iconst 1, 1, 1, 0, 0)], some (.ireturn, 1, 1, 0, 0)) := rfl
theorem bl_X3_isSquare_0 : blk bX3_isSquare 0 = some ([(.iload_n 0, 1, 0, 0, 0)], some (.ifCond .lt 13, 3, 0, 0, 0)) := rfl
theorem bl_X3_isSquare_4 : blk bX3_isSquare 4 = some ([(.iload_n 0, 1, 0, 0, 0), (.bipush 36, 2, 36, 0, 0)], some (.if_icmp .ge 7, 3, 0, 0, 0)) := rfl
theorem bl_X3_isSquare_10 : blk bX3_isSquare 10 = some ([(.iconst 1, 1, 1, 0, 0)], some (.goto 4, 3, 0, 0, 0)) := rfl
theorem bl_X3_isSquare_14 : blk bX3_isSquare 14 = some ([(.iconst 0, 1, 0, 0, 0)], none) := rfl
theorem bl_X3_isSquare_15 : blk bX3_isSquare 15 = some ([], some (.ireturn, 1, 1, 0, 0)) := rfl
theorem bl_X0_takeOff_0 : blk bX0_takeOff 0 = some ([(.aload_n 0, 1, 0, 0, 0), (.iload_n 1, 1, 0, 0, 0)], some (.invokevirtual 52, 3, 1, 2, 0)) := rfl
theorem bl_X0_takeOff_5 : blk bX0_takeOff 5 = some ([], some (.ifCond .eq 15, 3, 0, 0, 0)) := rfl
theorem bl_X0_takeOff_8 : blk bX0_takeOff 8 = some ([(.aload_n 0, 1, 0, 0, 0), (.getfield 21, 3, 0, 3, 0), (.iload_n 1, 1, 0, 0, 0), (.iaload, 1, 0, 0, 0)], some (.invokestatic 71, 3, 12, 1, 0)) := rfl
theorem bl_X0_takeOff_17 : blk bX0_takeOff 17 = some ([], some (.ifCond .ne 5, 3, 0, 0, 0)) := rfl
theorem bl_X0_takeOff_20 : blk bX0_takeOff 20 = some ([(.iconst 0, 1, 0, 0, 0)], some (.ireturn, 1, 1, 0, 0)) := rfl
theorem bl_X0_takeOff_22 : blk bX0_takeOff 22 = some ([(.aload_n 0, 1, 0, 0, 0), (.getfield 24, 3, 0, 4, 0), (.aload_n 0, 1, 0, 0, 0), (.getfield 21, 3, 0, 3, 0), (.iload_n 1, 1, 0, 0, 0), (.iaload, 1, 0, 0, 0), (.bipush (-4), 2, 4, 1, 0), (.iastore, 1, 0, 0, 0), (.aload_n 0, 1, 0, 0, 0), (.getfield 21, 3, 0, 3, 0), (.iload_n 1, 1, 0, 0, 0), (.bipush 36, 2, 36, 0, 0), (.iastore, 1, 0, 0, 0), (.iconst 1, 1, 1, 0, 0)], some (.ireturn, 1, 1, 0, 0)) := rfl
theorem bl_X0_movePiece_0 : blk bX0_movePiece 0 = some ([(.aload_n 0, 1, 0, 0, 0), (.iload_n 1, 1, 0, 0, 0)], some (.invokevirtual 52, 3, 1, 2, 0)) := rfl
theorem bl_X0_movePiece_5 : blk bX0_movePiece 5 = some ([], some (.ifCond .eq 31, 3, 0, 0, 0)) := rfl
theorem bl_X0_movePiece_8 : blk bX0_movePiece 8 = some ([(.iload_n 2, 1, 0, 0, 0)], some (.invokestatic 71, 3, 12, 1, 0)) := rfl
theorem bl_X0_movePiece_12 : blk bX0_movePiece 12 = some ([], some (.ifCond .eq 24, 3, 0, 0, 0)) := rfl
theorem bl_X0_movePiece_15 : blk bX0_movePiece 15 = some ([(.aload_n 0, 1, 0, 0, 0), (.getfield 24, 3, 0, 4, 0), (.iload_n 2, 1, 0, 0, 0), (.iaload, 1, 0, 0, 0), (.bipush (-4), 2, 4, 1, 0)], some (.if_icmp .eq 15, 3, 0, 0, 0)) := rfl
theorem bl_X0_movePiece_26 : blk bX0_movePiece 26 = some ([(.aload_n 0, 1, 0, 0, 0), (.getfield 24, 3, 0, 4, 0), (.iload_n 2, 1, 0, 0, 0), (.iaload, 1, 0, 0, 0), (.iload_n 1, 1, 0, 0, 0)], some (.if_icmp .eq 5, 3, 0, 0, 0)) := rfl
theorem bl_X0_movePiece_36 : blk bX0_movePiece 36 = some ([(.iconst 0, 1, 0, 0, 0)], some (.ireturn, 1, 1, 0, 0)) := rfl
theorem bl_X0_movePiece_38 : blk bX0_movePiece 38 = some ([(.aload_n 0, 1, 0, 0, 0), (.iload_n 1, 1, 0, 0, 0)], some (.invokevirtual 74, 3, 13, 2, 0)) := rfl
theorem bl_X0_movePiece_43 : blk bX0_movePiece 43 = some ([(.pop, 1, 0, 0, 0), (.aload_n 0, 1, 0, 0, 0), (.getfield 21, 3, 0, 3, 0), (.iload_n 1, 1, 0, 0, 0), (.iload_n 2, 1, 0, 0, 0), (.iastore, 1, 0, 0, 0), (.aload_n 0, 1, 0, 0, 0), (.getfield 24, 3, 0, 4, 0), (.iload_n 2, 1, 0, 0, 0), (.iload_n 1, 1, 0, 0, 0), (.iastore, 1, 0, 0, 0), (.iconst 1, 1, 1, 0, 0)], some (.ireturn, 1, 1, 0, 0)) := rfl
theorem bl_X0_takeAllOff_0 : blk bX0_takeAllOff 0 = some ([(.iconst 0, 1, 0, 0, 0), (.istore_n 1, 1, 0, 0, 0)], none) := rfl
theorem bl_X0_takeAllOff_2 : blk bX0_takeAllOff 2 = some ([(.iload_n 1, 1, 0, 0, 0), (.aload_n 0, 1, 0, 0, 0), (.getfield 27, 3, 0, 5, 0)], some (.if_icmp .ge 15, 3, 0, 0, 0)) := rfl
theorem bl_X0_takeAllOff_10 : blk bX0_takeAllOff 10 = some ([(.aload_n 0, 1, 0, 0, 0), (.iload_n 1, 1, 0, 0, 0)], some (.invokevirtual 74, 3, 13, 2, 0)) := rfl
theorem bl_X0_takeAllOff_15 : blk bX0_takeAllOff 15 = some ([(.pop, 1, 0, 0, 0), (.iinc 1 1, 3, 1, 0, 0)], some (.goto (-17), 3, 0, 0, 0)) := rfl
theorem bl_X0_takeAllOff_22 : blk bX0_takeAllOff 22 = some ([], some (.return_, 1, 0, 0, 0)) := rfl
theorem bl_X0_turnInto_0 : blk bX0_turnInto 0 = some ([(.aload_n 0, 1, 0, 0, 0), (.iload_n 1, 1, 0, 0, 0)], some (.invokevirtual 52, 3, 1, 2, 0)) := rfl
theorem bl_X0_turnInto_5 : blk bX0_turnInto 5 = some ([], some (.ifCond .eq 17, 3, 0, 0, 0)) := rfl
theorem bl_X0_turnInto_8 : blk bX0_turnInto 8 = some ([(.iload_n 2, 1, 0, 0, 0)], some (.invokestatic 59, 3, 8, 1, 0)) := rfl
theorem bl_X0_turnInto_12 : blk bX0_turnInto 12 = some ([], some (.ifCond .eq 10, 3, 0, 0, 0)) := rfl
theorem bl_X0_turnInto_15 : blk bX0_turnInto 15 = some ([(.iload_n 3, 1, 0, 0, 0)], some (.invokestatic 62, 3, 9, 1, 0)) := rfl
theorem bl_X0_turnInto_19 : blk bX0_turnInto 19 = some ([], some (.ifCond .ne 5, 3, 0, 0, 0)) := rfl
theorem bl_X0_turnInto_22 : blk bX0_turnInto 22 = some ([(.iconst 0, 1, 0, 0, 0)], some (.ireturn, 1, 1, 0, 0)) := rfl
theorem bl_X0_turnInto_24 : blk bX0_turnInto 24 = some ([(.aload_n 0, 1, 0, 0, 0), (.getfield 9, 3, 0, 0, 0), (.iload_n 1, 1, 0, 0, 0), (.iload_n 2, 1, 0, 0, 0), (.iastore, 1, 0, 0, 0), (.aload_n 0, 1, 0, 0, 0), (.getfield 15, 3, 0, 1, 0), (.iload_n 1, 1, 0, 0, 0), (.iload_n 3, 1, 0, 0, 0), (.iastore, 1, 0, 0, 0), (.iconst 1, 1, 1, 0, 0)], some (.ireturn, 1, 1, 0, 0)) := rfl
theorem bl_X0_giveTurn_0 : blk bX0_giveTurn 0 = some ([(.iload_n 1, 1, 0, 0, 0)], some (.invokestatic 65, 3, 10, 1, 0)) := rfl
theorem bl_X0_giveTurn_4 : blk bX0_giveTurn 4 = some ([], some (.ifCond .ne 5, 3, 0, 0, 0)) := rfl
theorem bl_X0_giveTurn_7 : blk bX0_giveTurn 7 = some ([(.iconst 0, 1, 0, 0, 0)], some (.ireturn, 1, 1, 0, 0)) := rfl
theorem bl_X0_giveTurn_9 : blk bX0_giveTurn 9 = some ([(.aload_n 0, 1, 0, 0, 0), (.iload_n 1, 1, 0, 0, 0), (.putfield 31, 3, 0, 6, 0), (.iconst 1, 1, 1, 0, 0)], some (.ireturn, 1, 1, 0, 0)) := rfl
theorem bl_X0_squareFrom_0 : blk bX0_squareFrom 0 = some ([(.aload_n 0, 1, 0, 0, 0), (.getfield 21, 3, 0, 3, 0), (.iload_n 1, 1, 0, 0, 0), (.iaload, 1, 0, 0, 0), (.bipush 6, 2, 6, 0, 0), (.idiv, 1, 0, 0, 0), (.aload_n 0, 1, 0, 0, 0), (.getfield 18, 3, 0, 2, 0), (.iload_n 1, 1, 0, 0, 0), (.iaload, 1, 0, 0, 0)], some (.ifCond .ne 7, 3, 0, 0, 0)) := rfl
theorem bl_X0_squareFrom_18 : blk bX0_squareFrom 18 = some ([(.iload_n 2, 1, 0, 0, 0)], some (.goto 5, 3, 0, 0, 0)) := rfl
theorem bl_X0_squareFrom_22 : blk bX0_squareFrom 22 = some ([(.iload_n 2, 1, 0, 0, 0), (.ineg, 1, 0, 0, 0)], none) := rfl
theorem bl_X0_squareFrom_24 : blk bX0_squareFrom 24 = some ([(.iadd, 1, 0, 0, 0), (.istore 4, 2, 0, 0, 0), (.aload_n 0, 1, 0, 0, 0), (.getfield 21, 3, 0, 3, 0), (.iload_n 1, 1, 0, 0, 0), (.iaload, 1, 0, 0, 0), (.bipush 6, 2, 6, 0, 0), (.irem, 1, 0, 0, 0), (.iload_n 3, 1, 0, 0, 0), (.iadd, 1, 0, 0, 0), (.istore 5, 2, 0, 0, 0), (.iload 4, 2, 0, 0, 0)], some (.ifCond .lt 26, 3, 0, 0, 0)) := rfl
theorem bl_X0_squareFrom_45 : blk bX0_squareFrom 45 = some ([(.iload 4, 2, 0, 0, 0), (.bipush 6, 2, 6, 0, 0)], some (.if_icmp .ge 19, 3, 0, 0, 0)) := rfl
theorem bl_X0_squareFrom_52 : blk bX0_squareFrom 52 = some ([(.iload 5, 2, 0, 0, 0)], some (.ifCond .lt 14, 3, 0, 0, 0)) := rfl
theorem bl_X0_squareFrom_57 : blk bX0_squareFrom 57 = some ([(.iload 5, 2, 0, 0, 0), (.bipush 6, 2, 6, 0, 0)], some (.if_icmp .ge 7, 3, 0, 0, 0)) := rfl
theorem bl_X0_squareFrom_64 : blk bX0_squareFrom 64 = some ([(.iconst 1, 1, 1, 0, 0)], some (.goto 4, 3, 0, 0, 0)) := rfl
theorem bl_X0_squareFrom_68 : blk bX0_squareFrom 68 = some ([(.iconst 0, 1, 0, 0, 0)], none) := rfl
theorem bl_X0_squareFrom_69 : blk bX0_squareFrom 69 = some ([(.istore 6, 2, 0, 0, 0), (.iload 6, 2, 0, 0, 0)], some (.ifCond .eq 14, 3, 0, 0, 0)) := rfl
theorem bl_X0_squareFrom_76 : blk bX0_squareFrom 76 = some ([(.iload 4, 2, 0, 0, 0), (.bipush 6, 2, 6, 0, 0), (.imul, 1, 0, 0, 0), (.iload 5, 2, 0, 0, 0), (.iadd, 1, 0, 0, 0)], some (.goto 5, 3, 0, 0, 0)) := rfl
theorem bl_X0_squareFrom_87 : blk bX0_squareFrom 87 = some ([(.bipush (-4), 2, 4, 1, 0)], none) := rfl
theorem bl_X0_squareFrom_89 : blk bX0_squareFrom 89 = some ([], some (.ireturn, 1, 0, 0, 0)) := rfl
theorem bl_X0_knightIdea_0 : blk bX0_knightIdea 0 = some ([(.aload_n 0, 1, 0, 0, 0), (.iload_n 1, 1, 0, 0, 0), (.iconst 2, 1, 2, 0, 0), (.iconst 1, 1, 1, 0, 0)], some (.invokevirtual 130, 3, 18, 4, 0)) := rfl
theorem bl_X0_knightIdea_7 : blk bX0_knightIdea 7 = some ([(.istore_n 2, 1, 0, 0, 0), (.iload_n 2, 1, 0, 0, 0), (.bipush (-4), 2, 4, 1, 0)], some (.if_icmp .eq 19, 3, 0, 0, 0)) := rfl
theorem bl_X0_knightIdea_14 : blk bX0_knightIdea 14 = some ([(.aload_n 0, 1, 0, 0, 0), (.iload_n 2, 1, 0, 0, 0), (.aload_n 0, 1, 0, 0, 0), (.getfield 18, 3, 0, 2, 0), (.iload_n 1, 1, 0, 0, 0), (.iaload, 1, 0, 0, 0)], some (.invokevirtual 136, 3, 7, 3, 0)) := rfl
theorem bl_X0_knightIdea_25 : blk bX0_knightIdea 25 = some ([], some (.ifCond .ne 5, 3, 0, 0, 0)) := rfl
theorem bl_X0_knightIdea_28 : blk bX0_knightIdea 28 = some ([(.iload_n 2, 1, 0, 0, 0)], some (.ireturn, 1, 0, 0, 0)) := rfl
theorem bl_X0_knightIdea_30 : blk bX0_knightIdea 30 = some ([(.aload_n 0, 1, 0, 0, 0), (.iload_n 1, 1, 0, 0, 0), (.iconst 2, 1, 2, 0, 0), (.iconst (-1), 1, 1, 1, 0)], some (.invokevirtual 130, 3, 18, 4, 0)) := rfl
theorem bl_X0_knightIdea_37 : blk bX0_knightIdea 37 = some ([(.istore_n 3, 1, 0, 0, 0), (.iload_n 3, 1, 0, 0, 0), (.bipush (-4), 2, 4, 1, 0)], some (.if_icmp .eq 21, 3, 0, 0, 0)) := rfl
theorem bl_X0_knightIdea_44 : blk bX0_knightIdea 44 = some ([(.aload_n 0, 1, 0, 0, 0), (.iload_n 3, 1, 0, 0, 0), (.aload_n 0, 1, 0, 0, 0), (.getfield 18, 3, 0, 2, 0), (.iload_n 1, 1, 0, 0, 0), (.iaload, 1, 0, 0, 0)], some (.invokevirtual 136, 3, 7, 3, 0)) := rfl
theorem bl_X0_knightIdea_55 : blk bX0_knightIdea 55 = some ([], some (.ifCond .ne 7, 3, 0, 0, 0)) := rfl
theorem bl_X0_knightIdea_58 : blk bX0_knightIdea 58 = some ([(.iload_n 3, 1, 0, 0, 0)], some (.goto 5, 3, 0, 0, 0)) := rfl
theorem bl_X0_knightIdea_62 : blk bX0_knightIdea 62 = some ([(.bipush (-4), 2, 4, 1, 0)], none) := rfl
theorem bl_X0_knightIdea_64 : blk bX0_knightIdea 64 = some ([], some (.ireturn, 1, 0, 0, 0)) := rfl
theorem bl_X0_slideIdea_0 : blk bX0_slideIdea 0 = some ([(.bipush (-4), 2, 4, 1, 0), (.istore 4, 2, 0, 0, 0), (.iconst 1, 1, 1, 0, 0), (.istore 5, 2, 0, 0, 0)], none) := rfl
theorem bl_X0_slideIdea_7 : blk bX0_slideIdea 7 = some ([(.iload 5, 2, 0, 0, 0), (.bipush 6, 2, 6, 0, 0)], some (.if_icmp .ge 60, 3, 0, 0, 0)) := rfl
theorem bl_X0_slideIdea_14 : blk bX0_slideIdea 14 = some ([(.aload_n 0, 1, 0, 0, 0), (.iload_n 1, 1, 0, 0, 0), (.iload 5, 2, 0, 0, 0), (.iload_n 2, 1, 0, 0, 0), (.imul, 1, 0, 0, 0), (.iload 5, 2, 0, 0, 0), (.iload_n 3, 1, 0, 0, 0), (.imul, 1, 0, 0, 0)], some (.invokevirtual 130, 3, 18, 4, 0)) := rfl
theorem bl_X0_slideIdea_27 : blk bX0_slideIdea 27 = some ([(.istore 6, 2, 0, 0, 0), (.aload_n 0, 1, 0, 0, 0), (.iload 6, 2, 0, 0, 0), (.iconst 1, 1, 1, 0, 0), (.aload_n 0, 1, 0, 0, 0), (.getfield 18, 3, 0, 2, 0), (.iload_n 1, 1, 0, 0, 0), (.iaload, 1, 0, 0, 0), (.isub, 1, 0, 0, 0)], some (.invokevirtual 136, 3, 7, 3, 0)) := rfl
theorem bl_X0_slideIdea_43 : blk bX0_slideIdea 43 = some ([], some (.ifCond .eq 6, 3, 0, 0, 0)) := rfl
theorem bl_X0_slideIdea_46 : blk bX0_slideIdea 46 = some ([(.iload 6, 2, 0, 0, 0)], some (.ireturn, 1, 0, 0, 0)) := rfl
theorem bl_X0_slideIdea_49 : blk bX0_slideIdea 49 = some ([(.aload_n 0, 1, 0, 0, 0), (.iload 6, 2, 0, 0, 0)], some (.invokevirtual 68, 3, 6, 2, 0)) := rfl
theorem bl_X0_slideIdea_55 : blk bX0_slideIdea 55 = some ([], some (.ifCond .ne 6, 3, 0, 0, 0)) := rfl
theorem bl_X0_slideIdea_58 : blk bX0_slideIdea 58 = some ([(.iload 4, 2, 0, 0, 0)], some (.ireturn, 1, 0, 0, 0)) := rfl
theorem bl_X0_slideIdea_61 : blk bX0_slideIdea 61 = some ([(.iload 6, 2, 0, 0, 0), (.istore 4, 2, 0, 0, 0), (.iinc 5 1, 3, 1, 0, 0)], some (.goto (-61), 3, 0, 0, 0)) := rfl
theorem bl_X0_slideIdea_71 : blk bX0_slideIdea 71 = some ([(.iload 4, 2, 0, 0, 0)], some (.ireturn, 1, 0, 0, 0)) := rfl
theorem bl_X0_bishopIdea_0 : blk bX0_bishopIdea 0 = some ([(.aload_n 0, 1, 0, 0, 0), (.iload_n 1, 1, 0, 0, 0), (.iconst 1, 1, 1, 0, 0), (.iconst 1, 1, 1, 0, 0)], some (.invokevirtual 130, 3, 18, 4, 0)) := rfl
theorem bl_X0_bishopIdea_7 : blk bX0_bishopIdea 7 = some ([(.istore_n 3, 1, 0, 0, 0), (.aload_n 0, 1, 0, 0, 0), (.getfield 15, 3, 0, 1, 0), (.iload_n 1, 1, 0, 0, 0), (.iaload, 1, 0, 0, 0), (.iconst 2, 1, 2, 0, 0), (.iadd, 1, 0, 0, 0), (.istore 4, 2, 0, 0, 0), (.iload 4, 2, 0, 0, 0)], some (.ifCond .le 14, 3, 0, 0, 0)) := rfl
theorem bl_X0_bishopIdea_23 : blk bX0_bishopIdea 23 = some ([(.iload_n 2, 1, 0, 0, 0), (.iload 4, 2, 0, 0, 0), (.irem, 1, 0, 0, 0)], some (.ifCond .ne 7, 3, 0, 0, 0)) := rfl
theorem bl_X0_bishopIdea_30 : blk bX0_bishopIdea 30 = some ([(.iconst 1, 1, 1, 0, 0)], some (.goto 4, 3, 0, 0, 0)) := rfl
theorem bl_X0_bishopIdea_34 : blk bX0_bishopIdea 34 = some ([(.iconst 0, 1, 0, 0, 0)], none) := rfl
theorem bl_X0_bishopIdea_35 : blk bX0_bishopIdea 35 = some ([(.istore 5, 2, 0, 0, 0), (.iload 5, 2, 0, 0, 0)], some (.ifCond .eq 27, 3, 0, 0, 0)) := rfl
theorem bl_X0_bishopIdea_42 : blk bX0_bishopIdea 42 = some ([(.iload_n 3, 1, 0, 0, 0), (.bipush (-4), 2, 4, 1, 0)], some (.if_icmp .eq 21, 3, 0, 0, 0)) := rfl
theorem bl_X0_bishopIdea_48 : blk bX0_bishopIdea 48 = some ([(.aload_n 0, 1, 0, 0, 0), (.iload_n 3, 1, 0, 0, 0), (.aload_n 0, 1, 0, 0, 0), (.getfield 18, 3, 0, 2, 0), (.iload_n 1, 1, 0, 0, 0), (.iaload, 1, 0, 0, 0)], some (.invokevirtual 136, 3, 7, 3, 0)) := rfl
theorem bl_X0_bishopIdea_59 : blk bX0_bishopIdea 59 = some ([], some (.ifCond .ne 7, 3, 0, 0, 0)) := rfl
theorem bl_X0_bishopIdea_62 : blk bX0_bishopIdea 62 = some ([(.iload_n 3, 1, 0, 0, 0)], some (.goto 5, 3, 0, 0, 0)) := rfl
theorem bl_X0_bishopIdea_66 : blk bX0_bishopIdea 66 = some ([(.bipush (-4), 2, 4, 1, 0)], none) := rfl
theorem bl_X0_bishopIdea_68 : blk bX0_bishopIdea 68 = some ([], some (.ireturn, 1, 0, 0, 0)) := rfl
theorem bl_X3_far_0 : blk bX3_far 0 = some ([(.iload_n 0, 1, 0, 0, 0), (.bipush 6, 2, 6, 0, 0), (.idiv, 1, 0, 0, 0), (.iload_n 1, 1, 0, 0, 0), (.bipush 6, 2, 6, 0, 0), (.idiv, 1, 0, 0, 0), (.isub, 1, 0, 0, 0), (.istore_n 2, 1, 0, 0, 0), (.iload_n 0, 1, 0, 0, 0), (.bipush 6, 2, 6, 0, 0), (.irem, 1, 0, 0, 0), (.iload_n 1, 1, 0, 0, 0), (.bipush 6, 2, 6, 0, 0), (.irem, 1, 0, 0, 0), (.isub, 1, 0, 0, 0), (.istore_n 3, 1, 0, 0, 0), (.iload_n 2, 1, 0, 0, 0)], some (.ifCond .ge 8, 3, 0, 0, 0)) := rfl
theorem bl_X3_far_24 : blk bX3_far 24 = some ([(.iload_n 2, 1, 0, 0, 0), (.ineg, 1, 0, 0, 0)], some (.goto 4, 3, 0, 0, 0)) := rfl
theorem bl_X3_far_29 : blk bX3_far 29 = some ([(.iload_n 2, 1, 0, 0, 0)], none) := rfl
theorem bl_X3_far_30 : blk bX3_far 30 = some ([(.istore_n 2, 1, 0, 0, 0), (.iload_n 3, 1, 0, 0, 0)], some (.ifCond .ge 8, 3, 0, 0, 0)) := rfl
theorem bl_X3_far_35 : blk bX3_far 35 = some ([(.iload_n 3, 1, 0, 0, 0), (.ineg, 1, 0, 0, 0)], some (.goto 4, 3, 0, 0, 0)) := rfl
theorem bl_X3_far_40 : blk bX3_far 40 = some ([(.iload_n 3, 1, 0, 0, 0)], none) := rfl
theorem bl_X3_far_41 : blk bX3_far 41 = some ([(.istore_n 3, 1, 0, 0, 0), (.iload_n 2, 1, 0, 0, 0), (.iload_n 3, 1, 0, 0, 0)], some (.if_icmp .le 7, 3, 0, 0, 0)) := rfl
theorem bl_X3_far_47 : blk bX3_far 47 = some ([(.iload_n 2, 1, 0, 0, 0)], some (.goto 4, 3, 0, 0, 0)) := rfl
theorem bl_X3_far_51 : blk bX3_far 51 = some ([(.iload_n 3, 1, 0, 0, 0)], none) := rfl
theorem bl_X3_far_52 : blk bX3_far 52 = some ([], some (.ireturn, 1, 0, 0, 0)) := rfl
theorem bl_X0_kingIdea_0 : blk bX0_kingIdea 0 = some ([(.aload_n 0, 1, 0, 0, 0), (.iload_n 1, 1, 0, 0, 0), (.iconst (-1), 1, 1, 1, 0), (.iconst 0, 1, 0, 0, 0)], some (.invokevirtual 130, 3, 18, 4, 0)) := rfl
theorem bl_X0_kingIdea_7 : blk bX0_kingIdea 7 = some ([(.istore_n 2, 1, 0, 0, 0), (.aload_n 0, 1, 0, 0, 0), (.iload_n 2, 1, 0, 0, 0)], some (.invokevirtual 68, 3, 6, 2, 0)) := rfl
theorem bl_X0_kingIdea_13 : blk bX0_kingIdea 13 = some ([], some (.ifCond .ne 6, 3, 0, 0, 0)) := rfl
theorem bl_X0_kingIdea_16 : blk bX0_kingIdea 16 = some ([(.bipush (-4), 2, 4, 1, 0)], some (.ireturn, 1, 0, 0, 0)) := rfl
theorem bl_X0_kingIdea_19 : blk bX0_kingIdea 19 = some ([(.iconst 0, 1, 0, 0, 0), (.istore_n 3, 1, 0, 0, 0)], none) := rfl
theorem bl_X0_kingIdea_21 : blk bX0_kingIdea 21 = some ([(.iload_n 3, 1, 0, 0, 0), (.aload_n 0, 1, 0, 0, 0), (.getfield 27, 3, 0, 5, 0)], some (.if_icmp .ge 46, 3, 0, 0, 0)) := rfl
theorem bl_X0_kingIdea_29 : blk bX0_kingIdea 29 = some ([(.aload_n 0, 1, 0, 0, 0), (.iload_n 3, 1, 0, 0, 0), (.iconst 1, 1, 1, 0, 0), (.aload_n 0, 1, 0, 0, 0), (.getfield 18, 3, 0, 2, 0), (.iload_n 1, 1, 0, 0, 0), (.iaload, 1, 0, 0, 0), (.isub, 1, 0, 0, 0)], some (.invokevirtual 93, 3, 3, 3, 0)) := rfl
theorem bl_X0_kingIdea_42 : blk bX0_kingIdea 42 = some ([], some (.ifCond .eq 24, 3, 0, 0, 0)) := rfl
theorem bl_X0_kingIdea_45 : blk bX0_kingIdea 45 = some ([(.aload_n 0, 1, 0, 0, 0), (.getfield 21, 3, 0, 3, 0), (.iload_n 3, 1, 0, 0, 0), (.iaload, 1, 0, 0, 0), (.aload_n 0, 1, 0, 0, 0), (.getfield 21, 3, 0, 3, 0), (.iload_n 1, 1, 0, 0, 0), (.iaload, 1, 0, 0, 0)], some (.invokestatic 114, 3, 22, 2, 0)) := rfl
theorem bl_X0_kingIdea_60 : blk bX0_kingIdea 60 = some ([(.iconst 1, 1, 1, 0, 0)], some (.if_icmp .gt 5, 3, 0, 0, 0)) := rfl
theorem bl_X0_kingIdea_64 : blk bX0_kingIdea 64 = some ([(.iload_n 2, 1, 0, 0, 0)], some (.ireturn, 1, 0, 0, 0)) := rfl
theorem bl_X0_kingIdea_66 : blk bX0_kingIdea 66 = some ([(.iinc 3 1, 3, 1, 0, 0)], some (.goto (-48), 3, 0, 0, 0)) := rfl
theorem bl_X0_kingIdea_72 : blk bX0_kingIdea 72 = some ([(.bipush (-4), 2, 4, 1, 0)], some (.ireturn, 1, 0, 0, 0)) := rfl
theorem bl_X0_pawnIdea_0 : blk bX0_pawnIdea 0 = some ([(.aload_n 0, 1, 0, 0, 0), (.iload_n 1, 1, 0, 0, 0), (.iconst 1, 1, 1, 0, 0), (.iconst 0, 1, 0, 0, 0)], some (.invokevirtual 130, 3, 18, 4, 0)) := rfl
theorem bl_X0_pawnIdea_7 : blk bX0_pawnIdea 7 = some ([(.istore_n 2, 1, 0, 0, 0), (.aload_n 0, 1, 0, 0, 0), (.iload_n 2, 1, 0, 0, 0)], some (.invokevirtual 68, 3, 6, 2, 0)) := rfl
theorem bl_X0_pawnIdea_13 : blk bX0_pawnIdea 13 = some ([], some (.ifCond .eq 5, 3, 0, 0, 0)) := rfl
theorem bl_X0_pawnIdea_16 : blk bX0_pawnIdea 16 = some ([(.iload_n 2, 1, 0, 0, 0)], some (.ireturn, 1, 0, 0, 0)) := rfl
theorem bl_X0_pawnIdea_18 : blk bX0_pawnIdea 18 = some ([(.aload_n 0, 1, 0, 0, 0), (.iload_n 1, 1, 0, 0, 0), (.iconst 1, 1, 1, 0, 0), (.iconst 1, 1, 1, 0, 0)], some (.invokevirtual 130, 3, 18, 4, 0)) := rfl
theorem bl_X0_pawnIdea_25 : blk bX0_pawnIdea 25 = some ([(.istore_n 3, 1, 0, 0, 0), (.aload_n 0, 1, 0, 0, 0), (.iload_n 3, 1, 0, 0, 0), (.iconst 1, 1, 1, 0, 0), (.aload_n 0, 1, 0, 0, 0), (.getfield 18, 3, 0, 2, 0), (.iload_n 1, 1, 0, 0, 0), (.iaload, 1, 0, 0, 0), (.isub, 1, 0, 0, 0)], some (.invokevirtual 136, 3, 7, 3, 0)) := rfl
theorem bl_X0_pawnIdea_39 : blk bX0_pawnIdea 39 = some ([], some (.ifCond .eq 7, 3, 0, 0, 0)) := rfl
theorem bl_X0_pawnIdea_42 : blk bX0_pawnIdea 42 = some ([(.iload_n 3, 1, 0, 0, 0)], some (.goto 5, 3, 0, 0, 0)) := rfl
theorem bl_X0_pawnIdea_46 : blk bX0_pawnIdea 46 = some ([(.bipush (-4), 2, 4, 1, 0)], none) := rfl
theorem bl_X0_pawnIdea_48 : blk bX0_pawnIdea 48 = some ([], some (.ireturn, 1, 0, 0, 0)) := rfl
theorem bl_X0_ideaOf_0 : blk bX0_ideaOf 0 = some ([(.aload_n 0, 1, 0, 0, 0), (.iload_n 1, 1, 0, 0, 0)], some (.invokevirtual 56, 3, 2, 2, 0)) := rfl
theorem bl_X0_ideaOf_5 : blk bX0_ideaOf 5 = some ([], some (.ifCond .ne 6, 3, 0, 0, 0)) := rfl
theorem bl_X0_ideaOf_8 : blk bX0_ideaOf 8 = some ([(.bipush (-4), 2, 4, 1, 0)], some (.ireturn, 1, 0, 0, 0)) := rfl
theorem bl_X0_ideaOf_11 : blk bX0_ideaOf 11 = some ([(.aload_n 0, 1, 0, 0, 0), (.getfield 9, 3, 0, 0, 0), (.iload_n 1, 1, 0, 0, 0), (.iaload, 1, 0, 0, 0)], some (.tableswitch 127 0 7 #[127, 47, 53, 61, 68, 94, 53, 100], 47, 0, 0, 0)) := rfl
theorem bl_X0_ideaOf_64 : blk bX0_ideaOf 64 = some ([(.aload_n 0, 1, 0, 0, 0), (.iload_n 1, 1, 0, 0, 0)], some (.invokevirtual 117, 3, 19, 2, 0)) := rfl
theorem bl_X0_ideaOf_69 : blk bX0_ideaOf 69 = some ([], some (.ireturn, 1, 0, 0, 0)) := rfl
theorem bl_X0_ideaOf_70 : blk bX0_ideaOf 70 = some ([(.aload_n 0, 1, 0, 0, 0), (.iload_n 1, 1, 0, 0, 0), (.iconst 1, 1, 1, 0, 0), (.iconst 0, 1, 0, 0, 0)], some (.invokevirtual 120, 3, 20, 4, 0)) := rfl
theorem bl_X0_ideaOf_77 : blk bX0_ideaOf 77 = some ([], some (.ireturn, 1, 0, 0, 0)) := rfl
theorem bl_X0_ideaOf_78 : blk bX0_ideaOf 78 = some ([(.aload_n 0, 1, 0, 0, 0), (.iload_n 1, 1, 0, 0, 0), (.iload_n 2, 1, 0, 0, 0)], some (.invokevirtual 124, 3, 21, 3, 0)) := rfl
theorem bl_X0_ideaOf_84 : blk bX0_ideaOf 84 = some ([], some (.ireturn, 1, 0, 0, 0)) := rfl
theorem bl_X0_ideaOf_85 : blk bX0_ideaOf 85 = some ([(.aload_n 0, 1, 0, 0, 0), (.iload_n 1, 1, 0, 0, 0), (.iconst 1, 1, 1, 0, 0), (.iconst 0, 1, 0, 0, 0)], some (.invokevirtual 120, 3, 20, 4, 0)) := rfl
theorem bl_X0_ideaOf_92 : blk bX0_ideaOf 92 = some ([(.istore_n 3, 1, 0, 0, 0), (.iload_n 3, 1, 0, 0, 0), (.bipush (-4), 2, 4, 1, 0)], some (.if_icmp .eq 7, 3, 0, 0, 0)) := rfl
theorem bl_X0_ideaOf_99 : blk bX0_ideaOf 99 = some ([(.iload_n 3, 1, 0, 0, 0)], some (.goto 10, 3, 0, 0, 0)) := rfl
theorem bl_X0_ideaOf_103 : blk bX0_ideaOf 103 = some ([(.aload_n 0, 1, 0, 0, 0), (.iload_n 1, 1, 0, 0, 0), (.iconst 0, 1, 0, 0, 0), (.iconst 1, 1, 1, 0, 0)], some (.invokevirtual 120, 3, 20, 4, 0)) := rfl
theorem bl_X0_ideaOf_110 : blk bX0_ideaOf 110 = some ([], some (.ireturn, 1, 0, 0, 0)) := rfl
theorem bl_X0_ideaOf_111 : blk bX0_ideaOf 111 = some ([(.aload_n 0, 1, 0, 0, 0), (.iload_n 1, 1, 0, 0, 0)], some (.invokevirtual 127, 3, 23, 2, 0)) := rfl
theorem bl_X0_ideaOf_116 : blk bX0_ideaOf 116 = some ([], some (.ireturn, 1, 0, 0, 0)) := rfl
theorem bl_X0_ideaOf_117 : blk bX0_ideaOf 117 = some ([(.aload_n 0, 1, 0, 0, 0), (.iload_n 1, 1, 0, 0, 0), (.iconst 0, 1, 0, 0, 0), (.iconst (-1), 1, 1, 1, 0)], some (.invokevirtual 130, 3, 18, 4, 0)) := rfl
theorem bl_X0_ideaOf_124 : blk bX0_ideaOf 124 = some ([(.istore_n 3, 1, 0, 0, 0), (.aload_n 0, 1, 0, 0, 0), (.iload_n 3, 1, 0, 0, 0)], some (.invokevirtual 68, 3, 6, 2, 0)) := rfl
theorem bl_X0_ideaOf_130 : blk bX0_ideaOf 130 = some ([], some (.ifCond .eq 7, 3, 0, 0, 0)) := rfl
theorem bl_X0_ideaOf_133 : blk bX0_ideaOf 133 = some ([(.iload_n 3, 1, 0, 0, 0)], some (.goto 9, 3, 0, 0, 0)) := rfl
theorem bl_X0_ideaOf_137 : blk bX0_ideaOf 137 = some ([(.aload_n 0, 1, 0, 0, 0), (.iload_n 1, 1, 0, 0, 0), (.iload_n 2, 1, 0, 0, 0)], some (.invokevirtual 124, 3, 21, 3, 0)) := rfl
theorem bl_X0_ideaOf_143 : blk bX0_ideaOf 143 = some ([], some (.ireturn, 1, 0, 0, 0)) := rfl
theorem bl_X0_ideaOf_144 : blk bX0_ideaOf 144 = some ([(.aload_n 0, 1, 0, 0, 0), (.iload_n 1, 1, 0, 0, 0)], some (.invokevirtual 133, 3, 24, 2, 0)) := rfl
theorem bl_X0_ideaOf_149 : blk bX0_ideaOf 149 = some ([], some (.ireturn, 1, 0, 0, 0)) := rfl
theorem bl_X1_earsWith_0 : blk bX1_earsWith 0 = some ([(.iload_n 0, 1, 0, 0, 0)], some (.tableswitch 61 0 7 #[61, 47, 49, 51, 53, 57, 59, 51], 47, 0, 0, 0)) := rfl
theorem bl_X1_earsWith_48 : blk bX1_earsWith 48 = some ([(.iconst 3, 1, 3, 0, 0)], some (.ireturn, 1, 0, 0, 0)) := rfl
theorem bl_X1_earsWith_50 : blk bX1_earsWith 50 = some ([(.iload_n 1, 1, 0, 0, 0)], some (.ireturn, 1, 0, 0, 0)) := rfl
theorem bl_X1_earsWith_52 : blk bX1_earsWith 52 = some ([(.iconst 4, 1, 4, 0, 0)], some (.ireturn, 1, 0, 0, 0)) := rfl
theorem bl_X1_earsWith_54 : blk bX1_earsWith 54 = some ([(.iload_n 1, 1, 0, 0, 0), (.iconst 3, 1, 3, 0, 0), (.iadd, 1, 0, 0, 0)], some (.ireturn, 1, 0, 0, 0)) := rfl
theorem bl_X1_earsWith_58 : blk bX1_earsWith 58 = some ([(.iconst 5, 1, 5, 0, 0)], some (.ireturn, 1, 0, 0, 0)) := rfl
theorem bl_X1_earsWith_60 : blk bX1_earsWith 60 = some ([(.iconst 0, 1, 0, 0, 0)], some (.ireturn, 1, 0, 0, 0)) := rfl
theorem bl_X1_earsWith_62 : blk bX1_earsWith 62 = some ([(.iconst 2, 1, 2, 0, 0)], some (.ireturn, 1, 0, 0, 0)) := rfl
theorem bl_X0_hearersOf_0 : blk bX0_hearersOf 0 = some ([(.aload_n 0, 1, 0, 0, 0), (.iload_n 1, 1, 0, 0, 0)], some (.invokevirtual 56, 3, 2, 2, 0)) := rfl
theorem bl_X0_hearersOf_5 : blk bX0_hearersOf 5 = some ([], some (.ifCond .ne 5, 3, 0, 0, 0)) := rfl
theorem bl_X0_hearersOf_8 : blk bX0_hearersOf 8 = some ([(.iconst 0, 1, 0, 0, 0)], some (.ireturn, 1, 0, 0, 0)) := rfl
theorem bl_X0_hearersOf_10 : blk bX0_hearersOf 10 = some ([(.iconst 1, 1, 1, 0, 0), (.iload_n 1, 1, 0, 0, 0), (.ishl, 1, 0, 0, 0), (.istore_n 3, 1, 0, 0, 0), (.iconst 0, 1, 0, 0, 0), (.istore 4, 2, 0, 0, 0)], none) := rfl
theorem bl_X0_hearersOf_17 : blk bX0_hearersOf 17 = some ([(.iload 4, 2, 0, 0, 0), (.aload_n 0, 1, 0, 0, 0), (.getfield 27, 3, 0, 5, 0)], some (.if_icmp .ge 79, 3, 0, 0, 0)) := rfl
theorem bl_X0_hearersOf_26 : blk bX0_hearersOf 26 = some ([(.aload_n 0, 1, 0, 0, 0), (.iload 4, 2, 0, 0, 0), (.aload_n 0, 1, 0, 0, 0), (.getfield 18, 3, 0, 2, 0), (.iload_n 1, 1, 0, 0, 0), (.iaload, 1, 0, 0, 0)], some (.invokevirtual 93, 3, 3, 3, 0)) := rfl
theorem bl_X0_hearersOf_38 : blk bX0_hearersOf 38 = some ([], some (.ifCond .eq 58, 3, 0, 0, 0)) := rfl
theorem bl_X0_hearersOf_41 : blk bX0_hearersOf 41 = some ([(.iload_n 2, 1, 0, 0, 0)], some (.ifCond .eq 7, 3, 0, 0, 0)) := rfl
theorem bl_X0_hearersOf_45 : blk bX0_hearersOf 45 = some ([(.iconst 1, 1, 1, 0, 0)], some (.goto 20, 3, 0, 0, 0)) := rfl
theorem bl_X0_hearersOf_49 : blk bX0_hearersOf 49 = some ([(.aload_n 0, 1, 0, 0, 0), (.getfield 9, 3, 0, 0, 0), (.iload 4, 2, 0, 0, 0), (.iaload, 1, 0, 0, 0), (.aload_n 0, 1, 0, 0, 0), (.getfield 15, 3, 0, 1, 0), (.iload 4, 2, 0, 0, 0), (.iaload, 1, 0, 0, 0)], some (.invokestatic 109, 3, 26, 2, 0)) := rfl
theorem bl_X0_hearersOf_66 : blk bX0_hearersOf 66 = some ([(.istore 5, 2, 0, 0, 0), (.aload_n 0, 1, 0, 0, 0), (.getfield 21, 3, 0, 3, 0), (.iload 4, 2, 0, 0, 0), (.iaload, 1, 0, 0, 0), (.aload_n 0, 1, 0, 0, 0), (.getfield 21, 3, 0, 3, 0), (.iload_n 1, 1, 0, 0, 0), (.iaload, 1, 0, 0, 0)], some (.invokestatic 114, 3, 22, 2, 0)) := rfl
theorem bl_X0_hearersOf_84 : blk bX0_hearersOf 84 = some ([(.iload 5, 2, 0, 0, 0)], some (.if_icmp .gt 10, 3, 0, 0, 0)) := rfl
theorem bl_X0_hearersOf_89 : blk bX0_hearersOf 89 = some ([(.iload_n 3, 1, 0, 0, 0), (.iconst 1, 1, 1, 0, 0), (.iload 4, 2, 0, 0, 0), (.ishl, 1, 0, 0, 0), (.ior, 1, 0, 0, 0), (.istore_n 3, 1, 0, 0, 0)], none) := rfl
theorem bl_X0_hearersOf_96 : blk bX0_hearersOf 96 = some ([(.iinc 4 1, 3, 1, 0, 0)], some (.goto (-82), 3, 0, 0, 0)) := rfl
theorem bl_X0_hearersOf_102 : blk bX0_hearersOf 102 = some ([(.iload_n 3, 1, 0, 0, 0)], some (.ireturn, 1, 0, 0, 0)) := rfl
theorem bl_J6_bitCount_0f7a4_0 : blk bJ6_bitCount_0f7a4 0 = some ([(.iload_n 0, 1, 0, 0, 0), (.iload_n 0, 1, 0, 0, 0), (.iconst 1, 1, 1, 0, 0), (.iushr, 1, 0, 0, 0), (.ldc_w 265, 3, 1431655765, 0, 0), (.iand, 1, 0, 0, 0), (.isub, 1, 0, 0, 0), (.istore_n 0, 1, 0, 0, 0), (.iload_n 0, 1, 0, 0, 0), (.ldc_w 266, 3, 858993459, 0, 0), (.iand, 1, 0, 0, 0), (.iload_n 0, 1, 0, 0, 0), (.iconst 2, 1, 2, 0, 0), (.iushr, 1, 0, 0, 0), (.ldc_w 266, 3, 858993459, 0, 0), (.iand, 1, 0, 0, 0), (.iadd, 1, 0, 0, 0), (.istore_n 0, 1, 0, 0, 0), (.iload_n 0, 1, 0, 0, 0), (.iload_n 0, 1, 0, 0, 0), (.iconst 4, 1, 4, 0, 0), (.iushr, 1, 0, 0, 0), (.iadd, 1, 0, 0, 0), (.ldc_w 267, 3, 252645135, 0, 0), (.iand, 1, 0, 0, 0), (.istore_n 0, 1, 0, 0, 0), (.iload_n 0, 1, 0, 0, 0), (.iload_n 0, 1, 0, 0, 0), (.bipush 8, 2, 8, 0, 0), (.iushr, 1, 0, 0, 0), (.iadd, 1, 0, 0, 0), (.istore_n 0, 1, 0, 0, 0), (.iload_n 0, 1, 0, 0, 0), (.iload_n 0, 1, 0, 0, 0), (.bipush 16, 2, 16, 0, 0), (.iushr, 1, 0, 0, 0), (.iadd, 1, 0, 0, 0), (.istore_n 0, 1, 0, 0, 0), (.iload_n 0, 1, 0, 0, 0), (.bipush 63, 2, 63, 0, 0), (.iand, 1, 0, 0, 0)], some (.ireturn, 1, 0, 0, 0)) := rfl
theorem bl_X0_howManyOf_0 : blk bX0_howManyOf 0 = some ([(.iconst 0, 1, 0, 0, 0), (.istore_n 2, 1, 0, 0, 0), (.iconst 0, 1, 0, 0, 0), (.istore_n 3, 1, 0, 0, 0)], none) := rfl
theorem bl_X0_howManyOf_4 : blk bX0_howManyOf 4 = some ([(.iload_n 3, 1, 0, 0, 0), (.aload_n 0, 1, 0, 0, 0), (.getfield 27, 3, 0, 5, 0)], some (.if_icmp .ge 26, 3, 0, 0, 0)) := rfl
theorem bl_X0_howManyOf_12 : blk bX0_howManyOf 12 = some ([(.iload_n 2, 1, 0, 0, 0), (.aload_n 0, 1, 0, 0, 0), (.iload_n 3, 1, 0, 0, 0), (.iload_n 1, 1, 0, 0, 0)], some (.invokevirtual 93, 3, 3, 3, 0)) := rfl
theorem bl_X0_howManyOf_19 : blk bX0_howManyOf 19 = some ([], some (.ifCond .eq 7, 3, 0, 0, 0)) := rfl
theorem bl_X0_howManyOf_22 : blk bX0_howManyOf 22 = some ([(.iconst 1, 1, 1, 0, 0)], some (.goto 4, 3, 0, 0, 0)) := rfl
theorem bl_X0_howManyOf_26 : blk bX0_howManyOf 26 = some ([(.iconst 0, 1, 0, 0, 0)], none) := rfl
theorem bl_X0_howManyOf_27 : blk bX0_howManyOf 27 = some ([(.iadd, 1, 0, 0, 0), (.istore_n 2, 1, 0, 0, 0), (.iinc 3 1, 3, 1, 0, 0)], some (.goto (-28), 3, 0, 0, 0)) := rfl
theorem bl_X0_howManyOf_35 : blk bX0_howManyOf 35 = some ([(.iload_n 2, 1, 0, 0, 0)], some (.ireturn, 1, 0, 0, 0)) := rfl
theorem bl_X0_goerOn_0 : blk bX0_goerOn 0 = some ([(.bipush (-4), 2, 4, 1, 0), (.istore 4, 2, 0, 0, 0), (.iconst 0, 1, 0, 0, 0), (.istore 5, 2, 0, 0, 0), (.iconst 0, 1, 0, 0, 0), (.istore 6, 2, 0, 0, 0)], none) := rfl
theorem bl_X0_goerOn_10 : blk bX0_goerOn 10 = some ([(.iload 6, 2, 0, 0, 0), (.aload_n 0, 1, 0, 0, 0), (.getfield 27, 3, 0, 5, 0)], some (.if_icmp .ge 82, 3, 0, 0, 0)) := rfl
theorem bl_X0_goerOn_19 : blk bX0_goerOn 19 = some ([(.aload_n 0, 1, 0, 0, 0), (.iload 6, 2, 0, 0, 0), (.aload_n 0, 1, 0, 0, 0), (.getfield 31, 3, 0, 6, 0)], some (.invokevirtual 93, 3, 3, 3, 0)) := rfl
theorem bl_X0_goerOn_29 : blk bX0_goerOn 29 = some ([], some (.ifCond .eq 16, 3, 0, 0, 0)) := rfl
theorem bl_X0_goerOn_32 : blk bX0_goerOn 32 = some ([(.iload_n 2, 1, 0, 0, 0), (.iload 6, 2, 0, 0, 0), (.ishr, 1, 0, 0, 0), (.iconst 1, 1, 1, 0, 0), (.iand, 1, 0, 0, 0)], some (.ifCond .ne 7, 3, 0, 0, 0)) := rfl
theorem bl_X0_goerOn_41 : blk bX0_goerOn 41 = some ([(.iconst 1, 1, 1, 0, 0)], some (.goto 4, 3, 0, 0, 0)) := rfl
theorem bl_X0_goerOn_45 : blk bX0_goerOn 45 = some ([(.iconst 0, 1, 0, 0, 0)], none) := rfl
theorem bl_X0_goerOn_46 : blk bX0_goerOn 46 = some ([(.istore 7, 2, 0, 0, 0), (.iload 7, 2, 0, 0, 0)], some (.ifCond .eq 42, 3, 0, 0, 0)) := rfl
theorem bl_X0_goerOn_53 : blk bX0_goerOn 53 = some ([(.aload_n 0, 1, 0, 0, 0), (.iload 6, 2, 0, 0, 0), (.iload_n 1, 1, 0, 0, 0)], some (.invokevirtual 85, 3, 25, 3, 0)) := rfl
theorem bl_X0_goerOn_60 : blk bX0_goerOn 60 = some ([(.bipush (-4), 2, 4, 1, 0)], some (.if_icmp .eq 30, 3, 0, 0, 0)) := rfl
theorem bl_X0_goerOn_65 : blk bX0_goerOn 65 = some ([(.aload_n 0, 1, 0, 0, 0), (.iload 6, 2, 0, 0, 0), (.iload_n 3, 1, 0, 0, 0)], some (.invokevirtual 96, 3, 27, 3, 0)) := rfl
theorem bl_X0_goerOn_72 : blk bX0_goerOn 72 = some ([], some (.invokestatic 100, 3, 28, 1, 0)) := rfl
theorem bl_X0_goerOn_75 : blk bX0_goerOn 75 = some ([(.istore 8, 2, 0, 0, 0), (.iload 8, 2, 0, 0, 0), (.iload 5, 2, 0, 0, 0)], some (.if_icmp .le 11, 3, 0, 0, 0)) := rfl
theorem bl_X0_goerOn_84 : blk bX0_goerOn 84 = some ([(.iload 6, 2, 0, 0, 0), (.istore 4, 2, 0, 0, 0), (.iload 8, 2, 0, 0, 0), (.istore 5, 2, 0, 0, 0)], none) := rfl
theorem bl_X0_goerOn_92 : blk bX0_goerOn 92 = some ([(.iinc 6 1, 3, 1, 0, 0)], some (.goto (-85), 3, 0, 0, 0)) := rfl
theorem bl_X0_goerOn_98 : blk bX0_goerOn 98 = some ([(.iconst 2, 1, 2, 0, 0), (.iload 5, 2, 0, 0, 0), (.imul, 1, 0, 0, 0), (.aload_n 0, 1, 0, 0, 0), (.aload_n 0, 1, 0, 0, 0), (.getfield 31, 3, 0, 6, 0)], some (.invokevirtual 106, 3, 29, 2, 0)) := rfl
theorem bl_X0_goerOn_110 : blk bX0_goerOn 110 = some ([], some (.if_icmp .le 8, 3, 0, 0, 0)) := rfl
theorem bl_X0_goerOn_113 : blk bX0_goerOn 113 = some ([(.iload 4, 2, 0, 0, 0)], some (.goto 5, 3, 0, 0, 0)) := rfl
theorem bl_X0_goerOn_118 : blk bX0_goerOn 118 = some ([(.bipush (-4), 2, 4, 1, 0)], none) := rfl
theorem bl_X0_goerOn_120 : blk bX0_goerOn 120 = some ([], some (.ireturn, 1, 0, 0, 0)) := rfl
theorem bl_X0_passDay_0 : blk bX0_passDay 0 = some ([(.aload_n 0, 1, 0, 0, 0), (.dup, 1, 0, 0, 0), (.getfield 37, 3, 0, 8, 0), (.iconst 1, 1, 1, 0, 0), (.iadd, 1, 0, 0, 0), (.putfield 37, 3, 0, 8, 0), (.aload_n 0, 1, 0, 0, 0), (.aload_n 0, 1, 0, 0, 0), (.getfield 37, 3, 0, 8, 0), (.iload_n 1, 1, 0, 0, 0), (.iload_n 2, 1, 0, 0, 0)], some (.invokevirtual 81, 3, 30, 4, 0)) := rfl
theorem bl_X0_passDay_20 : blk bX0_passDay 20 = some ([(.istore_n 3, 1, 0, 0, 0), (.iload_n 3, 1, 0, 0, 0), (.bipush (-4), 2, 4, 1, 0)], some (.if_icmp .ne 32, 3, 0, 0, 0)) := rfl
theorem bl_X0_passDay_27 : blk bX0_passDay 27 = some ([(.aload_n 0, 1, 0, 0, 0), (.aload_n 0, 1, 0, 0, 0), (.getfield 34, 3, 0, 7, 0), (.sipush 9999, 3, 9999, 0, 0)], some (.if_icmp .ge 12, 3, 0, 0, 0)) := rfl
theorem bl_X0_passDay_38 : blk bX0_passDay 38 = some ([(.aload_n 0, 1, 0, 0, 0), (.getfield 34, 3, 0, 7, 0), (.iconst 1, 1, 1, 0, 0), (.iadd, 1, 0, 0, 0)], some (.goto 6, 3, 0, 0, 0)) := rfl
theorem bl_X0_passDay_47 : blk bX0_passDay 47 = some ([(.sipush 9999, 3, 9999, 0, 0)], none) := rfl
theorem bl_X0_passDay_50 : blk bX0_passDay 50 = some ([(.putfield 34, 3, 0, 7, 0)], some (.goto 42, 3, 0, 0, 0)) := rfl
theorem bl_X0_passDay_56 : blk bX0_passDay 56 = some ([(.aload_n 0, 1, 0, 0, 0), (.iload_n 3, 1, 0, 0, 0), (.aload_n 0, 1, 0, 0, 0), (.getfield 37, 3, 0, 8, 0)], some (.invokevirtual 85, 3, 25, 3, 0)) := rfl
theorem bl_X0_passDay_65 : blk bX0_passDay 65 = some ([(.istore 4, 2, 0, 0, 0), (.iload 4, 2, 0, 0, 0)], some (.invokestatic 71, 3, 12, 1, 0)) := rfl
theorem bl_X0_passDay_72 : blk bX0_passDay 72 = some ([], some (.ifCond .eq 15, 3, 0, 0, 0)) := rfl
theorem bl_X0_passDay_75 : blk bX0_passDay 75 = some ([(.aload_n 0, 1, 0, 0, 0), (.aload_n 0, 1, 0, 0, 0), (.getfield 24, 3, 0, 4, 0), (.iload 4, 2, 0, 0, 0), (.iaload, 1, 0, 0, 0)], some (.invokevirtual 74, 3, 13, 2, 0)) := rfl
theorem bl_X0_passDay_86 : blk bX0_passDay 86 = some ([(.pop, 1, 0, 0, 0)], none) := rfl
theorem bl_X0_passDay_87 : blk bX0_passDay 87 = some ([(.aload_n 0, 1, 0, 0, 0), (.iload_n 3, 1, 0, 0, 0), (.iload 4, 2, 0, 0, 0)], some (.invokevirtual 89, 3, 14, 3, 0)) := rfl
theorem bl_X0_passDay_94 : blk bX0_passDay 94 = some ([(.pop, 1, 0, 0, 0)], none) := rfl
theorem bl_X0_passDay_95 : blk bX0_passDay 95 = some ([(.aload_n 0, 1, 0, 0, 0), (.iconst 1, 1, 1, 0, 0), (.aload_n 0, 1, 0, 0, 0), (.getfield 31, 3, 0, 6, 0), (.isub, 1, 0, 0, 0), (.putfield 31, 3, 0, 6, 0), (.iload_n 3, 1, 0, 0, 0), (.bipush (-4), 2, 4, 1, 0)], some (.if_icmp .eq 7, 3, 0, 0, 0)) := rfl
theorem bl_X0_passDay_111 : blk bX0_passDay 111 = some ([(.iconst 1, 1, 1, 0, 0)], some (.goto 4, 3, 0, 0, 0)) := rfl
theorem bl_X0_passDay_115 : blk bX0_passDay 115 = some ([(.iconst 0, 1, 0, 0, 0)], none) := rfl
theorem bl_X0_passDay_116 : blk bX0_passDay 116 = some ([], some (.ireturn, 1, 1, 0, 0)) := rfl
theorem bl_X0_passWithinLast_0 : blk bX0_passWithinLast 0 = some ([(.iload_n 1, 1, 0, 0, 0), (.iconst 1, 1, 1, 0, 0)], some (.if_icmp .lt 21, 3, 0, 0, 0)) := rfl
theorem bl_X0_passWithinLast_5 : blk bX0_passWithinLast 5 = some ([(.iload_n 1, 1, 0, 0, 0), (.bipush 60, 2, 60, 0, 0)], some (.if_icmp .gt 15, 3, 0, 0, 0)) := rfl
theorem bl_X0_passWithinLast_11 : blk bX0_passWithinLast 11 = some ([(.aload_n 0, 1, 0, 0, 0), (.getfield 37, 3, 0, 8, 0), (.iload_n 1, 1, 0, 0, 0), (.iadd, 1, 0, 0, 0), (.sipush 999, 3, 999, 0, 0)], some (.if_icmp .le 5, 3, 0, 0, 0)) := rfl
theorem bl_X0_passWithinLast_23 : blk bX0_passWithinLast 23 = some ([(.iconst 0, 1, 0, 0, 0)], some (.ireturn, 1, 1, 0, 0)) := rfl
theorem bl_X0_passWithinLast_25 : blk bX0_passWithinLast 25 = some ([(.iconst 0, 1, 0, 0, 0), (.istore_n 2, 1, 0, 0, 0)], none) := rfl
theorem bl_X0_passWithinLast_27 : blk bX0_passWithinLast 27 = some ([(.iload_n 2, 1, 0, 0, 0), (.iload_n 1, 1, 0, 0, 0)], some (.if_icmp .ge 16, 3, 0, 0, 0)) := rfl
theorem bl_X0_passWithinLast_32 : blk bX0_passWithinLast 32 = some ([(.aload_n 0, 1, 0, 0, 0), (.iconst 0, 1, 0, 0, 0), (.iconst 0, 1, 0, 0, 0)], some (.invokevirtual 77, 3, 31, 3, 0)) := rfl
theorem bl_X0_passWithinLast_38 : blk bX0_passWithinLast 38 = some ([(.pop, 1, 0, 0, 0), (.iinc 2 1, 3, 1, 0, 0)], some (.goto (-15), 3, 0, 0, 0)) := rfl
theorem bl_X0_passWithinLast_45 : blk bX0_passWithinLast 45 = some ([(.iconst 1, 1, 1, 0, 0)], some (.ireturn, 1, 1, 0, 0)) := rfl
theorem bl_X0_passDays_0 : blk bX0_passDays 0 = some ([(.iconst 0, 1, 0, 0, 0), (.istore_n 2, 1, 0, 0, 0)], none) := rfl
theorem bl_X0_passDays_2 : blk bX0_passDays 2 = some ([(.iload_n 2, 1, 0, 0, 0), (.iload_n 1, 1, 0, 0, 0)], some (.if_icmp .ge 16, 3, 0, 0, 0)) := rfl
theorem bl_X0_passDays_7 : blk bX0_passDays 7 = some ([(.aload_n 0, 1, 0, 0, 0), (.iconst 0, 1, 0, 0, 0), (.iconst 0, 1, 0, 0, 0)], some (.invokevirtual 77, 3, 31, 3, 0)) := rfl
theorem bl_X0_passDays_13 : blk bX0_passDays 13 = some ([(.pop, 1, 0, 0, 0), (.iinc 2 1, 3, 1, 0, 0)], some (.goto (-15), 3, 0, 0, 0)) := rfl
theorem bl_X0_passDays_20 : blk bX0_passDays 20 = some ([], some (.return_, 1, 0, 0, 0)) := rfl
theorem bl_X0_howManyThere_0 : blk bX0_howManyThere 0 = some ([(.aload_n 0, 1, 0, 0, 0), (.iconst 0, 1, 0, 0, 0)], some (.invokevirtual 106, 3, 29, 2, 0)) := rfl
theorem bl_X0_howManyThere_5 : blk bX0_howManyThere 5 = some ([(.aload_n 0, 1, 0, 0, 0), (.iconst 1, 1, 1, 0, 0)], some (.invokevirtual 106, 3, 29, 2, 0)) := rfl
theorem bl_X0_howManyThere_10 : blk bX0_howManyThere 10 = some ([(.iadd, 1, 0, 0, 0)], some (.ireturn, 1, 0, 0, 0)) := rfl
theorem bl_X0_bitsThere_0 : blk bX0_bitsThere 0 = some ([(.iconst 0, 1, 0, 0, 0), (.istore_n 1, 1, 0, 0, 0), (.iconst 0, 1, 0, 0, 0), (.istore_n 2, 1, 0, 0, 0)], none) := rfl
theorem bl_X0_bitsThere_4 : blk bX0_bitsThere 4 = some ([(.iload_n 2, 1, 0, 0, 0), (.aload_n 0, 1, 0, 0, 0), (.getfield 27, 3, 0, 5, 0)], some (.if_icmp .ge 27, 3, 0, 0, 0)) := rfl
theorem bl_X0_bitsThere_12 : blk bX0_bitsThere 12 = some ([(.iload_n 1, 1, 0, 0, 0), (.aload_n 0, 1, 0, 0, 0), (.iload_n 2, 1, 0, 0, 0)], some (.invokevirtual 56, 3, 2, 2, 0)) := rfl
theorem bl_X0_bitsThere_18 : blk bX0_bitsThere 18 = some ([], some (.ifCond .eq 9, 3, 0, 0, 0)) := rfl
theorem bl_X0_bitsThere_21 : blk bX0_bitsThere 21 = some ([(.iconst 1, 1, 1, 0, 0), (.iload_n 2, 1, 0, 0, 0), (.ishl, 1, 0, 0, 0)], some (.goto 4, 3, 0, 0, 0)) := rfl
theorem bl_X0_bitsThere_27 : blk bX0_bitsThere 27 = some ([(.iconst 0, 1, 0, 0, 0)], none) := rfl
theorem bl_X0_bitsThere_28 : blk bX0_bitsThere 28 = some ([(.ior, 1, 0, 0, 0), (.istore_n 1, 1, 0, 0, 0), (.iinc 2 1, 3, 1, 0, 0)], some (.goto (-29), 3, 0, 0, 0)) := rfl
theorem bl_X0_bitsThere_36 : blk bX0_bitsThere 36 = some ([(.iload_n 1, 1, 0, 0, 0)], some (.ireturn, 1, 0, 0, 0)) := rfl
theorem bl_X1_worthWith_0 : blk bX1_worthWith 0 = some ([(.iload_n 0, 1, 0, 0, 0)], some (.tableswitch 65 0 7 #[65, 47, 49, 51, 57, 60, 63, 51], 47, 0, 0, 0)) := rfl
theorem bl_X1_worthWith_48 : blk bX1_worthWith 48 = some ([(.iconst 3, 1, 3, 0, 0)], some (.ireturn, 1, 0, 0, 0)) := rfl
theorem bl_X1_worthWith_50 : blk bX1_worthWith 50 = some ([(.iconst 5, 1, 5, 0, 0)], some (.ireturn, 1, 0, 0, 0)) := rfl
theorem bl_X1_worthWith_52 : blk bX1_worthWith 52 = some ([(.iconst 1, 1, 1, 0, 0), (.iload_n 1, 1, 0, 0, 0), (.iconst 3, 1, 3, 0, 0), (.idiv, 1, 0, 0, 0), (.iadd, 1, 0, 0, 0)], some (.ireturn, 1, 0, 0, 0)) := rfl
theorem bl_X1_worthWith_58 : blk bX1_worthWith 58 = some ([(.bipush 9, 2, 9, 0, 0)], some (.ireturn, 1, 0, 0, 0)) := rfl
theorem bl_X1_worthWith_61 : blk bX1_worthWith 61 = some ([(.bipush 9, 2, 9, 0, 0)], some (.ireturn, 1, 0, 0, 0)) := rfl
theorem bl_X1_worthWith_64 : blk bX1_worthWith 64 = some ([(.iconst 4, 1, 4, 0, 0)], some (.ireturn, 1, 0, 0, 0)) := rfl
theorem bl_X1_worthWith_66 : blk bX1_worthWith 66 = some ([(.iconst 1, 1, 1, 0, 0)], some (.ireturn, 1, 0, 0, 0)) := rfl
theorem bl_X0_worthOf_0 : blk bX0_worthOf 0 = some ([(.iconst 0, 1, 0, 0, 0), (.istore_n 2, 1, 0, 0, 0), (.iconst 0, 1, 0, 0, 0), (.istore_n 3, 1, 0, 0, 0)], none) := rfl
theorem bl_X0_worthOf_4 : blk bX0_worthOf 4 = some ([(.iload_n 3, 1, 0, 0, 0), (.aload_n 0, 1, 0, 0, 0), (.getfield 27, 3, 0, 5, 0)], some (.if_icmp .ge 40, 3, 0, 0, 0)) := rfl
theorem bl_X0_worthOf_12 : blk bX0_worthOf 12 = some ([(.iload_n 2, 1, 0, 0, 0), (.aload_n 0, 1, 0, 0, 0), (.iload_n 3, 1, 0, 0, 0), (.iload_n 1, 1, 0, 0, 0)], some (.invokevirtual 93, 3, 3, 3, 0)) := rfl
theorem bl_X0_worthOf_19 : blk bX0_worthOf 19 = some ([], some (.ifCond .eq 21, 3, 0, 0, 0)) := rfl
theorem bl_X0_worthOf_22 : blk bX0_worthOf 22 = some ([(.aload_n 0, 1, 0, 0, 0), (.getfield 9, 3, 0, 0, 0), (.iload_n 3, 1, 0, 0, 0), (.iaload, 1, 0, 0, 0), (.aload_n 0, 1, 0, 0, 0), (.getfield 15, 3, 0, 1, 0), (.iload_n 3, 1, 0, 0, 0), (.iaload, 1, 0, 0, 0)], some (.invokestatic 139, 3, 36, 2, 0)) := rfl
theorem bl_X0_worthOf_37 : blk bX0_worthOf 37 = some ([], some (.goto 4, 3, 0, 0, 0)) := rfl
theorem bl_X0_worthOf_40 : blk bX0_worthOf 40 = some ([(.iconst 0, 1, 0, 0, 0)], none) := rfl
theorem bl_X0_worthOf_41 : blk bX0_worthOf 41 = some ([(.iadd, 1, 0, 0, 0), (.istore_n 2, 1, 0, 0, 0), (.iinc 3 1, 3, 1, 0, 0)], some (.goto (-42), 3, 0, 0, 0)) := rfl
theorem bl_X0_worthOf_49 : blk bX0_worthOf 49 = some ([(.iload_n 2, 1, 0, 0, 0)], some (.ireturn, 1, 0, 0, 0)) := rfl
theorem bl_X0_worthWithout_0 : blk bX0_worthWithout 0 = some ([(.aload_n 0, 1, 0, 0, 0), (.iload_n 1, 1, 0, 0, 0)], some (.invokevirtual 52, 3, 1, 2, 0)) := rfl
theorem bl_X0_worthWithout_5 : blk bX0_worthWithout 5 = some ([], some (.ifCond .ne 5, 3, 0, 0, 0)) := rfl
theorem bl_X0_worthWithout_8 : blk bX0_worthWithout 8 = some ([(.iconst 0, 1, 0, 0, 0)], some (.ireturn, 1, 0, 0, 0)) := rfl
theorem bl_X0_worthWithout_10 : blk bX0_worthWithout 10 = some ([(.aload_n 0, 1, 0, 0, 0), (.aload_n 0, 1, 0, 0, 0), (.getfield 18, 3, 0, 2, 0), (.iload_n 1, 1, 0, 0, 0), (.iaload, 1, 0, 0, 0)], some (.invokevirtual 142, 3, 37, 2, 0)) := rfl
theorem bl_X0_worthWithout_20 : blk bX0_worthWithout 20 = some ([(.aload_n 0, 1, 0, 0, 0), (.iload_n 1, 1, 0, 0, 0)], some (.invokevirtual 56, 3, 2, 2, 0)) := rfl
theorem bl_X0_worthWithout_25 : blk bX0_worthWithout 25 = some ([], some (.ifCond .eq 21, 3, 0, 0, 0)) := rfl
theorem bl_X0_worthWithout_28 : blk bX0_worthWithout 28 = some ([(.aload_n 0, 1, 0, 0, 0), (.getfield 9, 3, 0, 0, 0), (.iload_n 1, 1, 0, 0, 0), (.iaload, 1, 0, 0, 0), (.aload_n 0, 1, 0, 0, 0), (.getfield 15, 3, 0, 1, 0), (.iload_n 1, 1, 0, 0, 0), (.iaload, 1, 0, 0, 0)], some (.invokestatic 139, 3, 36, 2, 0)) := rfl
theorem bl_X0_worthWithout_43 : blk bX0_worthWithout 43 = some ([], some (.goto 4, 3, 0, 0, 0)) := rfl
theorem bl_X0_worthWithout_46 : blk bX0_worthWithout 46 = some ([(.iconst 0, 1, 0, 0, 0)], none) := rfl
theorem bl_X0_worthWithout_47 : blk bX0_worthWithout 47 = some ([(.isub, 1, 0, 0, 0)], some (.ireturn, 1, 0, 0, 0)) := rfl
theorem bl_X0_gainOf_0 : blk bX0_gainOf 0 = some ([(.aload_n 0, 1, 0, 0, 0), (.iload_n 1, 1, 0, 0, 0)], some (.invokevirtual 52, 3, 1, 2, 0)) := rfl
theorem bl_X0_gainOf_5 : blk bX0_gainOf 5 = some ([], some (.ifCond .ne 5, 3, 0, 0, 0)) := rfl
theorem bl_X0_gainOf_8 : blk bX0_gainOf 8 = some ([(.iconst 0, 1, 0, 0, 0)], some (.ireturn, 1, 0, 0, 0)) := rfl
theorem bl_X0_gainOf_10 : blk bX0_gainOf 10 = some ([(.aload_n 0, 1, 0, 0, 0), (.aload_n 0, 1, 0, 0, 0), (.getfield 18, 3, 0, 2, 0), (.iload_n 1, 1, 0, 0, 0), (.iaload, 1, 0, 0, 0)], some (.invokevirtual 142, 3, 37, 2, 0)) := rfl
theorem bl_X0_gainOf_20 : blk bX0_gainOf 20 = some ([(.aload_n 0, 1, 0, 0, 0), (.iload_n 1, 1, 0, 0, 0)], some (.invokevirtual 56, 3, 2, 2, 0)) := rfl
theorem bl_X0_gainOf_25 : blk bX0_gainOf 25 = some ([], some (.ifCond .eq 7, 3, 0, 0, 0)) := rfl
theorem bl_X0_gainOf_28 : blk bX0_gainOf 28 = some ([(.iconst 0, 1, 0, 0, 0)], some (.goto 4, 3, 0, 0, 0)) := rfl
theorem bl_X0_gainOf_32 : blk bX0_gainOf 32 = some ([(.iconst 5, 1, 5, 0, 0)], none) := rfl
theorem bl_X0_gainOf_33 : blk bX0_gainOf 33 = some ([(.isub, 1, 0, 0, 0)], some (.ireturn, 1, 0, 0, 0)) := rfl
theorem bl_X0_groupAround_0 : blk bX0_groupAround 0 = some ([(.iconst 1, 1, 1, 0, 0), (.iload_n 1, 1, 0, 0, 0), (.ishl, 1, 0, 0, 0), (.istore_n 2, 1, 0, 0, 0), (.iconst 1, 1, 1, 0, 0), (.istore_n 3, 1, 0, 0, 0)], none) := rfl
theorem bl_X0_groupAround_6 : blk bX0_groupAround 6 = some ([(.iload_n 3, 1, 0, 0, 0), (.aload_n 0, 1, 0, 0, 0), (.getfield 27, 3, 0, 5, 0)], some (.if_icmp .ge 86, 3, 0, 0, 0)) := rfl
theorem bl_X0_groupAround_14 : blk bX0_groupAround 14 = some ([(.iconst 0, 1, 0, 0, 0), (.istore 4, 2, 0, 0, 0)], none) := rfl
theorem bl_X0_groupAround_17 : blk bX0_groupAround 17 = some ([(.iload 4, 2, 0, 0, 0), (.aload_n 0, 1, 0, 0, 0), (.getfield 27, 3, 0, 5, 0)], some (.if_icmp .ge 68, 3, 0, 0, 0)) := rfl
theorem bl_X0_groupAround_26 : blk bX0_groupAround 26 = some ([(.aload_n 0, 1, 0, 0, 0), (.iload 4, 2, 0, 0, 0), (.aload_n 0, 1, 0, 0, 0), (.getfield 18, 3, 0, 2, 0), (.iload_n 1, 1, 0, 0, 0), (.iaload, 1, 0, 0, 0)], some (.invokevirtual 93, 3, 3, 3, 0)) := rfl
theorem bl_X0_groupAround_38 : blk bX0_groupAround 38 = some ([], some (.ifCond .eq 13, 3, 0, 0, 0)) := rfl
theorem bl_X0_groupAround_41 : blk bX0_groupAround 41 = some ([(.aload_n 0, 1, 0, 0, 0), (.iload 4, 2, 0, 0, 0), (.iconst 0, 1, 0, 0, 0)], some (.invokevirtual 96, 3, 27, 3, 0)) := rfl
theorem bl_X0_groupAround_48 : blk bX0_groupAround 48 = some ([], some (.goto 4, 3, 0, 0, 0)) := rfl
theorem bl_X0_groupAround_51 : blk bX0_groupAround 51 = some ([(.iconst 0, 1, 0, 0, 0)], none) := rfl
theorem bl_X0_groupAround_52 : blk bX0_groupAround 52 = some ([(.istore 5, 2, 0, 0, 0), (.iload_n 2, 1, 0, 0, 0), (.iload 4, 2, 0, 0, 0), (.ishr, 1, 0, 0, 0), (.iconst 1, 1, 1, 0, 0), (.iand, 1, 0, 0, 0)], some (.ifCond .eq 11, 3, 0, 0, 0)) := rfl
theorem bl_X0_groupAround_63 : blk bX0_groupAround 63 = some ([(.iload_n 2, 1, 0, 0, 0), (.iload 5, 2, 0, 0, 0), (.ior, 1, 0, 0, 0), (.istore_n 2, 1, 0, 0, 0)], some (.goto 17, 3, 0, 0, 0)) := rfl
theorem bl_X0_groupAround_71 : blk bX0_groupAround 71 = some ([(.iload_n 2, 1, 0, 0, 0), (.iload 5, 2, 0, 0, 0), (.iand, 1, 0, 0, 0)], some (.ifCond .eq 10, 3, 0, 0, 0)) := rfl
theorem bl_X0_groupAround_78 : blk bX0_groupAround 78 = some ([(.iload_n 2, 1, 0, 0, 0), (.iconst 1, 1, 1, 0, 0), (.iload 4, 2, 0, 0, 0), (.ishl, 1, 0, 0, 0), (.ior, 1, 0, 0, 0), (.istore_n 2, 1, 0, 0, 0)], none) := rfl
theorem bl_X0_groupAround_85 : blk bX0_groupAround 85 = some ([(.iinc 4 1, 3, 1, 0, 0)], some (.goto (-71), 3, 0, 0, 0)) := rfl
theorem bl_X0_groupAround_91 : blk bX0_groupAround 91 = some ([(.iinc 3 1, 3, 1, 0, 0)], some (.goto (-88), 3, 0, 0, 0)) := rfl
theorem bl_X0_groupAround_97 : blk bX0_groupAround 97 = some ([(.iload_n 2, 1, 0, 0, 0)], some (.ireturn, 1, 0, 0, 0)) := rfl
theorem bl_X0_groupsOf_0 : blk bX0_groupsOf 0 = some ([(.iconst 0, 1, 0, 0, 0), (.istore_n 2, 1, 0, 0, 0), (.iconst 0, 1, 0, 0, 0), (.istore_n 3, 1, 0, 0, 0), (.iconst 0, 1, 0, 0, 0), (.istore 4, 2, 0, 0, 0)], none) := rfl
theorem bl_X0_groupsOf_7 : blk bX0_groupsOf 7 = some ([(.iload 4, 2, 0, 0, 0), (.aload_n 0, 1, 0, 0, 0), (.getfield 27, 3, 0, 5, 0)], some (.if_icmp .ge 40, 3, 0, 0, 0)) := rfl
theorem bl_X0_groupsOf_16 : blk bX0_groupsOf 16 = some ([(.aload_n 0, 1, 0, 0, 0), (.iload 4, 2, 0, 0, 0), (.iload_n 1, 1, 0, 0, 0)], some (.invokevirtual 93, 3, 3, 3, 0)) := rfl
theorem bl_X0_groupsOf_23 : blk bX0_groupsOf 23 = some ([], some (.ifCond .eq 24, 3, 0, 0, 0)) := rfl
theorem bl_X0_groupsOf_26 : blk bX0_groupsOf 26 = some ([(.iload_n 3, 1, 0, 0, 0), (.iload 4, 2, 0, 0, 0), (.ishr, 1, 0, 0, 0), (.iconst 1, 1, 1, 0, 0), (.iand, 1, 0, 0, 0)], some (.ifCond .ne 15, 3, 0, 0, 0)) := rfl
theorem bl_X0_groupsOf_35 : blk bX0_groupsOf 35 = some ([(.iload_n 3, 1, 0, 0, 0), (.aload_n 0, 1, 0, 0, 0), (.iload 4, 2, 0, 0, 0)], some (.invokevirtual 145, 3, 40, 2, 0)) := rfl
theorem bl_X0_groupsOf_42 : blk bX0_groupsOf 42 = some ([(.ior, 1, 0, 0, 0), (.istore_n 3, 1, 0, 0, 0), (.iinc 2 1, 3, 1, 0, 0)], none) := rfl
theorem bl_X0_groupsOf_47 : blk bX0_groupsOf 47 = some ([(.iinc 4 1, 3, 1, 0, 0)], some (.goto (-43), 3, 0, 0, 0)) := rfl
theorem bl_X0_groupsOf_53 : blk bX0_groupsOf 53 = some ([(.iload_n 2, 1, 0, 0, 0)], some (.ireturn, 1, 0, 0, 0)) := rfl
theorem bl_X0_farthestOf_0 : blk bX0_farthestOf 0 = some ([(.bipush (-4), 2, 4, 1, 0), (.istore_n 2, 1, 0, 0, 0), (.bipush (-4), 2, 4, 1, 0), (.istore_n 3, 1, 0, 0, 0), (.iconst 0, 1, 0, 0, 0), (.istore 4, 2, 0, 0, 0)], none) := rfl
theorem bl_X0_farthestOf_9 : blk bX0_farthestOf 9 = some ([(.iload 4, 2, 0, 0, 0), (.aload_n 0, 1, 0, 0, 0), (.getfield 27, 3, 0, 5, 0)], some (.if_icmp .ge 58, 3, 0, 0, 0)) := rfl
theorem bl_X0_farthestOf_18 : blk bX0_farthestOf 18 = some ([(.aload_n 0, 1, 0, 0, 0), (.iload 4, 2, 0, 0, 0), (.iload_n 1, 1, 0, 0, 0)], some (.invokevirtual 93, 3, 3, 3, 0)) := rfl
theorem bl_X0_farthestOf_25 : blk bX0_farthestOf 25 = some ([], some (.ifCond .eq 42, 3, 0, 0, 0)) := rfl
theorem bl_X0_farthestOf_28 : blk bX0_farthestOf 28 = some ([(.aload_n 0, 1, 0, 0, 0), (.getfield 21, 3, 0, 3, 0), (.iload 4, 2, 0, 0, 0), (.iaload, 1, 0, 0, 0), (.bipush 6, 2, 6, 0, 0), (.idiv, 1, 0, 0, 0), (.istore 5, 2, 0, 0, 0), (.iload_n 1, 1, 0, 0, 0)], some (.ifCond .ne 8, 3, 0, 0, 0)) := rfl
theorem bl_X0_farthestOf_44 : blk bX0_farthestOf 44 = some ([(.iload 5, 2, 0, 0, 0)], some (.goto 7, 3, 0, 0, 0)) := rfl
theorem bl_X0_farthestOf_49 : blk bX0_farthestOf 49 = some ([(.iconst 5, 1, 5, 0, 0), (.iload 5, 2, 0, 0, 0), (.isub, 1, 0, 0, 0)], none) := rfl
theorem bl_X0_farthestOf_53 : blk bX0_farthestOf 53 = some ([(.istore 6, 2, 0, 0, 0), (.iload 6, 2, 0, 0, 0), (.iload_n 3, 1, 0, 0, 0)], some (.if_icmp .le 9, 3, 0, 0, 0)) := rfl
theorem bl_X0_farthestOf_61 : blk bX0_farthestOf 61 = some ([(.iload 4, 2, 0, 0, 0), (.istore_n 2, 1, 0, 0, 0), (.iload 6, 2, 0, 0, 0), (.istore_n 3, 1, 0, 0, 0)], none) := rfl
theorem bl_X0_farthestOf_67 : blk bX0_farthestOf 67 = some ([(.iinc 4 1, 3, 1, 0, 0)], some (.goto (-61), 3, 0, 0, 0)) := rfl
theorem bl_X0_farthestOf_73 : blk bX0_farthestOf 73 = some ([(.iload_n 2, 1, 0, 0, 0)], some (.ireturn, 1, 0, 0, 0)) := rfl
theorem bl_X0_pairsSideBySide_0 : blk bX0_pairsSideBySide 0 = some ([(.iconst 0, 1, 0, 0, 0), (.istore_n 1, 1, 0, 0, 0), (.iconst 0, 1, 0, 0, 0), (.istore_n 2, 1, 0, 0, 0)], none) := rfl
theorem bl_X0_pairsSideBySide_4 : blk bX0_pairsSideBySide 4 = some ([(.iload_n 2, 1, 0, 0, 0), (.aload_n 0, 1, 0, 0, 0), (.getfield 27, 3, 0, 5, 0)], some (.if_icmp .ge 65, 3, 0, 0, 0)) := rfl
theorem bl_X0_pairsSideBySide_12 : blk bX0_pairsSideBySide 12 = some ([(.iconst 0, 1, 0, 0, 0), (.istore_n 3, 1, 0, 0, 0)], none) := rfl
theorem bl_X0_pairsSideBySide_14 : blk bX0_pairsSideBySide 14 = some ([(.iload_n 3, 1, 0, 0, 0), (.aload_n 0, 1, 0, 0, 0), (.getfield 27, 3, 0, 5, 0)], some (.if_icmp .ge 49, 3, 0, 0, 0)) := rfl
theorem bl_X0_pairsSideBySide_22 : blk bX0_pairsSideBySide 22 = some ([(.aload_n 0, 1, 0, 0, 0), (.iload_n 2, 1, 0, 0, 0), (.iconst 0, 1, 0, 0, 0)], some (.invokevirtual 93, 3, 3, 3, 0)) := rfl
theorem bl_X0_pairsSideBySide_28 : blk bX0_pairsSideBySide 28 = some ([], some (.ifCond .eq 34, 3, 0, 0, 0)) := rfl
theorem bl_X0_pairsSideBySide_31 : blk bX0_pairsSideBySide 31 = some ([(.aload_n 0, 1, 0, 0, 0), (.iload_n 3, 1, 0, 0, 0), (.iconst 1, 1, 1, 0, 0)], some (.invokevirtual 93, 3, 3, 3, 0)) := rfl
theorem bl_X0_pairsSideBySide_37 : blk bX0_pairsSideBySide 37 = some ([], some (.ifCond .eq 25, 3, 0, 0, 0)) := rfl
theorem bl_X0_pairsSideBySide_40 : blk bX0_pairsSideBySide 40 = some ([(.aload_n 0, 1, 0, 0, 0), (.getfield 21, 3, 0, 3, 0), (.iload_n 2, 1, 0, 0, 0), (.iaload, 1, 0, 0, 0), (.aload_n 0, 1, 0, 0, 0), (.getfield 21, 3, 0, 3, 0), (.iload_n 3, 1, 0, 0, 0), (.iaload, 1, 0, 0, 0)], some (.invokestatic 114, 3, 22, 2, 0)) := rfl
theorem bl_X0_pairsSideBySide_55 : blk bX0_pairsSideBySide 55 = some ([(.iconst 1, 1, 1, 0, 0)], some (.if_icmp .ne 6, 3, 0, 0, 0)) := rfl
theorem bl_X0_pairsSideBySide_59 : blk bX0_pairsSideBySide 59 = some ([(.iinc 1 1, 3, 1, 0, 0)], none) := rfl
theorem bl_X0_pairsSideBySide_62 : blk bX0_pairsSideBySide 62 = some ([(.iinc 3 1, 3, 1, 0, 0)], some (.goto (-51), 3, 0, 0, 0)) := rfl
theorem bl_X0_pairsSideBySide_68 : blk bX0_pairsSideBySide 68 = some ([(.iinc 2 1, 3, 1, 0, 0)], some (.goto (-67), 3, 0, 0, 0)) := rfl
theorem bl_X0_pairsSideBySide_74 : blk bX0_pairsSideBySide 74 = some ([(.iload_n 1, 1, 0, 0, 0)], some (.ireturn, 1, 0, 0, 0)) := rfl
theorem bl_X0_quietOn_0 : blk bX0_quietOn 0 = some ([(.iconst 0, 1, 0, 0, 0), (.istore_n 2, 1, 0, 0, 0), (.iconst 0, 1, 0, 0, 0), (.istore_n 3, 1, 0, 0, 0)], none) := rfl
theorem bl_X0_quietOn_4 : blk bX0_quietOn 4 = some ([(.iload_n 3, 1, 0, 0, 0), (.aload_n 0, 1, 0, 0, 0), (.getfield 27, 3, 0, 5, 0)], some (.if_icmp .ge 38, 3, 0, 0, 0)) := rfl
theorem bl_X0_quietOn_12 : blk bX0_quietOn 12 = some ([(.iload_n 2, 1, 0, 0, 0), (.aload_n 0, 1, 0, 0, 0), (.iload_n 3, 1, 0, 0, 0)], some (.invokevirtual 56, 3, 2, 2, 0)) := rfl
theorem bl_X0_quietOn_18 : blk bX0_quietOn 18 = some ([], some (.ifCond .eq 20, 3, 0, 0, 0)) := rfl
theorem bl_X0_quietOn_21 : blk bX0_quietOn 21 = some ([(.aload_n 0, 1, 0, 0, 0), (.iload_n 3, 1, 0, 0, 0), (.iload_n 1, 1, 0, 0, 0)], some (.invokevirtual 85, 3, 25, 3, 0)) := rfl
theorem bl_X0_quietOn_27 : blk bX0_quietOn 27 = some ([(.bipush (-4), 2, 4, 1, 0)], some (.if_icmp .ne 9, 3, 0, 0, 0)) := rfl
theorem bl_X0_quietOn_32 : blk bX0_quietOn 32 = some ([(.iconst 1, 1, 1, 0, 0), (.iload_n 3, 1, 0, 0, 0), (.ishl, 1, 0, 0, 0)], some (.goto 4, 3, 0, 0, 0)) := rfl
theorem bl_X0_quietOn_38 : blk bX0_quietOn 38 = some ([(.iconst 0, 1, 0, 0, 0)], none) := rfl
theorem bl_X0_quietOn_39 : blk bX0_quietOn 39 = some ([(.ior, 1, 0, 0, 0), (.istore_n 2, 1, 0, 0, 0), (.iinc 3 1, 3, 1, 0, 0)], some (.goto (-40), 3, 0, 0, 0)) := rfl
theorem bl_X0_quietOn_47 : blk bX0_quietOn 47 = some ([(.iload_n 2, 1, 0, 0, 0)], some (.ireturn, 1, 0, 0, 0)) := rfl
theorem bl_X1_costWith_0 : blk bX1_costWith 0 = some ([(.iload_n 0, 1, 0, 0, 0)], some (.tableswitch 65 0 7 #[65, 47, 49, 53, 55, 61, 49, 63], 47, 0, 0, 0)) := rfl
theorem bl_X1_costWith_48 : blk bX1_costWith 48 = some ([(.iconst 3, 1, 3, 0, 0)], some (.ireturn, 1, 0, 0, 0)) := rfl
theorem bl_X1_costWith_50 : blk bX1_costWith 50 = some ([(.iconst 1, 1, 1, 0, 0), (.iload_n 1, 1, 0, 0, 0), (.iadd, 1, 0, 0, 0)], some (.ireturn, 1, 0, 0, 0)) := rfl
theorem bl_X1_costWith_54 : blk bX1_costWith 54 = some ([(.iconst 2, 1, 2, 0, 0)], some (.ireturn, 1, 0, 0, 0)) := rfl
theorem bl_X1_costWith_56 : blk bX1_costWith 56 = some ([(.iconst 2, 1, 2, 0, 0), (.iconst 1, 1, 1, 0, 0), (.iload_n 1, 1, 0, 0, 0), (.iadd, 1, 0, 0, 0), (.imul, 1, 0, 0, 0)], some (.ireturn, 1, 0, 0, 0)) := rfl
theorem bl_X1_costWith_62 : blk bX1_costWith 62 = some ([(.iconst 0, 1, 0, 0, 0)], some (.ireturn, 1, 0, 0, 0)) := rfl
theorem bl_X1_costWith_64 : blk bX1_costWith 64 = some ([(.iconst 1, 1, 1, 0, 0)], some (.ireturn, 1, 0, 0, 0)) := rfl
theorem bl_X1_costWith_66 : blk bX1_costWith 66 = some ([(.iconst 1, 1, 1, 0, 0)], some (.ireturn, 1, 0, 0, 0)) := rfl
theorem bl_J7_fill_53178_0 : blk bJ7_fill_53178 0 = some ([(.iconst 0, 1, 0, 0, 0), (.istore_n 2, 1, 0, 0, 0), (.aload_n 0, 1, 0, 0, 0), (.arraylength, 1, 0, 0, 0), (.istore_n 3, 1, 0, 0, 0)], none) := rfl
theorem bl_J7_fill_53178_5 : blk bJ7_fill_53178 5 = some ([(.iload_n 2, 1, 0, 0, 0), (.iload_n 3, 1, 0, 0, 0)], some (.if_icmp .ge 13, 3, 0, 0, 0)) := rfl
theorem bl_J7_fill_53178_10 : blk bJ7_fill_53178 10 = some ([(.aload_n 0, 1, 0, 0, 0), (.iload_n 2, 1, 0, 0, 0), (.iload_n 1, 1, 0, 0, 0), (.iastore, 1, 0, 0, 0), (.iinc 2 1, 3, 1, 0, 0)], some (.goto (-12), 3, 0, 0, 0)) := rfl
theorem bl_J7_fill_53178_20 : blk bJ7_fill_53178 20 = some ([], some (.return_, 1, 0, 0, 0)) := rfl
theorem bl_X2_becomesRow_0 : blk bX2_becomesRow 0 = some ([(.aload_n 0, 1, 0, 0, 0), (.iconst 2, 1, 2, 0, 0), (.putfield 9, 3, 1, 0, 0), (.aload_n 0, 1, 0, 0, 0), (.iload_n 1, 1, 0, 0, 0), (.putfield 21, 3, 1, 3, 0), (.aload_n 0, 1, 0, 0, 0), (.iload_n 2, 1, 0, 0, 0), (.putfield 24, 3, 1, 4, 0), (.aload_n 0, 1, 0, 0, 0), (.getfield 27, 3, 1, 5, 0), (.iconst 0, 1, 0, 0, 0)], some (.invokestatic 31, 3, 46, 2, 0)) := rfl
theorem bl_X2_becomesRow_23 : blk bX2_becomesRow 23 = some ([], some (.return_, 1, 0, 0, 0)) := rfl
theorem bl_X2_hasPlace_0 : blk bX2_hasPlace 0 = some ([(.iload_n 1, 1, 0, 0, 0)], some (.ifCond .lt 21, 3, 0, 0, 0)) := rfl
theorem bl_X2_hasPlace_4 : blk bX2_hasPlace 4 = some ([(.iload_n 1, 1, 0, 0, 0), (.aload_n 0, 1, 0, 0, 0), (.getfield 24, 3, 1, 4, 0)], some (.if_icmp .ge 13, 3, 0, 0, 0)) := rfl
theorem bl_X2_hasPlace_12 : blk bX2_hasPlace 12 = some ([(.iload_n 1, 1, 0, 0, 0), (.bipush 100, 2, 100, 0, 0)], some (.if_icmp .ge 7, 3, 0, 0, 0)) := rfl
theorem bl_X2_hasPlace_18 : blk bX2_hasPlace 18 = some ([(.iconst 1, 1, 1, 0, 0)], some (.goto 4, 3, 0, 0, 0)) := rfl
theorem bl_X2_hasPlace_22 : blk bX2_hasPlace 22 = some ([(.iconst 0, 1, 0, 0, 0)], none) := rfl
theorem bl_X2_hasPlace_23 : blk bX2_hasPlace 23 = some ([], some (.ireturn, 1, 1, 0, 0)) := rfl
theorem bl_X2_hasPlaces_0 : blk bX2_hasPlaces 0 = some ([(.iload_n 2, 1, 0, 0, 0)], some (.ifCond .lt 29, 3, 0, 0, 0)) := rfl
theorem bl_X2_hasPlaces_4 : blk bX2_hasPlaces 4 = some ([(.iload_n 2, 1, 0, 0, 0), (.aload_n 0, 1, 0, 0, 0), (.getfield 24, 3, 1, 4, 0)], some (.if_icmp .gt 21, 3, 0, 0, 0)) := rfl
theorem bl_X2_hasPlaces_12 : blk bX2_hasPlaces 12 = some ([(.iload_n 1, 1, 0, 0, 0)], some (.ifCond .lt 17, 3, 0, 0, 0)) := rfl
theorem bl_X2_hasPlaces_16 : blk bX2_hasPlaces 16 = some ([(.iload_n 1, 1, 0, 0, 0), (.aload_n 0, 1, 0, 0, 0), (.getfield 24, 3, 1, 4, 0), (.iload_n 2, 1, 0, 0, 0), (.isub, 1, 0, 0, 0)], some (.if_icmp .gt 7, 3, 0, 0, 0)) := rfl
theorem bl_X2_hasPlaces_26 : blk bX2_hasPlaces 26 = some ([(.iconst 1, 1, 1, 0, 0)], some (.goto 4, 3, 0, 0, 0)) := rfl
theorem bl_X2_hasPlaces_30 : blk bX2_hasPlaces 30 = some ([(.iconst 0, 1, 0, 0, 0)], none) := rfl
theorem bl_X2_hasPlaces_31 : blk bX2_hasPlaces 31 = some ([], some (.ireturn, 1, 1, 0, 0)) := rfl
theorem bl_X2_elementAt_0 : blk bX2_elementAt 0 = some ([(.aload_n 0, 1, 0, 0, 0), (.iload_n 1, 1, 0, 0, 0)], some (.invokevirtual 37, 3, 48, 2, 1)) := rfl
theorem bl_X2_elementAt_5 : blk bX2_elementAt 5 = some ([], some (.ifCond .eq 12, 3, 0, 0, 0)) := rfl
theorem bl_X2_elementAt_8 : blk bX2_elementAt 8 = some ([(.aload_n 0, 1, 0, 0, 0), (.getfield 27, 3, 1, 5, 0), (.iload_n 1, 1, 0, 0, 0), (.iaload, 1, 0, 0, 0)], some (.goto 4, 3, 0, 0, 0)) := rfl
theorem bl_X2_elementAt_17 : blk bX2_elementAt 17 = some ([(.iconst 0, 1, 0, 0, 0)], none) := rfl
theorem bl_X2_elementAt_18 : blk bX2_elementAt 18 = some ([], some (.ireturn, 1, 0, 0, 0)) := rfl
theorem bl_X2_putIn_0 : blk bX2_putIn 0 = some ([(.aload_n 0, 1, 0, 0, 0), (.iload_n 1, 1, 0, 0, 0)], some (.invokevirtual 37, 3, 48, 2, 1)) := rfl
theorem bl_X2_putIn_5 : blk bX2_putIn 5 = some ([], some (.ifCond .ne 5, 3, 0, 0, 0)) := rfl
theorem bl_X2_putIn_8 : blk bX2_putIn 8 = some ([(.iconst 0, 1, 0, 0, 0)], some (.ireturn, 1, 1, 0, 0)) := rfl
theorem bl_X2_putIn_10 : blk bX2_putIn 10 = some ([(.aload_n 0, 1, 0, 0, 0), (.getfield 27, 3, 1, 5, 0), (.iload_n 1, 1, 0, 0, 0), (.aload_n 0, 1, 0, 0, 0), (.getfield 21, 3, 1, 3, 0)], some (.ifCond .ne 8, 3, 0, 0, 0)) := rfl
theorem bl_X2_putIn_22 : blk bX2_putIn 22 = some ([(.iload_n 2, 1, 0, 0, 0), (.i2b, 1, 0, 0, 0)], some (.goto 17, 3, 0, 0, 0)) := rfl
theorem bl_X2_putIn_27 : blk bX2_putIn 27 = some ([(.aload_n 0, 1, 0, 0, 0), (.getfield 21, 3, 1, 3, 0), (.iconst 1, 1, 1, 0, 0)], some (.if_icmp .ne 8, 3, 0, 0, 0)) := rfl
theorem bl_X2_putIn_35 : blk bX2_putIn 35 = some ([(.iload_n 2, 1, 0, 0, 0), (.i2s, 1, 0, 0, 0)], some (.goto 4, 3, 0, 0, 0)) := rfl
theorem bl_X2_putIn_40 : blk bX2_putIn 40 = some ([(.iload_n 2, 1, 0, 0, 0)], none) := rfl
theorem bl_X2_putIn_41 : blk bX2_putIn 41 = some ([(.iastore, 1, 0, 0, 0), (.iconst 1, 1, 1, 0, 0)], some (.ireturn, 1, 1, 0, 0)) := rfl
theorem bl_X2_isSkipped_0 : blk bX2_isSkipped 0 = some ([(.aload_n 0, 1, 0, 0, 0), (.getfield 21, 3, 1, 3, 0)], some (.ifCond .ne 8, 3, 0, 0, 0)) := rfl
theorem bl_X2_isSkipped_7 : blk bX2_isSkipped 7 = some ([(.bipush (-128), 2, 128, 1, 0)], some (.goto 19, 3, 0, 0, 0)) := rfl
theorem bl_X2_isSkipped_12 : blk bX2_isSkipped 12 = some ([(.aload_n 0, 1, 0, 0, 0), (.getfield 21, 3, 1, 3, 0), (.iconst 1, 1, 1, 0, 0)], some (.if_icmp .ne 9, 3, 0, 0, 0)) := rfl
theorem bl_X2_isSkipped_20 : blk bX2_isSkipped 20 = some ([(.sipush (-32768), 3, 32768, 1, 0)], some (.goto 5, 3, 0, 0, 0)) := rfl
theorem bl_X2_isSkipped_26 : blk bX2_isSkipped 26 = some ([(.ldc 41, 2, 2147483648, 1, 0)], none) := rfl
theorem bl_X2_isSkipped_28 : blk bX2_isSkipped 28 = some ([(.istore_n 2, 1, 0, 0, 0), (.aload_n 0, 1, 0, 0, 0), (.iload_n 1, 1, 0, 0, 0)], some (.invokevirtual 42, 3, 50, 2, 1)) := rfl
theorem bl_X2_isSkipped_34 : blk bX2_isSkipped 34 = some ([(.iload_n 2, 1, 0, 0, 0)], some (.if_icmp .ne 7, 3, 0, 0, 0)) := rfl
theorem bl_X2_isSkipped_38 : blk bX2_isSkipped 38 = some ([(.iconst 1, 1, 1, 0, 0)], some (.goto 4, 3, 0, 0, 0)) := rfl
theorem bl_X2_isSkipped_42 : blk bX2_isSkipped 42 = some ([(.iconst 0, 1, 0, 0, 0)], none) := rfl
theorem bl_X2_isSkipped_43 : blk bX2_isSkipped 43 = some ([], some (.ireturn, 1, 1, 0, 0)) := rfl
theorem bl_X2_digitsBehind_0 : blk bX2_digitsBehind 0 = some ([(.aload_n 0, 1, 0, 0, 0), (.iload_n 1, 1, 0, 0, 0)], some (.invokevirtual 42, 3, 50, 2, 1)) := rfl
theorem bl_X2_digitsBehind_5 : blk bX2_digitsBehind 5 = some ([], some (.lookupswitch 71 #[(100, 69), (107, 67), (109, 61), (112, 59), (116, 65), (120, 63)], 59, 0, 0, 0)) := rfl
theorem bl_X2_digitsBehind_64 : blk bX2_digitsBehind 64 = some ([(.iconst 5, 1, 5, 0, 0)], some (.ireturn, 1, 0, 0, 0)) := rfl
theorem bl_X2_digitsBehind_66 : blk bX2_digitsBehind 66 = some ([(.iconst 3, 1, 3, 0, 0)], some (.ireturn, 1, 0, 0, 0)) := rfl
theorem bl_X2_digitsBehind_68 : blk bX2_digitsBehind 68 = some ([(.iconst 1, 1, 1, 0, 0)], some (.ireturn, 1, 0, 0, 0)) := rfl
theorem bl_X2_digitsBehind_70 : blk bX2_digitsBehind 70 = some ([(.iconst 1, 1, 1, 0, 0)], some (.ireturn, 1, 0, 0, 0)) := rfl
theorem bl_X2_digitsBehind_72 : blk bX2_digitsBehind 72 = some ([(.iconst 3, 1, 3, 0, 0)], some (.ireturn, 1, 0, 0, 0)) := rfl
theorem bl_X2_digitsBehind_74 : blk bX2_digitsBehind 74 = some ([(.iconst 2, 1, 2, 0, 0)], some (.ireturn, 1, 0, 0, 0)) := rfl
theorem bl_X2_digitsBehind_76 : blk bX2_digitsBehind 76 = some ([(.bipush (-4), 2, 4, 1, 0)], some (.ireturn, 1, 0, 0, 0)) := rfl
theorem bl_X2_wrongByte_0 : blk bX2_wrongByte 0 = some ([(.aload_n 0, 1, 0, 0, 0), (.getfield 24, 3, 1, 4, 0)], some (.ifCond .ne 5, 3, 0, 0, 0)) := rfl
theorem bl_X2_wrongByte_7 : blk bX2_wrongByte 7 = some ([(.iconst 0, 1, 0, 0, 0)], some (.ireturn, 1, 0, 0, 0)) := rfl
theorem bl_X2_wrongByte_9 : blk bX2_wrongByte 9 = some ([(.bipush (-4), 2, 4, 1, 0), (.istore_n 1, 1, 0, 0, 0), (.iconst 0, 1, 0, 0, 0), (.istore_n 2, 1, 0, 0, 0)], none) := rfl
theorem bl_X2_wrongByte_14 : blk bX2_wrongByte 14 = some ([(.iload_n 2, 1, 0, 0, 0), (.aload_n 0, 1, 0, 0, 0), (.getfield 24, 3, 1, 4, 0)], some (.if_icmp .ge 70, 3, 0, 0, 0)) := rfl
theorem bl_X2_wrongByte_22 : blk bX2_wrongByte 22 = some ([(.aload_n 0, 1, 0, 0, 0), (.iload_n 2, 1, 0, 0, 0)], some (.invokevirtual 42, 3, 50, 2, 1)) := rfl
theorem bl_X2_wrongByte_27 : blk bX2_wrongByte 27 = some ([(.istore_n 3, 1, 0, 0, 0), (.iload_n 1, 1, 0, 0, 0), (.bipush (-4), 2, 4, 1, 0)], some (.if_icmp .ne 17, 3, 0, 0, 0)) := rfl
theorem bl_X2_wrongByte_34 : blk bX2_wrongByte 34 = some ([(.aload_n 0, 1, 0, 0, 0), (.iload_n 2, 1, 0, 0, 0)], some (.invokevirtual 46, 3, 53, 2, 1)) := rfl
theorem bl_X2_wrongByte_39 : blk bX2_wrongByte 39 = some ([(.istore_n 1, 1, 0, 0, 0), (.iload_n 1, 1, 0, 0, 0), (.bipush (-4), 2, 4, 1, 0)], some (.if_icmp .ne 40, 3, 0, 0, 0)) := rfl
theorem bl_X2_wrongByte_46 : blk bX2_wrongByte 46 = some ([(.iload_n 2, 1, 0, 0, 0)], some (.ireturn, 1, 0, 0, 0)) := rfl
theorem bl_X2_wrongByte_48 : blk bX2_wrongByte 48 = some ([(.iload_n 1, 1, 0, 0, 0)], some (.ifCond .le 23, 3, 0, 0, 0)) := rfl
theorem bl_X2_wrongByte_52 : blk bX2_wrongByte 52 = some ([(.iload_n 3, 1, 0, 0, 0), (.bipush 48, 2, 48, 0, 0)], some (.if_icmp .lt 9, 3, 0, 0, 0)) := rfl
theorem bl_X2_wrongByte_58 : blk bX2_wrongByte 58 = some ([(.iload_n 3, 1, 0, 0, 0), (.bipush 57, 2, 57, 0, 0)], some (.if_icmp .le 5, 3, 0, 0, 0)) := rfl
theorem bl_X2_wrongByte_64 : blk bX2_wrongByte 64 = some ([(.iload_n 2, 1, 0, 0, 0)], some (.ireturn, 1, 0, 0, 0)) := rfl
theorem bl_X2_wrongByte_66 : blk bX2_wrongByte 66 = some ([(.iinc 1 (-1), 3, 1, 1, 0)], some (.goto 14, 3, 0, 0, 0)) := rfl
theorem bl_X2_wrongByte_72 : blk bX2_wrongByte 72 = some ([(.iload_n 3, 1, 0, 0, 0), (.bipush 59, 2, 59, 0, 0)], some (.if_icmp .eq 5, 3, 0, 0, 0)) := rfl
theorem bl_X2_wrongByte_78 : blk bX2_wrongByte 78 = some ([(.iload_n 2, 1, 0, 0, 0)], some (.ireturn, 1, 0, 0, 0)) := rfl
theorem bl_X2_wrongByte_80 : blk bX2_wrongByte 80 = some ([(.bipush (-4), 2, 4, 1, 0), (.istore_n 1, 1, 0, 0, 0)], none) := rfl
theorem bl_X2_wrongByte_83 : blk bX2_wrongByte 83 = some ([(.iinc 2 1, 3, 1, 0, 0)], some (.goto (-72), 3, 0, 0, 0)) := rfl
theorem bl_X2_wrongByte_89 : blk bX2_wrongByte 89 = some ([(.iload_n 1, 1, 0, 0, 0), (.bipush (-4), 2, 4, 1, 0)], some (.if_icmp .ne 8, 3, 0, 0, 0)) := rfl
theorem bl_X2_wrongByte_95 : blk bX2_wrongByte 95 = some ([(.bipush (-4), 2, 4, 1, 0)], some (.goto 7, 3, 0, 0, 0)) := rfl
theorem bl_X2_wrongByte_100 : blk bX2_wrongByte 100 = some ([(.aload_n 0, 1, 0, 0, 0), (.getfield 24, 3, 1, 4, 0)], none) := rfl
theorem bl_X2_wrongByte_104 : blk bX2_wrongByte 104 = some ([], some (.ireturn, 1, 0, 0, 0)) := rfl
theorem bl_X2_digitAt_0 : blk bX2_digitAt 0 = some ([(.aload_n 0, 1, 0, 0, 0), (.iload_n 1, 1, 0, 0, 0)], some (.invokevirtual 42, 3, 50, 2, 1)) := rfl
theorem bl_X2_digitAt_5 : blk bX2_digitAt 5 = some ([(.bipush 48, 2, 48, 0, 0), (.isub, 1, 0, 0, 0)], some (.ireturn, 1, 0, 0, 0)) := rfl
theorem bl_X2_twoDigitsAt_0 : blk bX2_twoDigitsAt 0 = some ([(.bipush 10, 2, 10, 0, 0), (.aload_n 0, 1, 0, 0, 0), (.iload_n 1, 1, 0, 0, 0)], some (.invokevirtual 49, 3, 55, 2, 1)) := rfl
theorem bl_X2_twoDigitsAt_7 : blk bX2_twoDigitsAt 7 = some ([(.imul, 1, 0, 0, 0), (.aload_n 0, 1, 0, 0, 0), (.iload_n 1, 1, 0, 0, 0), (.iconst 1, 1, 1, 0, 0), (.iadd, 1, 0, 0, 0)], some (.invokevirtual 49, 3, 55, 2, 1)) := rfl
theorem bl_X2_twoDigitsAt_15 : blk bX2_twoDigitsAt 15 = some ([(.iadd, 1, 0, 0, 0)], some (.ireturn, 1, 0, 0, 0)) := rfl
theorem bl_X3_shelfAt_0 : blk bX3_shelfAt 0 = some ([(.iload_n 1, 1, 0, 0, 0)], some (.ifCond .lt 21, 3, 0, 0, 0)) := rfl
theorem bl_X3_shelfAt_4 : blk bX3_shelfAt 4 = some ([(.iload_n 1, 1, 0, 0, 0), (.aload_n 0, 1, 0, 0, 0), (.getfield 25, 3, 2, 3, 0), (.arraylength, 1, 0, 0, 0)], some (.if_icmp .ge 12, 3, 0, 0, 0)) := rfl
theorem bl_X3_shelfAt_13 : blk bX3_shelfAt 13 = some ([(.aload_n 0, 1, 0, 0, 0), (.getfield 25, 3, 2, 3, 0), (.iload_n 1, 1, 0, 0, 0), (.aaload, 1, 0, 0, 0)], some (.goto 4, 3, 0, 0, 0)) := rfl
theorem bl_X3_shelfAt_22 : blk bX3_shelfAt 22 = some ([(.aconst_null, 1, 0, 0, 0)], none) := rfl
theorem bl_X3_shelfAt_23 : blk bX3_shelfAt 23 = some ([], some (.areturn, 1, 0, 0, 0)) := rfl
theorem bl_X3_refusalUnless_0 : blk bX3_refusalUnless 0 = some ([(.aload_n 0, 1, 0, 0, 0)], some (.ifnonnull 5, 3, 0, 0, 0)) := rfl
theorem bl_X3_refusalUnless_4 : blk bX3_refusalUnless 4 = some ([(.iconst (-1), 1, 1, 1, 0)], some (.ireturn, 1, 0, 0, 0)) := rfl
theorem bl_X3_refusalUnless_6 : blk bX3_refusalUnless 6 = some ([(.aload_n 0, 1, 0, 0, 0), (.getfield 261, 3, 1, 0, 0)], some (.ifCond .ne 6, 3, 0, 0, 0)) := rfl
theorem bl_X3_refusalUnless_13 : blk bX3_refusalUnless 13 = some ([(.bipush (-11), 2, 11, 1, 0)], some (.ireturn, 1, 0, 0, 0)) := rfl
theorem bl_X3_refusalUnless_16 : blk bX3_refusalUnless 16 = some ([(.aload_n 0, 1, 0, 0, 0), (.getfield 261, 3, 1, 0, 0), (.iload_n 1, 1, 0, 0, 0)], some (.if_icmp .ne 7, 3, 0, 0, 0)) := rfl
theorem bl_X3_refusalUnless_24 : blk bX3_refusalUnless 24 = some ([(.iconst 0, 1, 0, 0, 0)], some (.goto 5, 3, 0, 0, 0)) := rfl
theorem bl_X3_refusalUnless_28 : blk bX3_refusalUnless 28 = some ([(.bipush (-12), 2, 12, 1, 0)], none) := rfl
theorem bl_X3_refusalUnless_30 : blk bX3_refusalUnless 30 = some ([], some (.ireturn, 1, 0, 0, 0)) := rfl
theorem bl_X3_isDone_0 : blk bX3_isDone 0 = some ([(.aload_n 1, 1, 0, 0, 0), (.iload_n 2, 1, 0, 0, 0), (.iconst 1, 1, 1, 0, 0), (.iadd, 1, 0, 0, 0)], some (.invokevirtual 316, 3, 55, 2, 1)) := rfl
theorem bl_X3_isDone_7 : blk bX3_isDone 7 = some ([(.istore_n 3, 1, 0, 0, 0), (.aload_n 1, 1, 0, 0, 0), (.iload_n 2, 1, 0, 0, 0), (.iconst 2, 1, 2, 0, 0), (.iadd, 1, 0, 0, 0)], some (.invokevirtual 316, 3, 55, 2, 1)) := rfl
theorem bl_X3_isDone_15 : blk bX3_isDone 15 = some ([(.istore 4, 2, 0, 0, 0), (.aload_n 1, 1, 0, 0, 0), (.iload_n 2, 1, 0, 0, 0), (.iconst 3, 1, 3, 0, 0), (.iadd, 1, 0, 0, 0)], some (.invokevirtual 316, 3, 55, 2, 1)) := rfl
theorem bl_X3_isDone_24 : blk bX3_isDone 24 = some ([(.istore 5, 2, 0, 0, 0), (.aload_n 1, 1, 0, 0, 0), (.iload_n 2, 1, 0, 0, 0)], some (.invokevirtual 252, 3, 50, 2, 1)) := rfl
theorem bl_X3_isDone_31 : blk bX3_isDone 31 = some ([], some (.lookupswitch 139 #[(100, 124), (107, 111), (109, 77), (112, 57), (116, 102), (120, 93)], 57, 0, 0, 0)) := rfl
theorem bl_X3_isDone_88 : blk bX3_isDone 88 = some ([(.aload_n 0, 1, 0, 0, 0), (.getfield 33, 3, 2, 5, 0), (.iload_n 3, 1, 0, 0, 0), (.iload 4, 2, 0, 0, 0), (.iload 5, 2, 0, 0, 0), (.aload_n 1, 1, 0, 0, 0), (.iload_n 2, 1, 0, 0, 0), (.iconst 4, 1, 4, 0, 0), (.iadd, 1, 0, 0, 0)], some (.invokevirtual 319, 3, 56, 2, 1)) := rfl
theorem bl_X3_isDone_104 : blk bX3_isDone 104 = some ([], some (.invokevirtual 133, 3, 11, 5, 0)) := rfl
theorem bl_X3_isDone_107 : blk bX3_isDone 107 = some ([], some (.ireturn, 1, 1, 0, 0)) := rfl
theorem bl_X3_isDone_108 : blk bX3_isDone 108 = some ([(.aload_n 0, 1, 0, 0, 0), (.getfield 33, 3, 2, 5, 0), (.iload_n 3, 1, 0, 0, 0), (.aload_n 1, 1, 0, 0, 0), (.iload_n 2, 1, 0, 0, 0), (.iconst 2, 1, 2, 0, 0), (.iadd, 1, 0, 0, 0)], some (.invokevirtual 319, 3, 56, 2, 1)) := rfl
theorem bl_X3_isDone_120 : blk bX3_isDone 120 = some ([], some (.invokevirtual 137, 3, 14, 3, 0)) := rfl
theorem bl_X3_isDone_123 : blk bX3_isDone 123 = some ([], some (.ireturn, 1, 1, 0, 0)) := rfl
theorem bl_X3_isDone_124 : blk bX3_isDone 124 = some ([(.aload_n 0, 1, 0, 0, 0), (.getfield 33, 3, 2, 5, 0), (.iload_n 3, 1, 0, 0, 0)], some (.invokevirtual 141, 3, 13, 2, 0)) := rfl
theorem bl_X3_isDone_132 : blk bX3_isDone 132 = some ([], some (.ireturn, 1, 1, 0, 0)) := rfl
theorem bl_X3_isDone_133 : blk bX3_isDone 133 = some ([(.aload_n 0, 1, 0, 0, 0), (.getfield 33, 3, 2, 5, 0), (.iload_n 3, 1, 0, 0, 0)], some (.invokevirtual 147, 3, 17, 2, 0)) := rfl
theorem bl_X3_isDone_141 : blk bX3_isDone 141 = some ([], some (.ireturn, 1, 1, 0, 0)) := rfl
theorem bl_X3_isDone_142 : blk bX3_isDone 142 = some ([(.aload_n 0, 1, 0, 0, 0), (.getfield 33, 3, 2, 5, 0), (.iload_n 3, 1, 0, 0, 0), (.iload 4, 2, 0, 0, 0), (.iload 5, 2, 0, 0, 0)], some (.invokevirtual 228, 3, 16, 4, 0)) := rfl
theorem bl_X3_isDone_154 : blk bX3_isDone 154 = some ([], some (.ireturn, 1, 1, 0, 0)) := rfl
theorem bl_X3_isDone_155 : blk bX3_isDone 155 = some ([(.aload_n 0, 1, 0, 0, 0), (.getfield 33, 3, 2, 5, 0), (.aload_n 1, 1, 0, 0, 0), (.iload_n 2, 1, 0, 0, 0), (.iconst 1, 1, 1, 0, 0), (.iadd, 1, 0, 0, 0)], some (.invokevirtual 319, 3, 56, 2, 1)) := rfl
theorem bl_X3_isDone_166 : blk bX3_isDone 166 = some ([], some (.invokevirtual 150, 3, 32, 2, 0)) := rfl
theorem bl_X3_isDone_169 : blk bX3_isDone 169 = some ([], some (.ireturn, 1, 1, 0, 0)) := rfl
theorem bl_X3_isDone_170 : blk bX3_isDone 170 = some ([(.iconst 0, 1, 0, 0, 0)], some (.ireturn, 1, 1, 0, 0)) := rfl
theorem bl_X3_game_0 : blk bX3_game 0 = some ([(.aload_n 0, 1, 0, 0, 0), (.iload_n 1, 1, 0, 0, 0)], some (.invokevirtual 51, 3, 57, 2, 2)) := rfl
theorem bl_X3_game_5 : blk bX3_game 5 = some ([(.astore_n 2, 1, 0, 0, 0), (.aload_n 2, 1, 0, 0, 0), (.iconst 2, 1, 2, 0, 0)], some (.invokestatic 55, 3, 58, 2, 0)) := rfl
theorem bl_X3_game_11 : blk bX3_game 11 = some ([(.istore_n 3, 1, 0, 0, 0), (.aload_n 2, 1, 0, 0, 0)], some (.ifnull 7, 3, 0, 0, 0)) := rfl
theorem bl_X3_game_16 : blk bX3_game 16 = some ([(.iload_n 3, 1, 0, 0, 0)], some (.ifCond .eq 5, 3, 0, 0, 0)) := rfl
theorem bl_X3_game_20 : blk bX3_game 20 = some ([(.iload_n 3, 1, 0, 0, 0)], some (.ireturn, 1, 0, 0, 0)) := rfl
theorem bl_X3_game_22 : blk bX3_game 22 = some ([(.aload_n 2, 1, 0, 0, 0), (.getfield 59, 3, 1, 3, 0)], some (.ifCond .eq 6, 3, 0, 0, 0)) := rfl
theorem bl_X3_game_29 : blk bX3_game 29 = some ([(.bipush (-12), 2, 12, 1, 0)], some (.ireturn, 1, 0, 0, 0)) := rfl
theorem bl_X3_game_32 : blk bX3_game 32 = some ([(.aload_n 2, 1, 0, 0, 0)], some (.invokevirtual 62, 3, 54, 1, 1)) := rfl
theorem bl_X3_game_36 : blk bX3_game 36 = some ([(.istore 4, 2, 0, 0, 0), (.iload 4, 2, 0, 0, 0), (.bipush (-4), 2, 4, 1, 0)], some (.if_icmp .eq 10, 3, 0, 0, 0)) := rfl
theorem bl_X3_game_45 : blk bX3_game 45 = some ([(.sipush (-1000), 3, 1000, 1, 0), (.iload 4, 2, 0, 0, 0), (.isub, 1, 0, 0, 0)], some (.ireturn, 1, 0, 0, 0)) := rfl
theorem bl_X3_game_52 : blk bX3_game 52 = some ([(.iconst 0, 1, 0, 0, 0), (.istore 5, 2, 0, 0, 0), (.aload_n 0, 1, 0, 0, 0), (.getfield 33, 3, 2, 5, 0), (.aload_n 0, 1, 0, 0, 0), (.getfield 10, 3, 2, 0, 0)], some (.invokevirtual 66, 3, 0, 2, 0)) := rfl
theorem bl_X3_game_66 : blk bX3_game 66 = some ([(.iconst 0, 1, 0, 0, 0), (.istore 6, 2, 0, 0, 0)], none) := rfl
theorem bl_X3_game_69 : blk bX3_game 69 = some ([(.iload 6, 2, 0, 0, 0), (.aload_n 2, 1, 0, 0, 0), (.getfield 70, 3, 1, 4, 0)], some (.if_icmp .ge 43, 3, 0, 0, 0)) := rfl
theorem bl_X3_game_78 : blk bX3_game 78 = some ([(.aload_n 0, 1, 0, 0, 0), (.aload_n 2, 1, 0, 0, 0), (.iload 6, 2, 0, 0, 0)], some (.invokevirtual 73, 3, 59, 3, 2)) := rfl
theorem bl_X3_game_85 : blk bX3_game 85 = some ([], some (.ifCond .ne 10, 3, 0, 0, 0)) := rfl
theorem bl_X3_game_88 : blk bX3_game 88 = some ([(.sipush (-2000), 3, 2000, 1, 0), (.iload 6, 2, 0, 0, 0), (.isub, 1, 0, 0, 0)], some (.ireturn, 1, 0, 0, 0)) := rfl
theorem bl_X3_game_95 : blk bX3_game 95 = some ([(.iinc 5 1, 3, 1, 0, 0), (.iload 6, 2, 0, 0, 0), (.iconst 2, 1, 2, 0, 0), (.iconst 0, 1, 0, 0, 0), (.aload_n 2, 1, 0, 0, 0), (.iload 6, 2, 0, 0, 0)], some (.invokevirtual 77, 3, 53, 2, 1)) := rfl
theorem bl_X3_game_108 : blk bX3_game 108 = some ([(.invokestatic 81, 3, 1, 0, 0), (.iadd, 1, 0, 0, 0), (.iadd, 1, 0, 0, 0), (.istore 6, 2, 0, 0, 0)], some (.goto (-46), 3, 0, 0, 0)) := rfl
theorem bl_X3_game_118 : blk bX3_game 118 = some ([(.aload_n 0, 1, 0, 0, 0), (.getfield 10, 3, 2, 0, 0), (.aload_n 0, 1, 0, 0, 0), (.getfield 33, 3, 2, 5, 0)], some (.invokevirtual 66, 3, 0, 2, 0)) := rfl
theorem bl_X3_game_129 : blk bX3_game 129 = some ([(.iload 5, 2, 0, 0, 0)], some (.ireturn, 1, 0, 0, 0)) := rfl
theorem bl_X3_piece_0 : blk bX3_piece 0 = some ([(.aload_n 0, 1, 0, 0, 0), (.getfield 10, 3, 2, 0, 0), (.iload_n 1, 1, 0, 0, 0)], some (.invokevirtual 87, 3, 1, 2, 0)) := rfl
theorem bl_X3_piece_8 : blk bX3_piece 8 = some ([], some (.ifCond .ne 5, 3, 0, 0, 0)) := rfl
theorem bl_X3_piece_11 : blk bX3_piece 11 = some ([(.iconst (-1), 1, 1, 1, 0)], some (.ireturn, 1, 0, 0, 0)) := rfl
theorem bl_X3_piece_13 : blk bX3_piece 13 = some ([(.iload_n 2, 1, 0, 0, 0)], some (.tableswitch 143 0 6 #[42, 52, 62, 72, 81, 103, 125], 42, 0, 0, 0)) := rfl
theorem bl_X3_piece_56 : blk bX3_piece 56 = some ([(.aload_n 0, 1, 0, 0, 0), (.getfield 10, 3, 2, 0, 0), (.getfield 91, 3, 0, 0, 0), (.iload_n 1, 1, 0, 0, 0), (.iaload, 1, 0, 0, 0)], some (.ireturn, 1, 0, 0, 0)) := rfl
theorem bl_X3_piece_66 : blk bX3_piece 66 = some ([(.aload_n 0, 1, 0, 0, 0), (.getfield 10, 3, 2, 0, 0), (.getfield 94, 3, 0, 1, 0), (.iload_n 1, 1, 0, 0, 0), (.iaload, 1, 0, 0, 0)], some (.ireturn, 1, 0, 0, 0)) := rfl
theorem bl_X3_piece_76 : blk bX3_piece 76 = some ([(.aload_n 0, 1, 0, 0, 0), (.getfield 10, 3, 2, 0, 0), (.getfield 97, 3, 0, 2, 0), (.iload_n 1, 1, 0, 0, 0), (.iaload, 1, 0, 0, 0)], some (.ireturn, 1, 0, 0, 0)) := rfl
theorem bl_X3_piece_86 : blk bX3_piece 86 = some ([(.aload_n 0, 1, 0, 0, 0), (.getfield 10, 3, 2, 0, 0), (.iload_n 1, 1, 0, 0, 0)], some (.invokevirtual 100, 3, 5, 2, 0)) := rfl
theorem bl_X3_piece_94 : blk bX3_piece 94 = some ([], some (.ireturn, 1, 0, 0, 0)) := rfl
theorem bl_X3_piece_95 : blk bX3_piece 95 = some ([(.aload_n 0, 1, 0, 0, 0), (.getfield 10, 3, 2, 0, 0), (.getfield 91, 3, 0, 0, 0), (.iload_n 1, 1, 0, 0, 0), (.iaload, 1, 0, 0, 0), (.aload_n 0, 1, 0, 0, 0), (.getfield 10, 3, 2, 0, 0), (.getfield 94, 3, 0, 1, 0), (.iload_n 1, 1, 0, 0, 0), (.iaload, 1, 0, 0, 0)], some (.invokestatic 103, 3, 26, 2, 0)) := rfl
theorem bl_X3_piece_116 : blk bX3_piece 116 = some ([], some (.ireturn, 1, 0, 0, 0)) := rfl
theorem bl_X3_piece_117 : blk bX3_piece 117 = some ([(.aload_n 0, 1, 0, 0, 0), (.getfield 10, 3, 2, 0, 0), (.getfield 91, 3, 0, 0, 0), (.iload_n 1, 1, 0, 0, 0), (.iaload, 1, 0, 0, 0), (.aload_n 0, 1, 0, 0, 0), (.getfield 10, 3, 2, 0, 0), (.getfield 94, 3, 0, 1, 0), (.iload_n 1, 1, 0, 0, 0), (.iaload, 1, 0, 0, 0)], some (.invokestatic 108, 3, 36, 2, 0)) := rfl
theorem bl_X3_piece_138 : blk bX3_piece 138 = some ([], some (.ireturn, 1, 0, 0, 0)) := rfl
theorem bl_X3_piece_139 : blk bX3_piece 139 = some ([(.aload_n 0, 1, 0, 0, 0), (.getfield 10, 3, 2, 0, 0), (.iload_n 1, 1, 0, 0, 0), (.aload_n 0, 1, 0, 0, 0), (.getfield 10, 3, 2, 0, 0), (.getfield 111, 3, 0, 8, 0), (.iconst 1, 1, 1, 0, 0), (.iadd, 1, 0, 0, 0)], some (.invokevirtual 114, 3, 25, 3, 0)) := rfl
theorem bl_X3_piece_156 : blk bX3_piece 156 = some ([], some (.ireturn, 1, 0, 0, 0)) := rfl
theorem bl_X3_piece_157 : blk bX3_piece 157 = some ([(.iconst (-1), 1, 1, 1, 0)], some (.ireturn, 1, 0, 0, 0)) := rfl
theorem bl_X3_on_0 : blk bX3_on 0 = some ([(.iload_n 1, 1, 0, 0, 0)], some (.invokestatic 117, 3, 12, 1, 0)) := rfl
theorem bl_X3_on_4 : blk bX3_on 4 = some ([], some (.ifCond .eq 15, 3, 0, 0, 0)) := rfl
theorem bl_X3_on_7 : blk bX3_on 7 = some ([(.aload_n 0, 1, 0, 0, 0), (.getfield 10, 3, 2, 0, 0), (.getfield 120, 3, 0, 4, 0), (.iload_n 1, 1, 0, 0, 0), (.iaload, 1, 0, 0, 0)], some (.goto 4, 3, 0, 0, 0)) := rfl
theorem bl_X3_on_19 : blk bX3_on 19 = some ([(.iconst (-1), 1, 1, 1, 0)], none) := rfl
theorem bl_X3_on_20 : blk bX3_on 20 = some ([], some (.ireturn, 1, 0, 0, 0)) := rfl
theorem bl_X3_comes_0 : blk bX3_comes 0 = some ([(.aload_n 0, 1, 0, 0, 0), (.iload_n 1, 1, 0, 0, 0)], some (.invokevirtual 51, 3, 57, 2, 2)) := rfl
theorem bl_X3_comes_5 : blk bX3_comes 5 = some ([(.astore 4, 2, 0, 0, 0), (.aload 4, 2, 0, 0, 0)], some (.ifnull 17, 3, 0, 0, 0)) := rfl
theorem bl_X3_comes_12 : blk bX3_comes 12 = some ([(.iload_n 2, 1, 0, 0, 0)], some (.invokestatic 123, 3, 10, 1, 0)) := rfl
theorem bl_X3_comes_16 : blk bX3_comes 16 = some ([], some (.ifCond .eq 10, 3, 0, 0, 0)) := rfl
theorem bl_X3_comes_19 : blk bX3_comes 19 = some ([(.iload_n 3, 1, 0, 0, 0)], some (.invokestatic 117, 3, 12, 1, 0)) := rfl
theorem bl_X3_comes_23 : blk bX3_comes 23 = some ([], some (.ifCond .ne 5, 3, 0, 0, 0)) := rfl
theorem bl_X3_comes_26 : blk bX3_comes 26 = some ([(.iconst (-1), 1, 1, 1, 0)], some (.ireturn, 1, 0, 0, 0)) := rfl
theorem bl_X3_comes_28 : blk bX3_comes 28 = some ([(.aload 4, 2, 0, 0, 0), (.iconst 1, 1, 1, 0, 0)], some (.invokestatic 55, 3, 58, 2, 0)) := rfl
theorem bl_X3_comes_34 : blk bX3_comes 34 = some ([(.istore 5, 2, 0, 0, 0), (.iload 5, 2, 0, 0, 0)], some (.ifCond .eq 6, 3, 0, 0, 0)) := rfl
theorem bl_X3_comes_41 : blk bX3_comes 41 = some ([(.iload 5, 2, 0, 0, 0)], some (.ireturn, 1, 0, 0, 0)) := rfl
theorem bl_X3_comes_44 : blk bX3_comes 44 = some ([(.aload_n 0, 1, 0, 0, 0), (.getfield 10, 3, 2, 0, 0), (.getfield 126, 3, 0, 5, 0), (.bipush 10, 2, 10, 0, 0)], some (.if_icmp .lt 6, 3, 0, 0, 0)) := rfl
theorem bl_X3_comes_56 : blk bX3_comes 56 = some ([(.bipush (-2), 2, 2, 1, 0)], some (.ireturn, 1, 0, 0, 0)) := rfl
theorem bl_X3_comes_59 : blk bX3_comes 59 = some ([(.aload_n 0, 1, 0, 0, 0), (.getfield 10, 3, 2, 0, 0), (.aload 4, 2, 0, 0, 0), (.getfield 129, 3, 1, 1, 0), (.aload 4, 2, 0, 0, 0), (.getfield 131, 3, 1, 2, 0), (.iload_n 2, 1, 0, 0, 0), (.iload_n 3, 1, 0, 0, 0)], some (.invokevirtual 133, 3, 11, 5, 0)) := rfl
theorem bl_X3_comes_78 : blk bX3_comes 78 = some ([], some (.ifCond .eq 15, 3, 0, 0, 0)) := rfl
theorem bl_X3_comes_81 : blk bX3_comes 81 = some ([(.aload_n 0, 1, 0, 0, 0), (.getfield 10, 3, 2, 0, 0), (.getfield 126, 3, 0, 5, 0), (.iconst 1, 1, 1, 0, 0), (.isub, 1, 0, 0, 0)], some (.goto 5, 3, 0, 0, 0)) := rfl
theorem bl_X3_comes_93 : blk bX3_comes 93 = some ([(.bipush (-3), 2, 3, 1, 0)], none) := rfl
theorem bl_X3_comes_95 : blk bX3_comes 95 = some ([], some (.ireturn, 1, 0, 0, 0)) := rfl
theorem bl_X3_stands_0 : blk bX3_stands 0 = some ([(.aload_n 0, 1, 0, 0, 0), (.getfield 10, 3, 2, 0, 0), (.iload_n 1, 1, 0, 0, 0)], some (.invokevirtual 87, 3, 1, 2, 0)) := rfl
theorem bl_X3_stands_8 : blk bX3_stands 8 = some ([], some (.ifCond .eq 10, 3, 0, 0, 0)) := rfl
theorem bl_X3_stands_11 : blk bX3_stands 11 = some ([(.iload_n 2, 1, 0, 0, 0)], some (.invokestatic 117, 3, 12, 1, 0)) := rfl
theorem bl_X3_stands_15 : blk bX3_stands 15 = some ([], some (.ifCond .ne 5, 3, 0, 0, 0)) := rfl
theorem bl_X3_stands_18 : blk bX3_stands 18 = some ([(.iconst (-1), 1, 1, 1, 0)], some (.ireturn, 1, 0, 0, 0)) := rfl
theorem bl_X3_stands_20 : blk bX3_stands 20 = some ([(.aload_n 0, 1, 0, 0, 0), (.getfield 10, 3, 2, 0, 0), (.iload_n 1, 1, 0, 0, 0)], some (.invokevirtual 100, 3, 5, 2, 0)) := rfl
theorem bl_X3_stands_28 : blk bX3_stands 28 = some ([(.istore_n 3, 1, 0, 0, 0), (.aload_n 0, 1, 0, 0, 0), (.getfield 10, 3, 2, 0, 0), (.iload_n 1, 1, 0, 0, 0), (.iload_n 2, 1, 0, 0, 0)], some (.invokevirtual 137, 3, 14, 3, 0)) := rfl
theorem bl_X3_stands_38 : blk bX3_stands 38 = some ([], some (.ifCond .eq 7, 3, 0, 0, 0)) := rfl
theorem bl_X3_stands_41 : blk bX3_stands 41 = some ([(.iload_n 3, 1, 0, 0, 0)], some (.goto 5, 3, 0, 0, 0)) := rfl
theorem bl_X3_stands_45 : blk bX3_stands 45 = some ([(.bipush (-3), 2, 3, 1, 0)], none) := rfl
theorem bl_X3_stands_47 : blk bX3_stands 47 = some ([], some (.ireturn, 1, 0, 0, 0)) := rfl
theorem bl_X3_takes_0 : blk bX3_takes 0 = some ([(.aload_n 0, 1, 0, 0, 0), (.getfield 10, 3, 2, 0, 0), (.iload_n 1, 1, 0, 0, 0)], some (.invokevirtual 87, 3, 1, 2, 0)) := rfl
theorem bl_X3_takes_8 : blk bX3_takes 8 = some ([], some (.ifCond .ne 5, 3, 0, 0, 0)) := rfl
theorem bl_X3_takes_11 : blk bX3_takes 11 = some ([(.iconst (-1), 1, 1, 1, 0)], some (.ireturn, 1, 0, 0, 0)) := rfl
theorem bl_X3_takes_13 : blk bX3_takes 13 = some ([(.aload_n 0, 1, 0, 0, 0), (.getfield 10, 3, 2, 0, 0), (.iload_n 1, 1, 0, 0, 0)], some (.invokevirtual 100, 3, 5, 2, 0)) := rfl
theorem bl_X3_takes_21 : blk bX3_takes 21 = some ([(.istore_n 2, 1, 0, 0, 0), (.aload_n 0, 1, 0, 0, 0), (.getfield 10, 3, 2, 0, 0), (.iload_n 1, 1, 0, 0, 0)], some (.invokevirtual 141, 3, 13, 2, 0)) := rfl
theorem bl_X3_takes_30 : blk bX3_takes 30 = some ([], some (.ifCond .eq 7, 3, 0, 0, 0)) := rfl
theorem bl_X3_takes_33 : blk bX3_takes 33 = some ([(.iload_n 2, 1, 0, 0, 0)], some (.goto 5, 3, 0, 0, 0)) := rfl
theorem bl_X3_takes_37 : blk bX3_takes 37 = some ([(.bipush (-3), 2, 3, 1, 0)], none) := rfl
theorem bl_X3_takes_39 : blk bX3_takes 39 = some ([], some (.ireturn, 1, 0, 0, 0)) := rfl
theorem bl_X3_turn_0 : blk bX3_turn 0 = some ([(.aload_n 0, 1, 0, 0, 0), (.getfield 10, 3, 2, 0, 0), (.getfield 144, 3, 0, 6, 0), (.istore_n 2, 1, 0, 0, 0), (.aload_n 0, 1, 0, 0, 0), (.getfield 10, 3, 2, 0, 0), (.iload_n 1, 1, 0, 0, 0)], some (.invokevirtual 147, 3, 17, 2, 0)) := rfl
theorem bl_X3_turn_16 : blk bX3_turn 16 = some ([], some (.ifCond .eq 7, 3, 0, 0, 0)) := rfl
theorem bl_X3_turn_19 : blk bX3_turn 19 = some ([(.iload_n 2, 1, 0, 0, 0)], some (.goto 4, 3, 0, 0, 0)) := rfl
theorem bl_X3_turn_23 : blk bX3_turn 23 = some ([(.iconst (-1), 1, 1, 1, 0)], none) := rfl
theorem bl_X3_turn_24 : blk bX3_turn 24 = some ([], some (.ireturn, 1, 0, 0, 0)) := rfl
theorem bl_X3_days_0 : blk bX3_days 0 = some ([(.iload_n 1, 1, 0, 0, 0), (.iconst 1, 1, 1, 0, 0)], some (.if_icmp .lt 9, 3, 0, 0, 0)) := rfl
theorem bl_X3_days_5 : blk bX3_days 5 = some ([(.iload_n 1, 1, 0, 0, 0), (.bipush 60, 2, 60, 0, 0)], some (.if_icmp .le 5, 3, 0, 0, 0)) := rfl
theorem bl_X3_days_11 : blk bX3_days 11 = some ([(.iconst (-1), 1, 1, 1, 0)], some (.ireturn, 1, 0, 0, 0)) := rfl
theorem bl_X3_days_13 : blk bX3_days 13 = some ([(.aload_n 0, 1, 0, 0, 0), (.getfield 10, 3, 2, 0, 0), (.iload_n 1, 1, 0, 0, 0)], some (.invokevirtual 150, 3, 32, 2, 0)) := rfl
theorem bl_X3_days_21 : blk bX3_days 21 = some ([], some (.ifCond .eq 13, 3, 0, 0, 0)) := rfl
theorem bl_X3_days_24 : blk bX3_days 24 = some ([(.aload_n 0, 1, 0, 0, 0), (.getfield 10, 3, 2, 0, 0)], some (.invokevirtual 153, 3, 34, 1, 0)) := rfl
theorem bl_X3_days_31 : blk bX3_days 31 = some ([], some (.goto 5, 3, 0, 0, 0)) := rfl
theorem bl_X3_days_34 : blk bX3_days 34 = some ([(.bipush (-3), 2, 3, 1, 0)], none) := rfl
theorem bl_X3_days_36 : blk bX3_days 36 = some ([], some (.ireturn, 1, 0, 0, 0)) := rfl
theorem bl_X3_lookAhead_0 : blk bX3_lookAhead 0 = some ([(.aload_n 0, 1, 0, 0, 0), (.getfield 33, 3, 2, 5, 0), (.aload_n 0, 1, 0, 0, 0), (.getfield 10, 3, 2, 0, 0)], some (.invokevirtual 66, 3, 0, 2, 0)) := rfl
theorem bl_X3_lookAhead_11 : blk bX3_lookAhead 11 = some ([(.aload_n 0, 1, 0, 0, 0), (.getfield 33, 3, 2, 5, 0), (.iload_n 1, 1, 0, 0, 0)], some (.invokevirtual 201, 3, 33, 2, 0)) := rfl
theorem bl_X3_lookAhead_19 : blk bX3_lookAhead 19 = some ([], some (.return_, 1, 0, 0, 0)) := rfl
theorem bl_X3_squareThen_0 : blk bX3_squareThen 0 = some ([(.aload_n 0, 1, 0, 0, 0), (.getfield 10, 3, 2, 0, 0), (.iload_n 1, 1, 0, 0, 0)], some (.invokevirtual 87, 3, 1, 2, 0)) := rfl
theorem bl_X3_squareThen_8 : blk bX3_squareThen 8 = some ([], some (.ifCond .eq 13, 3, 0, 0, 0)) := rfl
theorem bl_X3_squareThen_11 : blk bX3_squareThen 11 = some ([(.iload_n 2, 1, 0, 0, 0)], some (.ifCond .lt 9, 3, 0, 0, 0)) := rfl
theorem bl_X3_squareThen_15 : blk bX3_squareThen 15 = some ([(.iload_n 2, 1, 0, 0, 0), (.bipush 60, 2, 60, 0, 0)], some (.if_icmp .le 5, 3, 0, 0, 0)) := rfl
theorem bl_X3_squareThen_21 : blk bX3_squareThen 21 = some ([(.iconst (-1), 1, 1, 1, 0)], some (.ireturn, 1, 0, 0, 0)) := rfl
theorem bl_X3_squareThen_23 : blk bX3_squareThen 23 = some ([(.aload_n 0, 1, 0, 0, 0), (.iload_n 2, 1, 0, 0, 0)], some (.invokevirtual 156, 3, 68, 2, 2)) := rfl
theorem bl_X3_squareThen_28 : blk bX3_squareThen 28 = some ([(.aload_n 0, 1, 0, 0, 0), (.getfield 33, 3, 2, 5, 0), (.iload_n 1, 1, 0, 0, 0)], some (.invokevirtual 100, 3, 5, 2, 0)) := rfl
theorem bl_X3_squareThen_36 : blk bX3_squareThen 36 = some ([], some (.ireturn, 1, 0, 0, 0)) := rfl
theorem bl_X3_then_0 : blk bX3_then 0 = some ([(.iload_n 1, 1, 0, 0, 0)], some (.ifCond .lt 18, 3, 0, 0, 0)) := rfl
theorem bl_X3_then_4 : blk bX3_then 4 = some ([(.iload_n 1, 1, 0, 0, 0), (.bipush 60, 2, 60, 0, 0)], some (.if_icmp .gt 12, 3, 0, 0, 0)) := rfl
theorem bl_X3_then_10 : blk bX3_then 10 = some ([(.iload_n 2, 1, 0, 0, 0)], some (.ifCond .lt 8, 3, 0, 0, 0)) := rfl
theorem bl_X3_then_14 : blk bX3_then 14 = some ([(.iload_n 2, 1, 0, 0, 0), (.iconst 3, 1, 3, 0, 0)], some (.if_icmp .le 5, 3, 0, 0, 0)) := rfl
theorem bl_X3_then_19 : blk bX3_then 19 = some ([(.iconst (-1), 1, 1, 1, 0)], some (.ireturn, 1, 0, 0, 0)) := rfl
theorem bl_X3_then_21 : blk bX3_then 21 = some ([(.aload_n 0, 1, 0, 0, 0), (.iload_n 1, 1, 0, 0, 0)], some (.invokevirtual 156, 3, 68, 2, 2)) := rfl
theorem bl_X3_then_26 : blk bX3_then 26 = some ([(.iload_n 2, 1, 0, 0, 0)], some (.tableswitch 50 0 2 #[25, 33, 41], 25, 0, 0, 0)) := rfl
theorem bl_X3_then_52 : blk bX3_then 52 = some ([(.aload_n 0, 1, 0, 0, 0), (.getfield 33, 3, 2, 5, 0)], some (.invokevirtual 160, 3, 35, 1, 0)) := rfl
theorem bl_X3_then_59 : blk bX3_then 59 = some ([], some (.ireturn, 1, 0, 0, 0)) := rfl
theorem bl_X3_then_60 : blk bX3_then 60 = some ([(.aload_n 0, 1, 0, 0, 0), (.getfield 33, 3, 2, 5, 0), (.getfield 163, 3, 0, 7, 0)], some (.ireturn, 1, 0, 0, 0)) := rfl
theorem bl_X3_then_68 : blk bX3_then 68 = some ([(.aload_n 0, 1, 0, 0, 0), (.getfield 33, 3, 2, 5, 0), (.iconst 0, 1, 0, 0, 0)], some (.invokevirtual 166, 3, 37, 2, 0)) := rfl
theorem bl_X3_then_76 : blk bX3_then 76 = some ([], some (.ireturn, 1, 0, 0, 0)) := rfl
theorem bl_X3_then_77 : blk bX3_then 77 = some ([(.aload_n 0, 1, 0, 0, 0), (.getfield 33, 3, 2, 5, 0), (.iconst 1, 1, 1, 0, 0)], some (.invokevirtual 166, 3, 37, 2, 0)) := rfl
theorem bl_X3_then_85 : blk bX3_then 85 = some ([], some (.ireturn, 1, 0, 0, 0)) := rfl
theorem bl_X3_firstToFall_0 : blk bX3_firstToFall 0 = some ([(.aload_n 0, 1, 0, 0, 0), (.getfield 33, 3, 2, 5, 0), (.aload_n 0, 1, 0, 0, 0), (.getfield 10, 3, 2, 0, 0)], some (.invokevirtual 66, 3, 0, 2, 0)) := rfl
theorem bl_X3_firstToFall_11 : blk bX3_firstToFall 11 = some ([(.iconst 0, 1, 0, 0, 0), (.istore_n 1, 1, 0, 0, 0)], none) := rfl
theorem bl_X3_firstToFall_13 : blk bX3_firstToFall 13 = some ([(.iload_n 1, 1, 0, 0, 0), (.bipush 60, 2, 60, 0, 0)], some (.if_icmp .ge 62, 3, 0, 0, 0)) := rfl
theorem bl_X3_firstToFall_19 : blk bX3_firstToFall 19 = some ([(.aload_n 0, 1, 0, 0, 0), (.getfield 33, 3, 2, 5, 0), (.iconst 0, 1, 0, 0, 0), (.iconst 0, 1, 0, 0, 0)], some (.invokevirtual 175, 3, 31, 3, 0)) := rfl
theorem bl_X3_firstToFall_28 : blk bX3_firstToFall 28 = some ([(.pop, 1, 0, 0, 0), (.iconst 0, 1, 0, 0, 0), (.istore_n 2, 1, 0, 0, 0)], none) := rfl
theorem bl_X3_firstToFall_31 : blk bX3_firstToFall 31 = some ([(.iload_n 2, 1, 0, 0, 0), (.aload_n 0, 1, 0, 0, 0), (.getfield 10, 3, 2, 0, 0), (.getfield 126, 3, 0, 5, 0)], some (.if_icmp .ge 33, 3, 0, 0, 0)) := rfl
theorem bl_X3_firstToFall_42 : blk bX3_firstToFall 42 = some ([(.aload_n 0, 1, 0, 0, 0), (.getfield 10, 3, 2, 0, 0), (.iload_n 2, 1, 0, 0, 0)], some (.invokevirtual 172, 3, 2, 2, 0)) := rfl
theorem bl_X3_firstToFall_50 : blk bX3_firstToFall 50 = some ([], some (.ifCond .eq 16, 3, 0, 0, 0)) := rfl
theorem bl_X3_firstToFall_53 : blk bX3_firstToFall 53 = some ([(.aload_n 0, 1, 0, 0, 0), (.getfield 33, 3, 2, 5, 0), (.iload_n 2, 1, 0, 0, 0)], some (.invokevirtual 172, 3, 2, 2, 0)) := rfl
theorem bl_X3_firstToFall_61 : blk bX3_firstToFall 61 = some ([], some (.ifCond .ne 5, 3, 0, 0, 0)) := rfl
theorem bl_X3_firstToFall_64 : blk bX3_firstToFall 64 = some ([(.iload_n 2, 1, 0, 0, 0)], some (.ireturn, 1, 0, 0, 0)) := rfl
theorem bl_X3_firstToFall_66 : blk bX3_firstToFall 66 = some ([(.iinc 2 1, 3, 1, 0, 0)], some (.goto (-38), 3, 0, 0, 0)) := rfl
theorem bl_X3_firstToFall_72 : blk bX3_firstToFall 72 = some ([(.iinc 1 1, 3, 1, 0, 0)], some (.goto (-62), 3, 0, 0, 0)) := rfl
theorem bl_X3_firstToFall_78 : blk bX3_firstToFall 78 = some ([(.bipush (-4), 2, 4, 1, 0)], some (.ireturn, 1, 0, 0, 0)) := rfl
theorem bl_X3_falls_0 : blk bX3_falls 0 = some ([(.iload_n 1, 1, 0, 0, 0), (.iconst (-1), 1, 1, 1, 0)], some (.if_icmp .ne 8, 3, 0, 0, 0)) := rfl
theorem bl_X3_falls_5 : blk bX3_falls 5 = some ([(.aload_n 0, 1, 0, 0, 0)], some (.invokevirtual 169, 3, 71, 1, 2)) := rfl
theorem bl_X3_falls_9 : blk bX3_falls 9 = some ([], some (.ireturn, 1, 0, 0, 0)) := rfl
theorem bl_X3_falls_10 : blk bX3_falls 10 = some ([(.aload_n 0, 1, 0, 0, 0), (.getfield 10, 3, 2, 0, 0), (.iload_n 1, 1, 0, 0, 0)], some (.invokevirtual 87, 3, 1, 2, 0)) := rfl
theorem bl_X3_falls_18 : blk bX3_falls 18 = some ([], some (.ifCond .ne 5, 3, 0, 0, 0)) := rfl
theorem bl_X3_falls_21 : blk bX3_falls 21 = some ([(.iconst (-1), 1, 1, 1, 0)], some (.ireturn, 1, 0, 0, 0)) := rfl
theorem bl_X3_falls_23 : blk bX3_falls 23 = some ([(.aload_n 0, 1, 0, 0, 0), (.getfield 33, 3, 2, 5, 0), (.aload_n 0, 1, 0, 0, 0), (.getfield 10, 3, 2, 0, 0)], some (.invokevirtual 66, 3, 0, 2, 0)) := rfl
theorem bl_X3_falls_34 : blk bX3_falls 34 = some ([(.iconst 0, 1, 0, 0, 0), (.istore_n 2, 1, 0, 0, 0)], none) := rfl
theorem bl_X3_falls_36 : blk bX3_falls 36 = some ([(.iload_n 2, 1, 0, 0, 0), (.bipush 60, 2, 60, 0, 0)], some (.if_icmp .ge 32, 3, 0, 0, 0)) := rfl
theorem bl_X3_falls_42 : blk bX3_falls 42 = some ([(.aload_n 0, 1, 0, 0, 0), (.getfield 33, 3, 2, 5, 0), (.iload_n 1, 1, 0, 0, 0)], some (.invokevirtual 172, 3, 2, 2, 0)) := rfl
theorem bl_X3_falls_50 : blk bX3_falls 50 = some ([], some (.ifCond .ne 5, 3, 0, 0, 0)) := rfl
theorem bl_X3_falls_53 : blk bX3_falls 53 = some ([(.iload_n 2, 1, 0, 0, 0)], some (.ireturn, 1, 0, 0, 0)) := rfl
theorem bl_X3_falls_55 : blk bX3_falls 55 = some ([(.aload_n 0, 1, 0, 0, 0), (.getfield 33, 3, 2, 5, 0), (.iconst 0, 1, 0, 0, 0), (.iconst 0, 1, 0, 0, 0)], some (.invokevirtual 175, 3, 31, 3, 0)) := rfl
theorem bl_X3_falls_64 : blk bX3_falls 64 = some ([(.pop, 1, 0, 0, 0), (.iinc 2 1, 3, 1, 0, 0)], some (.goto (-32), 3, 0, 0, 0)) := rfl
theorem bl_X3_falls_71 : blk bX3_falls 71 = some ([(.aload_n 0, 1, 0, 0, 0), (.getfield 33, 3, 2, 5, 0), (.iload_n 1, 1, 0, 0, 0)], some (.invokevirtual 172, 3, 2, 2, 0)) := rfl
theorem bl_X3_falls_79 : blk bX3_falls 79 = some ([], some (.ifCond .eq 8, 3, 0, 0, 0)) := rfl
theorem bl_X3_falls_82 : blk bX3_falls 82 = some ([(.bipush (-4), 2, 4, 1, 0)], some (.goto 5, 3, 0, 0, 0)) := rfl
theorem bl_X3_falls_87 : blk bX3_falls 87 = some ([(.bipush 60, 2, 60, 0, 0)], none) := rfl
theorem bl_X3_falls_89 : blk bX3_falls 89 = some ([], some (.ireturn, 1, 0, 0, 0)) := rfl
theorem bl_X3_still_0 : blk bX3_still 0 = some ([(.aload_n 0, 1, 0, 0, 0), (.getfield 33, 3, 2, 5, 0), (.aload_n 0, 1, 0, 0, 0), (.getfield 10, 3, 2, 0, 0)], some (.invokevirtual 66, 3, 0, 2, 0)) := rfl
theorem bl_X3_still_11 : blk bX3_still 11 = some ([(.iconst 0, 1, 0, 0, 0), (.istore_n 1, 1, 0, 0, 0), (.iconst 1, 1, 1, 0, 0), (.istore_n 2, 1, 0, 0, 0)], none) := rfl
theorem bl_X3_still_15 : blk bX3_still 15 = some ([(.iload_n 2, 1, 0, 0, 0), (.bipush 60, 2, 60, 0, 0)], some (.if_icmp .gt 42, 3, 0, 0, 0)) := rfl
theorem bl_X3_still_21 : blk bX3_still 21 = some ([(.aload_n 0, 1, 0, 0, 0), (.getfield 33, 3, 2, 5, 0), (.iconst 0, 1, 0, 0, 0), (.iconst 0, 1, 0, 0, 0)], some (.invokevirtual 175, 3, 31, 3, 0)) := rfl
theorem bl_X3_still_30 : blk bX3_still 30 = some ([], some (.ifCond .eq 5, 3, 0, 0, 0)) := rfl
theorem bl_X3_still_33 : blk bX3_still 33 = some ([(.iload_n 2, 1, 0, 0, 0), (.istore_n 1, 1, 0, 0, 0)], none) := rfl
theorem bl_X3_still_35 : blk bX3_still 35 = some ([(.iload_n 1, 1, 0, 0, 0), (.bipush 40, 2, 40, 0, 0)], some (.if_icmp .le 6, 3, 0, 0, 0)) := rfl
theorem bl_X3_still_41 : blk bX3_still 41 = some ([(.bipush (-4), 2, 4, 1, 0)], some (.ireturn, 1, 0, 0, 0)) := rfl
theorem bl_X3_still_44 : blk bX3_still 44 = some ([(.iload_n 2, 1, 0, 0, 0), (.iload_n 1, 1, 0, 0, 0), (.isub, 1, 0, 0, 0), (.bipush 20, 2, 20, 0, 0)], some (.if_icmp .ne 5, 3, 0, 0, 0)) := rfl
theorem bl_X3_still_52 : blk bX3_still 52 = some ([(.iload_n 1, 1, 0, 0, 0)], some (.ireturn, 1, 0, 0, 0)) := rfl
theorem bl_X3_still_54 : blk bX3_still 54 = some ([(.iinc 2 1, 3, 1, 0, 0)], some (.goto (-42), 3, 0, 0, 0)) := rfl
theorem bl_X3_still_60 : blk bX3_still 60 = some ([(.bipush (-4), 2, 4, 1, 0)], some (.ireturn, 1, 0, 0, 0)) := rfl
theorem bl_X3_next_0 : blk bX3_next 0 = some ([(.iload_n 1, 1, 0, 0, 0)], some (.ifCond .lt 8, 3, 0, 0, 0)) := rfl
theorem bl_X3_next_4 : blk bX3_next 4 = some ([(.iload_n 1, 1, 0, 0, 0), (.iconst 2, 1, 2, 0, 0)], some (.if_icmp .le 5, 3, 0, 0, 0)) := rfl
theorem bl_X3_next_9 : blk bX3_next 9 = some ([(.iconst (-1), 1, 1, 1, 0)], some (.ireturn, 1, 0, 0, 0)) := rfl
theorem bl_X3_next_11 : blk bX3_next 11 = some ([(.aload_n 0, 1, 0, 0, 0), (.getfield 10, 3, 2, 0, 0), (.getfield 111, 3, 0, 8, 0), (.iconst 1, 1, 1, 0, 0), (.iadd, 1, 0, 0, 0), (.istore_n 2, 1, 0, 0, 0), (.aload_n 0, 1, 0, 0, 0), (.getfield 10, 3, 2, 0, 0), (.iload_n 2, 1, 0, 0, 0), (.iconst 0, 1, 0, 0, 0), (.iconst 0, 1, 0, 0, 0)], some (.invokevirtual 179, 3, 30, 4, 0)) := rfl
theorem bl_X3_next_31 : blk bX3_next 31 = some ([(.istore_n 3, 1, 0, 0, 0), (.iload_n 1, 1, 0, 0, 0)], some (.ifCond .ne 5, 3, 0, 0, 0)) := rfl
theorem bl_X3_next_36 : blk bX3_next 36 = some ([(.iload_n 3, 1, 0, 0, 0)], some (.ireturn, 1, 0, 0, 0)) := rfl
theorem bl_X3_next_38 : blk bX3_next 38 = some ([(.iload_n 1, 1, 0, 0, 0), (.iconst 1, 1, 1, 0, 0)], some (.if_icmp .ne 13, 3, 0, 0, 0)) := rfl
theorem bl_X3_next_43 : blk bX3_next 43 = some ([(.aload_n 0, 1, 0, 0, 0), (.getfield 10, 3, 2, 0, 0), (.iload_n 3, 1, 0, 0, 0), (.iload_n 2, 1, 0, 0, 0)], some (.invokevirtual 114, 3, 25, 3, 0)) := rfl
theorem bl_X3_next_52 : blk bX3_next 52 = some ([], some (.ireturn, 1, 0, 0, 0)) := rfl
theorem bl_X3_next_53 : blk bX3_next 53 = some ([(.aload_n 0, 1, 0, 0, 0), (.getfield 10, 3, 2, 0, 0), (.iload_n 3, 1, 0, 0, 0), (.iconst 0, 1, 0, 0, 0)], some (.invokevirtual 183, 3, 27, 3, 0)) := rfl
theorem bl_X3_next_62 : blk bX3_next 62 = some ([], some (.invokestatic 187, 3, 28, 1, 0)) := rfl
theorem bl_X3_next_65 : blk bX3_next 65 = some ([], some (.ireturn, 1, 0, 0, 0)) := rfl
theorem bl_X3_heard_0 : blk bX3_heard 0 = some ([(.aload_n 0, 1, 0, 0, 0), (.getfield 10, 3, 2, 0, 0), (.iload_n 1, 1, 0, 0, 0)], some (.invokevirtual 87, 3, 1, 2, 0)) := rfl
theorem bl_X3_heard_8 : blk bX3_heard 8 = some ([], some (.ifCond .ne 5, 3, 0, 0, 0)) := rfl
theorem bl_X3_heard_11 : blk bX3_heard 11 = some ([(.iconst (-1), 1, 1, 1, 0)], some (.ireturn, 1, 0, 0, 0)) := rfl
theorem bl_X3_heard_13 : blk bX3_heard 13 = some ([(.aload_n 0, 1, 0, 0, 0), (.getfield 10, 3, 2, 0, 0), (.iload_n 1, 1, 0, 0, 0)], some (.invokevirtual 172, 3, 2, 2, 0)) := rfl
theorem bl_X3_heard_21 : blk bX3_heard 21 = some ([], some (.ifCond .eq 15, 3, 0, 0, 0)) := rfl
theorem bl_X3_heard_24 : blk bX3_heard 24 = some ([(.aload_n 0, 1, 0, 0, 0), (.getfield 10, 3, 2, 0, 0), (.iload_n 1, 1, 0, 0, 0), (.iconst 0, 1, 0, 0, 0)], some (.invokevirtual 183, 3, 27, 3, 0)) := rfl
theorem bl_X3_heard_33 : blk bX3_heard 33 = some ([], some (.goto 5, 3, 0, 0, 0)) := rfl
theorem bl_X3_heard_36 : blk bX3_heard 36 = some ([(.bipush (-3), 2, 3, 1, 0)], none) := rfl
theorem bl_X3_heard_38 : blk bX3_heard 38 = some ([], some (.ireturn, 1, 0, 0, 0)) := rfl
theorem bl_X3_danger_0 : blk bX3_danger 0 = some ([(.iload_n 1, 1, 0, 0, 0)], some (.invokestatic 123, 3, 10, 1, 0)) := rfl
theorem bl_X3_danger_4 : blk bX3_danger 4 = some ([], some (.ifCond .ne 5, 3, 0, 0, 0)) := rfl
theorem bl_X3_danger_7 : blk bX3_danger 7 = some ([(.iconst (-1), 1, 1, 1, 0)], some (.ireturn, 1, 0, 0, 0)) := rfl
theorem bl_X3_danger_9 : blk bX3_danger 9 = some ([(.iconst 0, 1, 0, 0, 0), (.istore_n 2, 1, 0, 0, 0), (.iconst 0, 1, 0, 0, 0), (.istore_n 3, 1, 0, 0, 0)], none) := rfl
theorem bl_X3_danger_13 : blk bX3_danger 13 = some ([(.iload_n 3, 1, 0, 0, 0), (.aload_n 0, 1, 0, 0, 0), (.getfield 10, 3, 2, 0, 0), (.getfield 126, 3, 0, 5, 0)], some (.if_icmp .ge 75, 3, 0, 0, 0)) := rfl
theorem bl_X3_danger_24 : blk bX3_danger 24 = some ([(.aload_n 0, 1, 0, 0, 0), (.getfield 10, 3, 2, 0, 0), (.iload_n 3, 1, 0, 0, 0), (.iconst 1, 1, 1, 0, 0), (.iload_n 1, 1, 0, 0, 0), (.isub, 1, 0, 0, 0)], some (.invokevirtual 192, 3, 3, 3, 0)) := rfl
theorem bl_X3_danger_35 : blk bX3_danger 35 = some ([], some (.ifCond .eq 23, 3, 0, 0, 0)) := rfl
theorem bl_X3_danger_38 : blk bX3_danger 38 = some ([(.aload_n 0, 1, 0, 0, 0), (.getfield 10, 3, 2, 0, 0), (.iload_n 3, 1, 0, 0, 0), (.aload_n 0, 1, 0, 0, 0), (.getfield 10, 3, 2, 0, 0), (.getfield 111, 3, 0, 8, 0), (.iconst 1, 1, 1, 0, 0), (.iadd, 1, 0, 0, 0)], some (.invokevirtual 114, 3, 25, 3, 0)) := rfl
theorem bl_X3_danger_55 : blk bX3_danger 55 = some ([], some (.goto 5, 3, 0, 0, 0)) := rfl
theorem bl_X3_danger_58 : blk bX3_danger 58 = some ([(.bipush (-4), 2, 4, 1, 0)], none) := rfl
theorem bl_X3_danger_60 : blk bX3_danger 60 = some ([(.istore 4, 2, 0, 0, 0), (.aload_n 0, 1, 0, 0, 0), (.getfield 10, 3, 2, 0, 0), (.iload 4, 2, 0, 0, 0), (.iload_n 1, 1, 0, 0, 0)], some (.invokevirtual 195, 3, 7, 3, 0)) := rfl
theorem bl_X3_danger_72 : blk bX3_danger 72 = some ([], some (.ifCond .eq 18, 3, 0, 0, 0)) := rfl
theorem bl_X3_danger_75 : blk bX3_danger 75 = some ([(.iload_n 2, 1, 0, 0, 0), (.iconst 1, 1, 1, 0, 0), (.aload_n 0, 1, 0, 0, 0), (.getfield 10, 3, 2, 0, 0), (.getfield 120, 3, 0, 4, 0), (.iload 4, 2, 0, 0, 0), (.iaload, 1, 0, 0, 0), (.ishl, 1, 0, 0, 0), (.ior, 1, 0, 0, 0), (.istore_n 2, 1, 0, 0, 0)], none) := rfl
theorem bl_X3_danger_90 : blk bX3_danger 90 = some ([(.iinc 3 1, 3, 1, 0, 0)], some (.goto (-80), 3, 0, 0, 0)) := rfl
theorem bl_X3_danger_96 : blk bX3_danger 96 = some ([(.iload_n 2, 1, 0, 0, 0)], some (.ireturn, 1, 0, 0, 0)) := rfl
theorem bl_X3_placeInMind_0 : blk bX3_placeInMind 0 = some ([(.aload_n 0, 1, 0, 0, 0), (.getfield 33, 3, 2, 5, 0), (.aload_n 0, 1, 0, 0, 0), (.getfield 10, 3, 2, 0, 0)], some (.invokevirtual 66, 3, 0, 2, 0)) := rfl
theorem bl_X3_placeInMind_11 : blk bX3_placeInMind 11 = some ([(.aload_n 0, 1, 0, 0, 0), (.getfield 33, 3, 2, 5, 0), (.iload_n 1, 1, 0, 0, 0), (.iload_n 2, 1, 0, 0, 0)], some (.invokevirtual 137, 3, 14, 3, 0)) := rfl
theorem bl_X3_placeInMind_20 : blk bX3_placeInMind 20 = some ([], some (.ireturn, 1, 1, 0, 0)) := rfl
theorem bl_X3_stand_0 : blk bX3_stand 0 = some ([(.aload_n 0, 1, 0, 0, 0), (.getfield 10, 3, 2, 0, 0), (.iload_n 1, 1, 0, 0, 0)], some (.invokevirtual 87, 3, 1, 2, 0)) := rfl
theorem bl_X3_stand_8 : blk bX3_stand 8 = some ([], some (.ifCond .eq 22, 3, 0, 0, 0)) := rfl
theorem bl_X3_stand_11 : blk bX3_stand 11 = some ([(.iload_n 2, 1, 0, 0, 0)], some (.ifCond .lt 18, 3, 0, 0, 0)) := rfl
theorem bl_X3_stand_15 : blk bX3_stand 15 = some ([(.iload_n 2, 1, 0, 0, 0), (.bipush 20, 2, 20, 0, 0)], some (.if_icmp .gt 12, 3, 0, 0, 0)) := rfl
theorem bl_X3_stand_21 : blk bX3_stand 21 = some ([(.iload_n 3, 1, 0, 0, 0)], some (.ifCond .lt 8, 3, 0, 0, 0)) := rfl
theorem bl_X3_stand_25 : blk bX3_stand 25 = some ([(.iload_n 3, 1, 0, 0, 0), (.iconst 1, 1, 1, 0, 0)], some (.if_icmp .le 5, 3, 0, 0, 0)) := rfl
theorem bl_X3_stand_30 : blk bX3_stand 30 = some ([(.iconst (-1), 1, 1, 1, 0)], some (.ireturn, 1, 0, 0, 0)) := rfl
theorem bl_X3_stand_32 : blk bX3_stand 32 = some ([(.aload_n 0, 1, 0, 0, 0), (.getfield 10, 3, 2, 0, 0), (.iload_n 1, 1, 0, 0, 0)], some (.invokevirtual 172, 3, 2, 2, 0)) := rfl
theorem bl_X3_stand_40 : blk bX3_stand 40 = some ([], some (.ifCond .ne 6, 3, 0, 0, 0)) := rfl
theorem bl_X3_stand_43 : blk bX3_stand 43 = some ([(.bipush (-3), 2, 3, 1, 0)], some (.ireturn, 1, 0, 0, 0)) := rfl
theorem bl_X3_stand_46 : blk bX3_stand 46 = some ([(.bipush (-4), 2, 4, 1, 0), (.istore 4, 2, 0, 0, 0), (.iconst 0, 1, 0, 0, 0), (.istore 5, 2, 0, 0, 0), (.iconst 0, 1, 0, 0, 0), (.istore 6, 2, 0, 0, 0)], none) := rfl
theorem bl_X3_stand_56 : blk bX3_stand 56 = some ([(.iload 6, 2, 0, 0, 0), (.bipush 36, 2, 36, 0, 0)], some (.if_icmp .ge 86, 3, 0, 0, 0)) := rfl
theorem bl_X3_stand_63 : blk bX3_stand 63 = some ([(.aload_n 0, 1, 0, 0, 0), (.iload_n 1, 1, 0, 0, 0), (.iload 6, 2, 0, 0, 0)], some (.invokevirtual 198, 3, 77, 3, 2)) := rfl
theorem bl_X3_stand_70 : blk bX3_stand 70 = some ([], some (.ifCond .eq 70, 3, 0, 0, 0)) := rfl
theorem bl_X3_stand_73 : blk bX3_stand 73 = some ([(.aload_n 0, 1, 0, 0, 0), (.getfield 33, 3, 2, 5, 0), (.iload_n 2, 1, 0, 0, 0)], some (.invokevirtual 201, 3, 33, 2, 0)) := rfl
theorem bl_X3_stand_81 : blk bX3_stand 81 = some ([(.aload_n 0, 1, 0, 0, 0), (.getfield 33, 3, 2, 5, 0), (.aload_n 0, 1, 0, 0, 0), (.getfield 10, 3, 2, 0, 0), (.getfield 97, 3, 0, 2, 0), (.iload_n 1, 1, 0, 0, 0), (.iaload, 1, 0, 0, 0)], some (.invokevirtual 166, 3, 37, 2, 0)) := rfl
theorem bl_X3_stand_97 : blk bX3_stand 97 = some ([(.aload_n 0, 1, 0, 0, 0), (.getfield 33, 3, 2, 5, 0), (.iconst 1, 1, 1, 0, 0), (.aload_n 0, 1, 0, 0, 0), (.getfield 10, 3, 2, 0, 0), (.getfield 97, 3, 0, 2, 0), (.iload_n 1, 1, 0, 0, 0), (.iaload, 1, 0, 0, 0), (.isub, 1, 0, 0, 0)], some (.invokevirtual 166, 3, 37, 2, 0)) := rfl
theorem bl_X3_stand_115 : blk bX3_stand 115 = some ([(.isub, 1, 0, 0, 0), (.istore 7, 2, 0, 0, 0), (.iload 4, 2, 0, 0, 0), (.bipush (-4), 2, 4, 1, 0)], some (.if_icmp .eq 10, 3, 0, 0, 0)) := rfl
theorem bl_X3_stand_125 : blk bX3_stand 125 = some ([(.iload 7, 2, 0, 0, 0), (.iload 5, 2, 0, 0, 0)], some (.if_icmp .le 11, 3, 0, 0, 0)) := rfl
theorem bl_X3_stand_132 : blk bX3_stand 132 = some ([(.iload 6, 2, 0, 0, 0), (.istore 4, 2, 0, 0, 0), (.iload 7, 2, 0, 0, 0), (.istore 5, 2, 0, 0, 0)], none) := rfl
theorem bl_X3_stand_140 : blk bX3_stand 140 = some ([(.iinc 6 1, 3, 1, 0, 0)], some (.goto (-87), 3, 0, 0, 0)) := rfl
theorem bl_X3_stand_146 : blk bX3_stand 146 = some ([(.iload_n 3, 1, 0, 0, 0)], some (.ifCond .ne 8, 3, 0, 0, 0)) := rfl
theorem bl_X3_stand_150 : blk bX3_stand 150 = some ([(.iload 4, 2, 0, 0, 0)], some (.goto 8, 3, 0, 0, 0)) := rfl
theorem bl_X3_stand_155 : blk bX3_stand 155 = some ([(.iload 5, 2, 0, 0, 0), (.bipush 100, 2, 100, 0, 0), (.iadd, 1, 0, 0, 0)], none) := rfl
theorem bl_X3_stand_160 : blk bX3_stand 160 = some ([], some (.ireturn, 1, 0, 0, 0)) := rfl
theorem bl_X3_off_0 : blk bX3_off 0 = some ([(.iload_n 1, 1, 0, 0, 0)], some (.ifCond .lt 9, 3, 0, 0, 0)) := rfl
theorem bl_X3_off_4 : blk bX3_off 4 = some ([(.iload_n 1, 1, 0, 0, 0), (.bipush 30, 2, 30, 0, 0)], some (.if_icmp .le 5, 3, 0, 0, 0)) := rfl
theorem bl_X3_off_10 : blk bX3_off 10 = some ([(.iconst (-1), 1, 1, 1, 0)], some (.ireturn, 1, 0, 0, 0)) := rfl
theorem bl_X3_off_12 : blk bX3_off 12 = some ([(.aload_n 0, 1, 0, 0, 0), (.getfield 36, 3, 2, 6, 0), (.aload_n 0, 1, 0, 0, 0), (.getfield 10, 3, 2, 0, 0)], some (.invokevirtual 66, 3, 0, 2, 0)) := rfl
theorem bl_X3_off_23 : blk bX3_off 23 = some ([(.aload_n 0, 1, 0, 0, 0), (.getfield 36, 3, 2, 6, 0), (.iload_n 1, 1, 0, 0, 0)], some (.invokevirtual 201, 3, 33, 2, 0)) := rfl
theorem bl_X3_off_31 : blk bX3_off 31 = some ([(.bipush (-4), 2, 4, 1, 0), (.istore_n 2, 1, 0, 0, 0), (.iconst 0, 1, 0, 0, 0), (.istore_n 3, 1, 0, 0, 0), (.iconst 0, 1, 0, 0, 0), (.istore 4, 2, 0, 0, 0)], none) := rfl
theorem bl_X3_off_39 : blk bX3_off 39 = some ([(.iload 4, 2, 0, 0, 0), (.aload_n 0, 1, 0, 0, 0), (.getfield 10, 3, 2, 0, 0), (.getfield 126, 3, 0, 5, 0)], some (.if_icmp .ge 77, 3, 0, 0, 0)) := rfl
theorem bl_X3_off_51 : blk bX3_off 51 = some ([(.aload_n 0, 1, 0, 0, 0), (.getfield 33, 3, 2, 5, 0), (.aload_n 0, 1, 0, 0, 0), (.getfield 10, 3, 2, 0, 0)], some (.invokevirtual 66, 3, 0, 2, 0)) := rfl
theorem bl_X3_off_62 : blk bX3_off 62 = some ([(.aload_n 0, 1, 0, 0, 0), (.getfield 33, 3, 2, 5, 0), (.iload 4, 2, 0, 0, 0)], some (.invokevirtual 141, 3, 13, 2, 0)) := rfl
theorem bl_X3_off_71 : blk bX3_off 71 = some ([], some (.ifCond .eq 48, 3, 0, 0, 0)) := rfl
theorem bl_X3_off_74 : blk bX3_off 74 = some ([(.aload_n 0, 1, 0, 0, 0), (.getfield 33, 3, 2, 5, 0), (.iload_n 1, 1, 0, 0, 0)], some (.invokevirtual 201, 3, 33, 2, 0)) := rfl
theorem bl_X3_off_82 : blk bX3_off 82 = some ([(.aload_n 0, 1, 0, 0, 0), (.getfield 33, 3, 2, 5, 0), (.iload 4, 2, 0, 0, 0)], some (.invokevirtual 204, 3, 38, 2, 0)) := rfl
theorem bl_X3_off_91 : blk bX3_off 91 = some ([(.istore 5, 2, 0, 0, 0), (.iload 5, 2, 0, 0, 0), (.aload_n 0, 1, 0, 0, 0), (.getfield 36, 3, 2, 6, 0), (.iload 4, 2, 0, 0, 0)], some (.invokevirtual 204, 3, 38, 2, 0)) := rfl
theorem bl_X3_off_104 : blk bX3_off 104 = some ([], some (.if_icmp .le 15, 3, 0, 0, 0)) := rfl
theorem bl_X3_off_107 : blk bX3_off 107 = some ([(.iload 5, 2, 0, 0, 0), (.iload_n 3, 1, 0, 0, 0)], some (.if_icmp .le 9, 3, 0, 0, 0)) := rfl
theorem bl_X3_off_113 : blk bX3_off 113 = some ([(.iload 4, 2, 0, 0, 0), (.istore_n 2, 1, 0, 0, 0), (.iload 5, 2, 0, 0, 0), (.istore_n 3, 1, 0, 0, 0)], none) := rfl
theorem bl_X3_off_119 : blk bX3_off 119 = some ([(.iinc 4 1, 3, 1, 0, 0)], some (.goto (-83), 3, 0, 0, 0)) := rfl
theorem bl_X3_off_125 : blk bX3_off 125 = some ([(.iload_n 2, 1, 0, 0, 0)], some (.ireturn, 1, 0, 0, 0)) := rfl
theorem bl_X3_ears_0 : blk bX3_ears 0 = some ([(.aload_n 0, 1, 0, 0, 0), (.getfield 10, 3, 2, 0, 0), (.iload_n 1, 1, 0, 0, 0)], some (.invokevirtual 87, 3, 1, 2, 0)) := rfl
theorem bl_X3_ears_8 : blk bX3_ears 8 = some ([], some (.ifCond .eq 19, 3, 0, 0, 0)) := rfl
theorem bl_X3_ears_11 : blk bX3_ears 11 = some ([(.aload_n 0, 1, 0, 0, 0), (.getfield 10, 3, 2, 0, 0), (.iload_n 2, 1, 0, 0, 0)], some (.invokevirtual 87, 3, 1, 2, 0)) := rfl
theorem bl_X3_ears_19 : blk bX3_ears 19 = some ([], some (.ifCond .eq 8, 3, 0, 0, 0)) := rfl
theorem bl_X3_ears_22 : blk bX3_ears 22 = some ([(.iload_n 1, 1, 0, 0, 0), (.iload_n 2, 1, 0, 0, 0)], some (.if_icmp .ne 5, 3, 0, 0, 0)) := rfl
theorem bl_X3_ears_27 : blk bX3_ears 27 = some ([(.iconst (-1), 1, 1, 1, 0)], some (.ireturn, 1, 0, 0, 0)) := rfl
theorem bl_X3_ears_29 : blk bX3_ears 29 = some ([(.aload_n 0, 1, 0, 0, 0), (.getfield 10, 3, 2, 0, 0), (.iload_n 1, 1, 0, 0, 0)], some (.invokevirtual 172, 3, 2, 2, 0)) := rfl
theorem bl_X3_ears_37 : blk bX3_ears 37 = some ([], some (.ifCond .eq 35, 3, 0, 0, 0)) := rfl
theorem bl_X3_ears_40 : blk bX3_ears 40 = some ([(.aload_n 0, 1, 0, 0, 0), (.getfield 10, 3, 2, 0, 0), (.iload_n 2, 1, 0, 0, 0)], some (.invokevirtual 172, 3, 2, 2, 0)) := rfl
theorem bl_X3_ears_48 : blk bX3_ears 48 = some ([], some (.ifCond .eq 24, 3, 0, 0, 0)) := rfl
theorem bl_X3_ears_51 : blk bX3_ears 51 = some ([(.aload_n 0, 1, 0, 0, 0), (.getfield 10, 3, 2, 0, 0), (.getfield 97, 3, 0, 2, 0), (.iload_n 1, 1, 0, 0, 0), (.iaload, 1, 0, 0, 0), (.aload_n 0, 1, 0, 0, 0), (.getfield 10, 3, 2, 0, 0), (.getfield 97, 3, 0, 2, 0), (.iload_n 2, 1, 0, 0, 0), (.iaload, 1, 0, 0, 0)], some (.if_icmp .eq 6, 3, 0, 0, 0)) := rfl
theorem bl_X3_ears_72 : blk bX3_ears 72 = some ([(.bipush (-4), 2, 4, 1, 0)], some (.ireturn, 1, 0, 0, 0)) := rfl
theorem bl_X3_ears_75 : blk bX3_ears 75 = some ([(.iconst 0, 1, 0, 0, 0), (.istore_n 3, 1, 0, 0, 0)], none) := rfl
theorem bl_X3_ears_77 : blk bX3_ears 77 = some ([(.iload_n 3, 1, 0, 0, 0), (.bipush 10, 2, 10, 0, 0)], some (.if_icmp .ge 48, 3, 0, 0, 0)) := rfl
theorem bl_X3_ears_83 : blk bX3_ears 83 = some ([(.aload_n 0, 1, 0, 0, 0), (.getfield 10, 3, 2, 0, 0), (.getfield 207, 3, 0, 3, 0), (.iload_n 1, 1, 0, 0, 0), (.iaload, 1, 0, 0, 0), (.aload_n 0, 1, 0, 0, 0), (.getfield 10, 3, 2, 0, 0), (.getfield 207, 3, 0, 3, 0), (.iload_n 2, 1, 0, 0, 0), (.iaload, 1, 0, 0, 0)], some (.invokestatic 210, 3, 22, 2, 0)) := rfl
theorem bl_X3_ears_104 : blk bX3_ears 104 = some ([(.aload_n 0, 1, 0, 0, 0), (.getfield 10, 3, 2, 0, 0), (.getfield 91, 3, 0, 0, 0), (.iload_n 1, 1, 0, 0, 0), (.iaload, 1, 0, 0, 0), (.iload_n 3, 1, 0, 0, 0)], some (.invokestatic 103, 3, 26, 2, 0)) := rfl
theorem bl_X3_ears_117 : blk bX3_ears 117 = some ([], some (.if_icmp .gt 5, 3, 0, 0, 0)) := rfl
theorem bl_X3_ears_120 : blk bX3_ears 120 = some ([(.iload_n 3, 1, 0, 0, 0)], some (.ireturn, 1, 0, 0, 0)) := rfl
theorem bl_X3_ears_122 : blk bX3_ears 122 = some ([(.iinc 3 1, 3, 1, 0, 0)], some (.goto (-48), 3, 0, 0, 0)) := rfl
theorem bl_X3_ears_128 : blk bX3_ears 128 = some ([(.bipush (-4), 2, 4, 1, 0)], some (.ireturn, 1, 0, 0, 0)) := rfl
theorem bl_X3_side_0 : blk bX3_side 0 = some ([(.iload_n 1, 1, 0, 0, 0)], some (.invokestatic 123, 3, 10, 1, 0)) := rfl
theorem bl_X3_side_4 : blk bX3_side 4 = some ([], some (.ifCond .ne 5, 3, 0, 0, 0)) := rfl
theorem bl_X3_side_7 : blk bX3_side 7 = some ([(.iconst (-1), 1, 1, 1, 0)], some (.ireturn, 1, 0, 0, 0)) := rfl
theorem bl_X3_side_9 : blk bX3_side 9 = some ([(.iload_n 2, 1, 0, 0, 0)], some (.tableswitch 66 0 3 #[30, 39, 48, 57], 30, 0, 0, 0)) := rfl
theorem bl_X3_side_40 : blk bX3_side 40 = some ([(.aload_n 0, 1, 0, 0, 0), (.getfield 10, 3, 2, 0, 0), (.iload_n 1, 1, 0, 0, 0)], some (.invokevirtual 213, 3, 41, 2, 0)) := rfl
theorem bl_X3_side_48 : blk bX3_side 48 = some ([], some (.ireturn, 1, 0, 0, 0)) := rfl
theorem bl_X3_side_49 : blk bX3_side 49 = some ([(.aload_n 0, 1, 0, 0, 0), (.getfield 10, 3, 2, 0, 0), (.iload_n 1, 1, 0, 0, 0)], some (.invokevirtual 166, 3, 37, 2, 0)) := rfl
theorem bl_X3_side_57 : blk bX3_side 57 = some ([], some (.ireturn, 1, 0, 0, 0)) := rfl
theorem bl_X3_side_58 : blk bX3_side 58 = some ([(.aload_n 0, 1, 0, 0, 0), (.getfield 10, 3, 2, 0, 0), (.iload_n 1, 1, 0, 0, 0)], some (.invokevirtual 216, 3, 42, 2, 0)) := rfl
theorem bl_X3_side_66 : blk bX3_side 66 = some ([], some (.ireturn, 1, 0, 0, 0)) := rfl
theorem bl_X3_side_67 : blk bX3_side 67 = some ([(.aload_n 0, 1, 0, 0, 0), (.getfield 10, 3, 2, 0, 0), (.iload_n 1, 1, 0, 0, 0)], some (.invokevirtual 219, 3, 29, 2, 0)) := rfl
theorem bl_X3_side_75 : blk bX3_side 75 = some ([], some (.ireturn, 1, 0, 0, 0)) := rfl
theorem bl_X3_side_76 : blk bX3_side 76 = some ([(.iconst (-1), 1, 1, 1, 0)], some (.ireturn, 1, 0, 0, 0)) := rfl
theorem bl_X3_free_0 : blk bX3_free 0 = some ([(.iload_n 1, 1, 0, 0, 0)], some (.tableswitch 63 0 2 #[27, 38, 46], 27, 0, 0, 0)) := rfl
theorem bl_X3_free_28 : blk bX3_free 28 = some ([(.bipush 36, 2, 36, 0, 0), (.aload_n 0, 1, 0, 0, 0), (.getfield 10, 3, 2, 0, 0)], some (.invokevirtual 153, 3, 34, 1, 0)) := rfl
theorem bl_X3_free_37 : blk bX3_free 37 = some ([(.isub, 1, 0, 0, 0)], some (.ireturn, 1, 0, 0, 0)) := rfl
theorem bl_X3_free_39 : blk bX3_free 39 = some ([(.aload_n 0, 1, 0, 0, 0), (.getfield 10, 3, 2, 0, 0)], some (.invokevirtual 222, 3, 43, 1, 0)) := rfl
theorem bl_X3_free_46 : blk bX3_free 46 = some ([], some (.ireturn, 1, 0, 0, 0)) := rfl
theorem bl_X3_free_47 : blk bX3_free 47 = some ([(.aload_n 0, 1, 0, 0, 0), (.getfield 10, 3, 2, 0, 0), (.aload_n 0, 1, 0, 0, 0), (.getfield 10, 3, 2, 0, 0), (.getfield 111, 3, 0, 8, 0), (.iconst 1, 1, 1, 0, 0), (.iadd, 1, 0, 0, 0)], some (.invokevirtual 225, 3, 44, 2, 0)) := rfl
theorem bl_X3_free_63 : blk bX3_free 63 = some ([], some (.ireturn, 1, 0, 0, 0)) := rfl
theorem bl_X3_free_64 : blk bX3_free 64 = some ([(.iconst (-1), 1, 1, 1, 0)], some (.ireturn, 1, 0, 0, 0)) := rfl
theorem bl_X3_wentAsTold_0 : blk bX3_wentAsTold 0 = some ([(.iconst 0, 1, 0, 0, 0), (.istore 4, 2, 0, 0, 0)], none) := rfl
theorem bl_X3_wentAsTold_3 : blk bX3_wentAsTold 3 = some ([(.iload 4, 2, 0, 0, 0), (.aload_n 2, 1, 0, 0, 0), (.getfield 70, 3, 1, 4, 0)], some (.if_icmp .ge 56, 3, 0, 0, 0)) := rfl
theorem bl_X3_wentAsTold_12 : blk bX3_wentAsTold 12 = some ([(.iload 4, 2, 0, 0, 0)], some (.ifCond .gt 7, 3, 0, 0, 0)) := rfl
theorem bl_X3_wentAsTold_17 : blk bX3_wentAsTold 17 = some ([(.iload_n 3, 1, 0, 0, 0)], some (.ifCond .le 13, 3, 0, 0, 0)) := rfl
theorem bl_X3_wentAsTold_21 : blk bX3_wentAsTold 21 = some ([(.aload_n 0, 1, 0, 0, 0), (.getfield 33, 3, 2, 5, 0), (.iconst 0, 1, 0, 0, 0), (.iconst 0, 1, 0, 0, 0)], some (.invokevirtual 175, 3, 31, 3, 0)) := rfl
theorem bl_X3_wentAsTold_30 : blk bX3_wentAsTold 30 = some ([(.pop, 1, 0, 0, 0)], none) := rfl
theorem bl_X3_wentAsTold_31 : blk bX3_wentAsTold 31 = some ([(.aload_n 2, 1, 0, 0, 0), (.iload 4, 2, 0, 0, 0)], some (.invokevirtual 255, 3, 52, 2, 1)) := rfl
theorem bl_X3_wentAsTold_37 : blk bX3_wentAsTold 37 = some ([], some (.ifCond .ne 22, 3, 0, 0, 0)) := rfl
theorem bl_X3_wentAsTold_40 : blk bX3_wentAsTold 40 = some ([(.aload_n 2, 1, 0, 0, 0), (.iload 4, 2, 0, 0, 0)], some (.invokevirtual 252, 3, 50, 2, 1)) := rfl
theorem bl_X3_wentAsTold_46 : blk bX3_wentAsTold 46 = some ([(.aload_n 0, 1, 0, 0, 0), (.getfield 33, 3, 2, 5, 0), (.iload_n 1, 1, 0, 0, 0)], some (.invokevirtual 322, 3, 4, 2, 0)) := rfl
theorem bl_X3_wentAsTold_54 : blk bX3_wentAsTold 54 = some ([], some (.if_icmp .eq 5, 3, 0, 0, 0)) := rfl
theorem bl_X3_wentAsTold_57 : blk bX3_wentAsTold 57 = some ([(.iconst 0, 1, 0, 0, 0)], some (.ireturn, 1, 1, 0, 0)) := rfl
theorem bl_X3_wentAsTold_59 : blk bX3_wentAsTold 59 = some ([(.iinc 4 1, 3, 1, 0, 0)], some (.goto (-59), 3, 0, 0, 0)) := rfl
theorem bl_X3_wentAsTold_65 : blk bX3_wentAsTold 65 = some ([(.iconst 1, 1, 1, 0, 0)], some (.ireturn, 1, 1, 0, 0)) := rfl
theorem bl_X3_whatIs_0 : blk bX3_whatIs 0 = some ([(.aload_n 0, 1, 0, 0, 0), (.iload_n 1, 1, 0, 0, 0)], some (.invokevirtual 51, 3, 57, 2, 2)) := rfl
theorem bl_X3_whatIs_5 : blk bX3_whatIs 5 = some ([(.astore 4, 2, 0, 0, 0), (.aload 4, 2, 0, 0, 0)], some (.ifnull 23, 3, 0, 0, 0)) := rfl
theorem bl_X3_whatIs_12 : blk bX3_whatIs 12 = some ([(.aload_n 0, 1, 0, 0, 0), (.getfield 10, 3, 2, 0, 0), (.iload_n 2, 1, 0, 0, 0)], some (.invokevirtual 87, 3, 1, 2, 0)) := rfl
theorem bl_X3_whatIs_20 : blk bX3_whatIs 20 = some ([], some (.ifCond .eq 12, 3, 0, 0, 0)) := rfl
theorem bl_X3_whatIs_23 : blk bX3_whatIs 23 = some ([(.iload_n 3, 1, 0, 0, 0)], some (.ifCond .lt 8, 3, 0, 0, 0)) := rfl
theorem bl_X3_whatIs_27 : blk bX3_whatIs 27 = some ([(.iload_n 3, 1, 0, 0, 0), (.iconst 1, 1, 1, 0, 0)], some (.if_icmp .le 5, 3, 0, 0, 0)) := rfl
theorem bl_X3_whatIs_32 : blk bX3_whatIs 32 = some ([(.iconst (-1), 1, 1, 1, 0)], some (.ireturn, 1, 0, 0, 0)) := rfl
theorem bl_X3_whatIs_34 : blk bX3_whatIs 34 = some ([(.aload 4, 2, 0, 0, 0), (.iconst 2, 1, 2, 0, 0)], some (.invokestatic 55, 3, 58, 2, 0)) := rfl
theorem bl_X3_whatIs_40 : blk bX3_whatIs 40 = some ([(.istore 5, 2, 0, 0, 0), (.iload 5, 2, 0, 0, 0)], some (.ifCond .eq 6, 3, 0, 0, 0)) := rfl
theorem bl_X3_whatIs_47 : blk bX3_whatIs 47 = some ([(.iload 5, 2, 0, 0, 0)], some (.ireturn, 1, 0, 0, 0)) := rfl
theorem bl_X3_whatIs_50 : blk bX3_whatIs 50 = some ([(.iconst 0, 1, 0, 0, 0), (.istore 6, 2, 0, 0, 0), (.iconst 0, 1, 0, 0, 0), (.istore 7, 2, 0, 0, 0)], none) := rfl
theorem bl_X3_whatIs_56 : blk bX3_whatIs 56 = some ([(.iload 7, 2, 0, 0, 0), (.iload_n 3, 1, 0, 0, 0)], some (.ifCond .ne 8, 3, 0, 0, 0)) := rfl
theorem bl_X3_whatIs_62 : blk bX3_whatIs 62 = some ([(.bipush 8, 2, 8, 0, 0)], some (.goto 5, 3, 0, 0, 0)) := rfl
theorem bl_X3_whatIs_67 : blk bX3_whatIs 67 = some ([(.bipush 10, 2, 10, 0, 0)], none) := rfl
theorem bl_X3_whatIs_69 : blk bX3_whatIs 69 = some ([], some (.if_icmp .ge 87, 3, 0, 0, 0)) := rfl
theorem bl_X3_whatIs_72 : blk bX3_whatIs 72 = some ([(.aload_n 0, 1, 0, 0, 0), (.getfield 33, 3, 2, 5, 0), (.aload_n 0, 1, 0, 0, 0), (.getfield 10, 3, 2, 0, 0)], some (.invokevirtual 66, 3, 0, 2, 0)) := rfl
theorem bl_X3_whatIs_83 : blk bX3_whatIs 83 = some ([(.iload_n 3, 1, 0, 0, 0)], some (.ifCond .ne 26, 3, 0, 0, 0)) := rfl
theorem bl_X3_whatIs_87 : blk bX3_whatIs 87 = some ([(.aload_n 0, 1, 0, 0, 0), (.getfield 33, 3, 2, 5, 0), (.iload_n 2, 1, 0, 0, 0), (.iload 7, 2, 0, 0, 0), (.aload_n 0, 1, 0, 0, 0), (.getfield 10, 3, 2, 0, 0), (.getfield 94, 3, 0, 1, 0), (.iload_n 2, 1, 0, 0, 0), (.iaload, 1, 0, 0, 0)], some (.invokevirtual 228, 3, 16, 4, 0)) := rfl
theorem bl_X3_whatIs_106 : blk bX3_whatIs 106 = some ([(.pop, 1, 0, 0, 0)], some (.goto 23, 3, 0, 0, 0)) := rfl
theorem bl_X3_whatIs_110 : blk bX3_whatIs 110 = some ([(.aload_n 0, 1, 0, 0, 0), (.getfield 33, 3, 2, 5, 0), (.iload_n 2, 1, 0, 0, 0), (.aload_n 0, 1, 0, 0, 0), (.getfield 10, 3, 2, 0, 0), (.getfield 91, 3, 0, 0, 0), (.iload_n 2, 1, 0, 0, 0), (.iaload, 1, 0, 0, 0), (.iload 7, 2, 0, 0, 0)], some (.invokevirtual 228, 3, 16, 4, 0)) := rfl
theorem bl_X3_whatIs_129 : blk bX3_whatIs 129 = some ([(.pop, 1, 0, 0, 0)], none) := rfl
theorem bl_X3_whatIs_130 : blk bX3_whatIs 130 = some ([(.aload_n 0, 1, 0, 0, 0), (.iload_n 2, 1, 0, 0, 0), (.aload 4, 2, 0, 0, 0), (.iconst 0, 1, 0, 0, 0)], some (.invokevirtual 232, 3, 83, 4, 2)) := rfl
theorem bl_X3_whatIs_138 : blk bX3_whatIs 138 = some ([], some (.ifCond .eq 12, 3, 0, 0, 0)) := rfl
theorem bl_X3_whatIs_141 : blk bX3_whatIs 141 = some ([(.iload 6, 2, 0, 0, 0), (.iconst 1, 1, 1, 0, 0), (.iload 7, 2, 0, 0, 0), (.ishl, 1, 0, 0, 0), (.ior, 1, 0, 0, 0), (.istore 6, 2, 0, 0, 0)], none) := rfl
theorem bl_X3_whatIs_150 : blk bX3_whatIs 150 = some ([(.iinc 7 1, 3, 1, 0, 0)], some (.goto (-97), 3, 0, 0, 0)) := rfl
theorem bl_X3_whatIs_156 : blk bX3_whatIs 156 = some ([(.iload 6, 2, 0, 0, 0)], some (.ireturn, 1, 0, 0, 0)) := rfl
theorem bl_X3_whereFrom_0 : blk bX3_whereFrom 0 = some ([(.aload_n 0, 1, 0, 0, 0), (.iload_n 1, 1, 0, 0, 0)], some (.invokevirtual 51, 3, 57, 2, 2)) := rfl
theorem bl_X3_whereFrom_5 : blk bX3_whereFrom 5 = some ([(.astore 4, 2, 0, 0, 0), (.aload 4, 2, 0, 0, 0)], some (.ifnull 23, 3, 0, 0, 0)) := rfl
theorem bl_X3_whereFrom_12 : blk bX3_whereFrom 12 = some ([(.aload_n 0, 1, 0, 0, 0), (.getfield 10, 3, 2, 0, 0), (.iload_n 2, 1, 0, 0, 0)], some (.invokevirtual 87, 3, 1, 2, 0)) := rfl
theorem bl_X3_whereFrom_20 : blk bX3_whereFrom 20 = some ([], some (.ifCond .eq 12, 3, 0, 0, 0)) := rfl
theorem bl_X3_whereFrom_23 : blk bX3_whereFrom 23 = some ([(.iload_n 3, 1, 0, 0, 0)], some (.ifCond .lt 8, 3, 0, 0, 0)) := rfl
theorem bl_X3_whereFrom_27 : blk bX3_whereFrom 27 = some ([(.iload_n 3, 1, 0, 0, 0), (.iconst 2, 1, 2, 0, 0)], some (.if_icmp .le 5, 3, 0, 0, 0)) := rfl
theorem bl_X3_whereFrom_32 : blk bX3_whereFrom 32 = some ([(.iconst (-1), 1, 1, 1, 0)], some (.ireturn, 1, 0, 0, 0)) := rfl
theorem bl_X3_whereFrom_34 : blk bX3_whereFrom 34 = some ([(.aload_n 0, 1, 0, 0, 0), (.getfield 10, 3, 2, 0, 0), (.iload_n 2, 1, 0, 0, 0)], some (.invokevirtual 172, 3, 2, 2, 0)) := rfl
theorem bl_X3_whereFrom_42 : blk bX3_whereFrom 42 = some ([], some (.ifCond .ne 6, 3, 0, 0, 0)) := rfl
theorem bl_X3_whereFrom_45 : blk bX3_whereFrom 45 = some ([(.bipush (-3), 2, 3, 1, 0)], some (.ireturn, 1, 0, 0, 0)) := rfl
theorem bl_X3_whereFrom_48 : blk bX3_whereFrom 48 = some ([(.aload 4, 2, 0, 0, 0), (.iconst 2, 1, 2, 0, 0)], some (.invokestatic 55, 3, 58, 2, 0)) := rfl
theorem bl_X3_whereFrom_54 : blk bX3_whereFrom 54 = some ([(.istore 5, 2, 0, 0, 0), (.iload 5, 2, 0, 0, 0)], some (.ifCond .eq 6, 3, 0, 0, 0)) := rfl
theorem bl_X3_whereFrom_61 : blk bX3_whereFrom 61 = some ([(.iload 5, 2, 0, 0, 0)], some (.ireturn, 1, 0, 0, 0)) := rfl
theorem bl_X3_whereFrom_64 : blk bX3_whereFrom 64 = some ([(.iconst 0, 1, 0, 0, 0), (.istore 6, 2, 0, 0, 0), (.bipush (-4), 2, 4, 1, 0), (.istore 7, 2, 0, 0, 0), (.bipush (-4), 2, 4, 1, 0), (.istore 8, 2, 0, 0, 0), (.iconst 0, 1, 0, 0, 0), (.istore 9, 2, 0, 0, 0)], none) := rfl
theorem bl_X3_whereFrom_78 : blk bX3_whereFrom 78 = some ([(.iload 9, 2, 0, 0, 0), (.bipush 36, 2, 36, 0, 0)], some (.if_icmp .ge 53, 3, 0, 0, 0)) := rfl
theorem bl_X3_whereFrom_85 : blk bX3_whereFrom 85 = some ([(.aload_n 0, 1, 0, 0, 0), (.iload_n 2, 1, 0, 0, 0), (.iload 9, 2, 0, 0, 0)], some (.invokevirtual 198, 3, 77, 3, 2)) := rfl
theorem bl_X3_whereFrom_92 : blk bX3_whereFrom 92 = some ([], some (.ifCond .eq 37, 3, 0, 0, 0)) := rfl
theorem bl_X3_whereFrom_95 : blk bX3_whereFrom 95 = some ([(.aload_n 0, 1, 0, 0, 0), (.iload_n 2, 1, 0, 0, 0), (.aload 4, 2, 0, 0, 0), (.iconst 1, 1, 1, 0, 0)], some (.invokevirtual 232, 3, 83, 4, 2)) := rfl
theorem bl_X3_whereFrom_103 : blk bX3_whereFrom 103 = some ([], some (.ifCond .eq 26, 3, 0, 0, 0)) := rfl
theorem bl_X3_whereFrom_106 : blk bX3_whereFrom 106 = some ([(.iinc 6 1, 3, 1, 0, 0), (.iload 7, 2, 0, 0, 0), (.bipush (-4), 2, 4, 1, 0)], some (.if_icmp .ne 8, 3, 0, 0, 0)) := rfl
theorem bl_X3_whereFrom_116 : blk bX3_whereFrom 116 = some ([(.iload 9, 2, 0, 0, 0)], some (.goto 5, 3, 0, 0, 0)) := rfl
theorem bl_X3_whereFrom_121 : blk bX3_whereFrom 121 = some ([(.iload 7, 2, 0, 0, 0)], none) := rfl
theorem bl_X3_whereFrom_123 : blk bX3_whereFrom 123 = some ([(.istore 7, 2, 0, 0, 0), (.iload 9, 2, 0, 0, 0), (.istore 8, 2, 0, 0, 0)], none) := rfl
theorem bl_X3_whereFrom_129 : blk bX3_whereFrom 129 = some ([(.iinc 9 1, 3, 1, 0, 0)], some (.goto (-54), 3, 0, 0, 0)) := rfl
theorem bl_X3_whereFrom_135 : blk bX3_whereFrom 135 = some ([(.iload_n 3, 1, 0, 0, 0)], some (.ifCond .ne 6, 3, 0, 0, 0)) := rfl
theorem bl_X3_whereFrom_139 : blk bX3_whereFrom 139 = some ([(.iload 6, 2, 0, 0, 0)], some (.ireturn, 1, 0, 0, 0)) := rfl
theorem bl_X3_whereFrom_142 : blk bX3_whereFrom 142 = some ([(.iload_n 3, 1, 0, 0, 0), (.iconst 1, 1, 1, 0, 0)], some (.if_icmp .ne 8, 3, 0, 0, 0)) := rfl
theorem bl_X3_whereFrom_147 : blk bX3_whereFrom 147 = some ([(.iload 7, 2, 0, 0, 0)], some (.goto 5, 3, 0, 0, 0)) := rfl
theorem bl_X3_whereFrom_152 : blk bX3_whereFrom 152 = some ([(.iload 8, 2, 0, 0, 0)], none) := rfl
theorem bl_X3_whereFrom_154 : blk bX3_whereFrom 154 = some ([], some (.ireturn, 1, 0, 0, 0)) := rfl
theorem bl_X3_firstPairAtRest_0 : blk bX3_firstPairAtRest 0 = some ([(.iconst 0, 1, 0, 0, 0), (.istore_n 1, 1, 0, 0, 0)], none) := rfl
theorem bl_X3_firstPairAtRest_2 : blk bX3_firstPairAtRest 2 = some ([(.iload_n 1, 1, 0, 0, 0), (.iconst 4, 1, 4, 0, 0)], some (.if_icmp .ge 74, 3, 0, 0, 0)) := rfl
theorem bl_X3_firstPairAtRest_7 : blk bX3_firstPairAtRest 7 = some ([(.aload_n 0, 1, 0, 0, 0), (.getfield 39, 3, 2, 7, 0), (.iload_n 1, 1, 0, 0, 0), (.iaload, 1, 0, 0, 0), (.aload_n 0, 1, 0, 0, 0), (.getfield 39, 3, 2, 7, 0), (.iload_n 1, 1, 0, 0, 0), (.iconst 2, 1, 2, 0, 0), (.ixor, 1, 0, 0, 0), (.iaload, 1, 0, 0, 0)], some (.if_icmp .lt 7, 3, 0, 0, 0)) := rfl
theorem bl_X3_firstPairAtRest_24 : blk bX3_firstPairAtRest 24 = some ([(.iconst 1, 1, 1, 0, 0)], some (.goto 4, 3, 0, 0, 0)) := rfl
theorem bl_X3_firstPairAtRest_28 : blk bX3_firstPairAtRest 28 = some ([(.iconst 0, 1, 0, 0, 0)], none) := rfl
theorem bl_X3_firstPairAtRest_29 : blk bX3_firstPairAtRest 29 = some ([(.istore_n 2, 1, 0, 0, 0), (.aload_n 0, 1, 0, 0, 0), (.getfield 43, 3, 2, 8, 0), (.iload_n 1, 1, 0, 0, 0), (.iaload, 1, 0, 0, 0), (.aload_n 0, 1, 0, 0, 0), (.getfield 43, 3, 2, 8, 0), (.iload_n 1, 1, 0, 0, 0), (.iconst 1, 1, 1, 0, 0), (.ixor, 1, 0, 0, 0), (.iaload, 1, 0, 0, 0)], some (.if_icmp .lt 7, 3, 0, 0, 0)) := rfl
theorem bl_X3_firstPairAtRest_47 : blk bX3_firstPairAtRest 47 = some ([(.iconst 1, 1, 1, 0, 0)], some (.goto 4, 3, 0, 0, 0)) := rfl
theorem bl_X3_firstPairAtRest_51 : blk bX3_firstPairAtRest 51 = some ([(.iconst 0, 1, 0, 0, 0)], none) := rfl
theorem bl_X3_firstPairAtRest_52 : blk bX3_firstPairAtRest 52 = some ([(.istore_n 3, 1, 0, 0, 0), (.iload_n 2, 1, 0, 0, 0)], some (.ifCond .eq 18, 3, 0, 0, 0)) := rfl
theorem bl_X3_firstPairAtRest_57 : blk bX3_firstPairAtRest 57 = some ([(.iload_n 3, 1, 0, 0, 0)], some (.ifCond .eq 14, 3, 0, 0, 0)) := rfl
theorem bl_X3_firstPairAtRest_61 : blk bX3_firstPairAtRest 61 = some ([(.bipush 10, 2, 10, 0, 0), (.iload_n 1, 1, 0, 0, 0), (.iconst 1, 1, 1, 0, 0), (.ishr, 1, 0, 0, 0), (.imul, 1, 0, 0, 0), (.iload_n 1, 1, 0, 0, 0), (.iconst 1, 1, 1, 0, 0), (.iand, 1, 0, 0, 0), (.iadd, 1, 0, 0, 0)], some (.ireturn, 1, 0, 0, 0)) := rfl
theorem bl_X3_firstPairAtRest_72 : blk bX3_firstPairAtRest 72 = some ([(.iinc 1 1, 3, 1, 0, 0)], some (.goto (-73), 3, 0, 0, 0)) := rfl
theorem bl_X3_firstPairAtRest_78 : blk bX3_firstPairAtRest 78 = some ([(.bipush (-4), 2, 4, 1, 0)], some (.ireturn, 1, 0, 0, 0)) := rfl
theorem bl_X3_two_0 : blk bX3_two 0 = some ([(.aload_n 0, 1, 0, 0, 0), (.getfield 10, 3, 2, 0, 0), (.iload_n 1, 1, 0, 0, 0)], some (.invokevirtual 87, 3, 1, 2, 0)) := rfl
theorem bl_X3_two_8 : blk bX3_two 8 = some ([], some (.ifCond .eq 30, 3, 0, 0, 0)) := rfl
theorem bl_X3_two_11 : blk bX3_two 11 = some ([(.aload_n 0, 1, 0, 0, 0), (.getfield 10, 3, 2, 0, 0), (.iload_n 2, 1, 0, 0, 0)], some (.invokevirtual 87, 3, 1, 2, 0)) := rfl
theorem bl_X3_two_19 : blk bX3_two 19 = some ([], some (.ifCond .eq 19, 3, 0, 0, 0)) := rfl
theorem bl_X3_two_22 : blk bX3_two 22 = some ([(.iload_n 1, 1, 0, 0, 0), (.iload_n 2, 1, 0, 0, 0)], some (.if_icmp .eq 14, 3, 0, 0, 0)) := rfl
theorem bl_X3_two_27 : blk bX3_two 27 = some ([(.iload_n 3, 1, 0, 0, 0), (.iconst 1, 1, 1, 0, 0)], some (.if_icmp .lt 9, 3, 0, 0, 0)) := rfl
theorem bl_X3_two_32 : blk bX3_two 32 = some ([(.iload_n 3, 1, 0, 0, 0), (.bipush 30, 2, 30, 0, 0)], some (.if_icmp .le 5, 3, 0, 0, 0)) := rfl
theorem bl_X3_two_38 : blk bX3_two 38 = some ([(.iconst (-1), 1, 1, 1, 0)], some (.ireturn, 1, 0, 0, 0)) := rfl
theorem bl_X3_two_40 : blk bX3_two 40 = some ([(.aload_n 0, 1, 0, 0, 0), (.getfield 10, 3, 2, 0, 0), (.iload_n 1, 1, 0, 0, 0)], some (.invokevirtual 172, 3, 2, 2, 0)) := rfl
theorem bl_X3_two_48 : blk bX3_two 48 = some ([], some (.ifCond .eq 14, 3, 0, 0, 0)) := rfl
theorem bl_X3_two_51 : blk bX3_two 51 = some ([(.aload_n 0, 1, 0, 0, 0), (.getfield 10, 3, 2, 0, 0), (.iload_n 2, 1, 0, 0, 0)], some (.invokevirtual 172, 3, 2, 2, 0)) := rfl
theorem bl_X3_two_59 : blk bX3_two 59 = some ([], some (.ifCond .ne 6, 3, 0, 0, 0)) := rfl
theorem bl_X3_two_62 : blk bX3_two 62 = some ([(.bipush (-3), 2, 3, 1, 0)], some (.ireturn, 1, 0, 0, 0)) := rfl
theorem bl_X3_two_65 : blk bX3_two 65 = some ([(.iconst 0, 1, 0, 0, 0), (.istore 4, 2, 0, 0, 0)], none) := rfl
theorem bl_X3_two_68 : blk bX3_two 68 = some ([(.iload 4, 2, 0, 0, 0), (.iconst 4, 1, 4, 0, 0)], some (.if_icmp .ge 107, 3, 0, 0, 0)) := rfl
theorem bl_X3_two_74 : blk bX3_two 74 = some ([(.iload 4, 2, 0, 0, 0), (.iconst 2, 1, 2, 0, 0), (.iand, 1, 0, 0, 0)], some (.ifCond .ne 9, 3, 0, 0, 0)) := rfl
theorem bl_X3_two_81 : blk bX3_two 81 = some ([(.iconst 1, 1, 1, 0, 0), (.iload_n 1, 1, 0, 0, 0), (.ishl, 1, 0, 0, 0)], some (.goto 4, 3, 0, 0, 0)) := rfl
theorem bl_X3_two_87 : blk bX3_two 87 = some ([(.iconst 0, 1, 0, 0, 0)], none) := rfl
theorem bl_X3_two_88 : blk bX3_two 88 = some ([(.iload 4, 2, 0, 0, 0), (.iconst 1, 1, 1, 0, 0), (.iand, 1, 0, 0, 0)], some (.ifCond .ne 9, 3, 0, 0, 0)) := rfl
theorem bl_X3_two_95 : blk bX3_two 95 = some ([(.iconst 1, 1, 1, 0, 0), (.iload_n 2, 1, 0, 0, 0), (.ishl, 1, 0, 0, 0)], some (.goto 4, 3, 0, 0, 0)) := rfl
theorem bl_X3_two_101 : blk bX3_two 101 = some ([(.iconst 0, 1, 0, 0, 0)], none) := rfl
theorem bl_X3_two_102 : blk bX3_two 102 = some ([(.ior, 1, 0, 0, 0), (.istore 5, 2, 0, 0, 0), (.aload_n 0, 1, 0, 0, 0), (.getfield 33, 3, 2, 5, 0), (.aload_n 0, 1, 0, 0, 0), (.getfield 10, 3, 2, 0, 0)], some (.invokevirtual 66, 3, 0, 2, 0)) := rfl
theorem bl_X3_two_116 : blk bX3_two 116 = some ([(.iconst 0, 1, 0, 0, 0), (.istore 6, 2, 0, 0, 0)], none) := rfl
theorem bl_X3_two_119 : blk bX3_two 119 = some ([(.iload 6, 2, 0, 0, 0), (.iload_n 3, 1, 0, 0, 0)], some (.if_icmp .ge 20, 3, 0, 0, 0)) := rfl
theorem bl_X3_two_125 : blk bX3_two 125 = some ([(.aload_n 0, 1, 0, 0, 0), (.getfield 33, 3, 2, 5, 0), (.iload 5, 2, 0, 0, 0), (.iconst 0, 1, 0, 0, 0)], some (.invokevirtual 175, 3, 31, 3, 0)) := rfl
theorem bl_X3_two_135 : blk bX3_two 135 = some ([(.pop, 1, 0, 0, 0), (.iinc 6 1, 3, 1, 0, 0)], some (.goto (-20), 3, 0, 0, 0)) := rfl
theorem bl_X3_two_142 : blk bX3_two 142 = some ([(.aload_n 0, 1, 0, 0, 0), (.getfield 39, 3, 2, 7, 0), (.iload 4, 2, 0, 0, 0), (.aload_n 0, 1, 0, 0, 0), (.getfield 33, 3, 2, 5, 0), (.iload_n 1, 1, 0, 0, 0)], some (.invokevirtual 236, 3, 39, 2, 0)) := rfl
theorem bl_X3_two_156 : blk bX3_two 156 = some ([(.iastore, 1, 0, 0, 0), (.aload_n 0, 1, 0, 0, 0), (.getfield 43, 3, 2, 8, 0), (.iload 4, 2, 0, 0, 0), (.aload_n 0, 1, 0, 0, 0), (.getfield 33, 3, 2, 5, 0), (.iload_n 2, 1, 0, 0, 0)], some (.invokevirtual 236, 3, 39, 2, 0)) := rfl
theorem bl_X3_two_171 : blk bX3_two 171 = some ([(.iastore, 1, 0, 0, 0), (.iinc 4 1, 3, 1, 0, 0)], some (.goto (-107), 3, 0, 0, 0)) := rfl
theorem bl_X3_two_178 : blk bX3_two 178 = some ([(.aload_n 0, 1, 0, 0, 0)], some (.invokevirtual 239, 3, 86, 1, 2)) := rfl
theorem bl_X3_two_182 : blk bX3_two 182 = some ([], some (.ireturn, 1, 0, 0, 0)) := rfl
theorem bl_X3_waysToBeThere_0 : blk bX3_waysToBeThere 0 = some ([(.iload_n 1, 1, 0, 0, 0)], some (.ifCond .lt 9, 3, 0, 0, 0)) := rfl
theorem bl_X3_waysToBeThere_4 : blk bX3_waysToBeThere 4 = some ([(.iload_n 1, 1, 0, 0, 0), (.aload_n 0, 1, 0, 0, 0), (.arraylength, 1, 0, 0, 0)], some (.if_icmp .lt 5, 3, 0, 0, 0)) := rfl
theorem bl_X3_waysToBeThere_10 : blk bX3_waysToBeThere 10 = some ([(.lconst 0, 1, 0, 0, 0)], some (.lreturn, 1, 0, 0, 0)) := rfl
theorem bl_X3_waysToBeThere_12 : blk bX3_waysToBeThere 12 = some ([(.aload_n 0, 1, 0, 0, 0), (.iload_n 1, 1, 0, 0, 0), (.aaload, 1, 0, 0, 0), (.astore 5, 2, 0, 0, 0), (.aload 5, 2, 0, 0, 0)], some (.ifnull 12, 3, 0, 0, 0)) := rfl
theorem bl_X3_waysToBeThere_22 : blk bX3_waysToBeThere 22 = some ([(.aload 5, 2, 0, 0, 0), (.iload_n 3, 1, 0, 0, 0)], some (.invokevirtual 172, 3, 2, 2, 0)) := rfl
theorem bl_X3_waysToBeThere_28 : blk bX3_waysToBeThere 28 = some ([], some (.ifCond .ne 5, 3, 0, 0, 0)) := rfl
theorem bl_X3_waysToBeThere_31 : blk bX3_waysToBeThere 31 = some ([(.lconst 0, 1, 0, 0, 0)], some (.lreturn, 1, 0, 0, 0)) := rfl
theorem bl_X3_waysToBeThere_33 : blk bX3_waysToBeThere 33 = some ([(.iload_n 1, 1, 0, 0, 0), (.iconst 1, 1, 1, 0, 0), (.iadd, 1, 0, 0, 0), (.istore 6, 2, 0, 0, 0), (.iload_n 1, 1, 0, 0, 0), (.iload_n 2, 1, 0, 0, 0)], some (.if_icmp .ge 10, 3, 0, 0, 0)) := rfl
theorem bl_X3_waysToBeThere_43 : blk bX3_waysToBeThere 43 = some ([(.iload 6, 2, 0, 0, 0), (.aload_n 0, 1, 0, 0, 0), (.arraylength, 1, 0, 0, 0)], some (.if_icmp .lt 5, 3, 0, 0, 0)) := rfl
theorem bl_X3_waysToBeThere_50 : blk bX3_waysToBeThere 50 = some ([(.lconst 1, 1, 1, 0, 0)], some (.lreturn, 1, 0, 0, 0)) := rfl
theorem bl_X3_waysToBeThere_52 : blk bX3_waysToBeThere 52 = some ([(.aload_n 0, 1, 0, 0, 0), (.iload 6, 2, 0, 0, 0), (.aaload, 1, 0, 0, 0), (.astore 7, 2, 0, 0, 0), (.aload 7, 2, 0, 0, 0)], some (.ifnonnull 5, 3, 0, 0, 0)) := rfl
theorem bl_X3_waysToBeThere_63 : blk bX3_waysToBeThere 63 = some ([(.lconst 0, 1, 0, 0, 0)], some (.lreturn, 1, 0, 0, 0)) := rfl
theorem bl_X3_waysToBeThere_65 : blk bX3_waysToBeThere 65 = some ([(.aload 7, 2, 0, 0, 0), (.aload 5, 2, 0, 0, 0)], some (.invokevirtual 66, 3, 0, 2, 0)) := rfl
theorem bl_X3_waysToBeThere_72 : blk bX3_waysToBeThere 72 = some ([(.aload 7, 2, 0, 0, 0), (.iconst 0, 1, 0, 0, 0), (.iconst 1, 1, 1, 0, 0)], some (.invokevirtual 175, 3, 31, 3, 0)) := rfl
theorem bl_X3_waysToBeThere_79 : blk bX3_waysToBeThere 79 = some ([(.pop, 1, 0, 0, 0), (.aload_n 0, 1, 0, 0, 0), (.iload 6, 2, 0, 0, 0), (.iload_n 2, 1, 0, 0, 0), (.iload_n 3, 1, 0, 0, 0), (.iload 4, 2, 0, 0, 0)], some (.invokestatic 244, 3, 88, 5, 0)) := rfl
theorem bl_X3_waysToBeThere_90 : blk bX3_waysToBeThere 90 = some ([(.lstore 8, 2, 0, 0, 0), (.aload 7, 2, 0, 0, 0), (.aload 5, 2, 0, 0, 0)], some (.invokevirtual 66, 3, 0, 2, 0)) := rfl
theorem bl_X3_waysToBeThere_99 : blk bX3_waysToBeThere 99 = some ([(.aload 7, 2, 0, 0, 0), (.iconst 0, 1, 0, 0, 0), (.iconst 0, 1, 0, 0, 0)], some (.invokevirtual 175, 3, 31, 3, 0)) := rfl
theorem bl_X3_waysToBeThere_106 : blk bX3_waysToBeThere 106 = some ([(.pop, 1, 0, 0, 0), (.lload 8, 2, 0, 0, 0), (.iload 4, 2, 0, 0, 0), (.iconst 1, 1, 1, 0, 0), (.isub, 1, 0, 0, 0), (.i2l, 1, 0, 0, 0), (.aload_n 0, 1, 0, 0, 0), (.iload 6, 2, 0, 0, 0), (.iload_n 2, 1, 0, 0, 0), (.iload_n 3, 1, 0, 0, 0), (.iload 4, 2, 0, 0, 0)], some (.invokestatic 244, 3, 88, 5, 0)) := rfl
theorem bl_X3_waysToBeThere_124 : blk bX3_waysToBeThere 124 = some ([(.lmul, 1, 0, 0, 0), (.ladd, 1, 0, 0, 0)], some (.lreturn, 1, 0, 0, 0)) := rfl
theorem bl_X3_partInLeastTerms_0 : blk bX3_partInLeastTerms 0 = some ([(.lload_n 0, 1, 0, 0, 0), (.lconst 0, 1, 0, 0, 0), (.lcmp, 1, 0, 0, 0)], some (.ifCond .ne 14, 3, 0, 0, 0)) := rfl
theorem bl_X3_partInLeastTerms_6 : blk bX3_partInLeastTerms 6 = some ([(.iload 4, 2, 0, 0, 0)], some (.ifCond .ne 7, 3, 0, 0, 0)) := rfl
theorem bl_X3_partInLeastTerms_11 : blk bX3_partInLeastTerms 11 = some ([(.lconst 0, 1, 0, 0, 0)], some (.goto 4, 3, 0, 0, 0)) := rfl
theorem bl_X3_partInLeastTerms_15 : blk bX3_partInLeastTerms 15 = some ([(.lconst 1, 1, 1, 0, 0)], none) := rfl
theorem bl_X3_partInLeastTerms_16 : blk bX3_partInLeastTerms 16 = some ([], some (.lreturn, 1, 0, 0, 0)) := rfl
theorem bl_X3_partInLeastTerms_17 : blk bX3_partInLeastTerms 17 = some ([(.lload_n 0, 1, 0, 0, 0), (.lstore 5, 2, 0, 0, 0), (.lload_n 2, 1, 0, 0, 0), (.lstore 7, 2, 0, 0, 0), (.iconst 0, 1, 0, 0, 0), (.istore 9, 2, 0, 0, 0)], none) := rfl
theorem bl_X3_partInLeastTerms_26 : blk bX3_partInLeastTerms 26 = some ([(.iload 9, 2, 0, 0, 0), (.sipush 1000, 3, 1000, 0, 0)], some (.if_icmp .ge 31, 3, 0, 0, 0)) := rfl
theorem bl_X3_partInLeastTerms_34 : blk bX3_partInLeastTerms 34 = some ([(.lload 7, 2, 0, 0, 0), (.lconst 0, 1, 0, 0, 0), (.lcmp, 1, 0, 0, 0)], some (.ifCond .eq 24, 3, 0, 0, 0)) := rfl
theorem bl_X3_partInLeastTerms_41 : blk bX3_partInLeastTerms 41 = some ([(.lload 5, 2, 0, 0, 0), (.lload 7, 2, 0, 0, 0), (.lrem, 1, 0, 0, 0), (.lstore 10, 2, 0, 0, 0), (.lload 7, 2, 0, 0, 0), (.lstore 5, 2, 0, 0, 0), (.lload 10, 2, 0, 0, 0), (.lstore 7, 2, 0, 0, 0), (.iinc 9 1, 3, 1, 0, 0)], some (.goto (-33), 3, 0, 0, 0)) := rfl
theorem bl_X3_partInLeastTerms_62 : blk bX3_partInLeastTerms 62 = some ([(.iload 4, 2, 0, 0, 0)], some (.ifCond .ne 7, 3, 0, 0, 0)) := rfl
theorem bl_X3_partInLeastTerms_67 : blk bX3_partInLeastTerms 67 = some ([(.lload_n 0, 1, 0, 0, 0)], some (.goto 4, 3, 0, 0, 0)) := rfl
theorem bl_X3_partInLeastTerms_71 : blk bX3_partInLeastTerms 71 = some ([(.lload_n 2, 1, 0, 0, 0)], none) := rfl
theorem bl_X3_partInLeastTerms_72 : blk bX3_partInLeastTerms 72 = some ([(.lstore 9, 2, 0, 0, 0), (.lload 5, 2, 0, 0, 0), (.lconst 0, 1, 0, 0, 0), (.lcmp, 1, 0, 0, 0)], some (.ifCond .ne 8, 3, 0, 0, 0)) := rfl
theorem bl_X3_partInLeastTerms_81 : blk bX3_partInLeastTerms 81 = some ([(.lload 9, 2, 0, 0, 0)], some (.goto 8, 3, 0, 0, 0)) := rfl
theorem bl_X3_partInLeastTerms_86 : blk bX3_partInLeastTerms 86 = some ([(.lload 9, 2, 0, 0, 0), (.lload 5, 2, 0, 0, 0), (.ldiv, 1, 0, 0, 0)], none) := rfl
theorem bl_X3_partInLeastTerms_91 : blk bX3_partInLeastTerms 91 = some ([], some (.lreturn, 1, 0, 0, 0)) := rfl
theorem bl_X3_rain_0 : blk bX3_rain 0 = some ([(.aload_n 0, 1, 0, 0, 0), (.getfield 10, 3, 2, 0, 0), (.iload_n 1, 1, 0, 0, 0)], some (.invokevirtual 87, 3, 1, 2, 0)) := rfl
theorem bl_X3_rain_8 : blk bX3_rain 8 = some ([], some (.ifCond .eq 35, 3, 0, 0, 0)) := rfl
theorem bl_X3_rain_11 : blk bX3_rain 11 = some ([(.iload_n 2, 1, 0, 0, 0)], some (.ifCond .lt 31, 3, 0, 0, 0)) := rfl
theorem bl_X3_rain_15 : blk bX3_rain 15 = some ([(.iload_n 2, 1, 0, 0, 0), (.bipush 7, 2, 7, 0, 0)], some (.if_icmp .gt 25, 3, 0, 0, 0)) := rfl
theorem bl_X3_rain_21 : blk bX3_rain 21 = some ([(.iload_n 3, 1, 0, 0, 0), (.iconst 2, 1, 2, 0, 0)], some (.if_icmp .lt 20, 3, 0, 0, 0)) := rfl
theorem bl_X3_rain_26 : blk bX3_rain 26 = some ([(.iload_n 3, 1, 0, 0, 0), (.bipush 20, 2, 20, 0, 0)], some (.if_icmp .gt 14, 3, 0, 0, 0)) := rfl
theorem bl_X3_rain_32 : blk bX3_rain 32 = some ([(.iload 4, 2, 0, 0, 0)], some (.ifCond .lt 9, 3, 0, 0, 0)) := rfl
theorem bl_X3_rain_37 : blk bX3_rain 37 = some ([(.iload 4, 2, 0, 0, 0), (.iconst 1, 1, 1, 0, 0)], some (.if_icmp .le 7, 3, 0, 0, 0)) := rfl
theorem bl_X3_rain_43 : blk bX3_rain 43 = some ([(.ldc2_w 242, 3, 1000000001, 0, 0)], some (.lreturn, 1, 0, 0, 0)) := rfl
theorem bl_X3_rain_47 : blk bX3_rain 47 = some ([(.aload_n 0, 1, 0, 0, 0), (.getfield 29, 3, 2, 4, 0), (.iconst 0, 1, 0, 0, 0), (.aaload, 1, 0, 0, 0), (.astore 5, 2, 0, 0, 0), (.aload 5, 2, 0, 0, 0)], some (.ifnonnull 7, 3, 0, 0, 0)) := rfl
theorem bl_X3_rain_60 : blk bX3_rain 60 = some ([(.ldc2_w 242, 3, 1000000001, 0, 0)], some (.lreturn, 1, 0, 0, 0)) := rfl
theorem bl_X3_rain_64 : blk bX3_rain 64 = some ([(.aload 5, 2, 0, 0, 0), (.aload_n 0, 1, 0, 0, 0), (.getfield 10, 3, 2, 0, 0)], some (.invokevirtual 66, 3, 0, 2, 0)) := rfl
theorem bl_X3_rain_73 : blk bX3_rain 73 = some ([(.lconst 1, 1, 1, 0, 0), (.lstore 6, 2, 0, 0, 0), (.iconst 0, 1, 0, 0, 0), (.istore 8, 2, 0, 0, 0)], none) := rfl
theorem bl_X3_rain_79 : blk bX3_rain 79 = some ([(.iload 8, 2, 0, 0, 0), (.iload_n 2, 1, 0, 0, 0)], some (.if_icmp .ge 16, 3, 0, 0, 0)) := rfl
theorem bl_X3_rain_85 : blk bX3_rain 85 = some ([(.lload 6, 2, 0, 0, 0), (.iload_n 3, 1, 0, 0, 0), (.i2l, 1, 0, 0, 0), (.lmul, 1, 0, 0, 0), (.lstore 6, 2, 0, 0, 0), (.iinc 8 1, 3, 1, 0, 0)], some (.goto (-16), 3, 0, 0, 0)) := rfl
theorem bl_X3_rain_98 : blk bX3_rain 98 = some ([(.aload_n 0, 1, 0, 0, 0), (.getfield 29, 3, 2, 4, 0), (.iconst 0, 1, 0, 0, 0), (.iload_n 2, 1, 0, 0, 0), (.iload_n 1, 1, 0, 0, 0), (.iload_n 3, 1, 0, 0, 0)], some (.invokestatic 244, 3, 88, 5, 0)) := rfl
theorem bl_X3_rain_109 : blk bX3_rain 109 = some ([(.lload 6, 2, 0, 0, 0), (.iload 4, 2, 0, 0, 0)], some (.invokestatic 248, 3, 89, 3, 0)) := rfl
theorem bl_X3_rain_116 : blk bX3_rain 116 = some ([], some (.lreturn, 1, 0, 0, 0)) := rfl
theorem bl_X3_share_0 : blk bX3_share 0 = some ([(.iload_n 1, 1, 0, 0, 0)], some (.invokestatic 123, 3, 10, 1, 0)) := rfl
theorem bl_X3_share_4 : blk bX3_share 4 = some ([], some (.ifCond .eq 12, 3, 0, 0, 0)) := rfl
theorem bl_X3_share_7 : blk bX3_share 7 = some ([(.iload_n 2, 1, 0, 0, 0)], some (.ifCond .lt 8, 3, 0, 0, 0)) := rfl
theorem bl_X3_share_11 : blk bX3_share 11 = some ([(.iload_n 2, 1, 0, 0, 0), (.iconst 1, 1, 1, 0, 0)], some (.if_icmp .le 7, 3, 0, 0, 0)) := rfl
theorem bl_X3_share_16 : blk bX3_share 16 = some ([(.ldc2_w 242, 3, 1000000001, 0, 0)], some (.lreturn, 1, 0, 0, 0)) := rfl
theorem bl_X3_share_20 : blk bX3_share 20 = some ([(.aload_n 0, 1, 0, 0, 0), (.getfield 10, 3, 2, 0, 0), (.iload_n 1, 1, 0, 0, 0)], some (.invokevirtual 166, 3, 37, 2, 0)) := rfl
theorem bl_X3_share_28 : blk bX3_share 28 = some ([(.istore_n 3, 1, 0, 0, 0), (.iload_n 3, 1, 0, 0, 0), (.i2l, 1, 0, 0, 0), (.iload_n 3, 1, 0, 0, 0), (.aload_n 0, 1, 0, 0, 0), (.getfield 10, 3, 2, 0, 0), (.iconst 1, 1, 1, 0, 0), (.iload_n 1, 1, 0, 0, 0), (.isub, 1, 0, 0, 0)], some (.invokevirtual 166, 3, 37, 2, 0)) := rfl
theorem bl_X3_share_42 : blk bX3_share 42 = some ([(.iadd, 1, 0, 0, 0), (.i2l, 1, 0, 0, 0), (.iload_n 2, 1, 0, 0, 0)], some (.invokestatic 248, 3, 89, 3, 0)) := rfl
theorem bl_X3_share_48 : blk bX3_share 48 = some ([], some (.lreturn, 1, 0, 0, 0)) := rfl
theorem bl_X3_forged_0 : blk bX3_forged 0 = some ([(.aload_n 0, 1, 0, 0, 0), (.iload_n 1, 1, 0, 0, 0)], some (.invokevirtual 51, 3, 57, 2, 2)) := rfl
theorem bl_X3_forged_5 : blk bX3_forged 5 = some ([(.astore_n 2, 1, 0, 0, 0), (.aload_n 2, 1, 0, 0, 0), (.iconst 2, 1, 2, 0, 0)], some (.invokestatic 55, 3, 58, 2, 0)) := rfl
theorem bl_X3_forged_11 : blk bX3_forged 11 = some ([(.istore_n 3, 1, 0, 0, 0), (.aload_n 2, 1, 0, 0, 0)], some (.ifnull 7, 3, 0, 0, 0)) := rfl
theorem bl_X3_forged_16 : blk bX3_forged 16 = some ([(.iload_n 3, 1, 0, 0, 0)], some (.ifCond .eq 5, 3, 0, 0, 0)) := rfl
theorem bl_X3_forged_20 : blk bX3_forged 20 = some ([(.iload_n 3, 1, 0, 0, 0)], some (.ireturn, 1, 0, 0, 0)) := rfl
theorem bl_X3_forged_22 : blk bX3_forged 22 = some ([(.iconst 0, 1, 0, 0, 0), (.istore 4, 2, 0, 0, 0)], none) := rfl
theorem bl_X3_forged_25 : blk bX3_forged 25 = some ([(.iload 4, 2, 0, 0, 0), (.aload_n 2, 1, 0, 0, 0), (.getfield 70, 3, 1, 4, 0)], some (.if_icmp .ge 43, 3, 0, 0, 0)) := rfl
theorem bl_X3_forged_34 : blk bX3_forged 34 = some ([(.aload_n 0, 1, 0, 0, 0), (.getfield 10, 3, 2, 0, 0), (.iload 4, 2, 0, 0, 0)], some (.invokevirtual 87, 3, 1, 2, 0)) := rfl
theorem bl_X3_forged_43 : blk bX3_forged 43 = some ([], some (.ifCond .eq 22, 3, 0, 0, 0)) := rfl
theorem bl_X3_forged_46 : blk bX3_forged 46 = some ([(.aload_n 2, 1, 0, 0, 0), (.iload 4, 2, 0, 0, 0)], some (.invokevirtual 252, 3, 50, 2, 1)) := rfl
theorem bl_X3_forged_52 : blk bX3_forged 52 = some ([(.aload_n 0, 1, 0, 0, 0), (.getfield 10, 3, 2, 0, 0), (.getfield 207, 3, 0, 3, 0), (.iload 4, 2, 0, 0, 0), (.iaload, 1, 0, 0, 0)], some (.if_icmp .eq 6, 3, 0, 0, 0)) := rfl
theorem bl_X3_forged_65 : blk bX3_forged 65 = some ([(.iload 4, 2, 0, 0, 0)], some (.ireturn, 1, 0, 0, 0)) := rfl
theorem bl_X3_forged_68 : blk bX3_forged 68 = some ([(.iinc 4 1, 3, 1, 0, 0)], some (.goto (-46), 3, 0, 0, 0)) := rfl
theorem bl_X3_forged_74 : blk bX3_forged 74 = some ([(.bipush (-4), 2, 4, 1, 0)], some (.ireturn, 1, 0, 0, 0)) := rfl
theorem bl_X3_judge_0 : blk bX3_judge 0 = some ([(.aload_n 0, 1, 0, 0, 0), (.iload_n 1, 1, 0, 0, 0)], some (.invokevirtual 51, 3, 57, 2, 2)) := rfl
theorem bl_X3_judge_5 : blk bX3_judge 5 = some ([(.astore_n 2, 1, 0, 0, 0), (.aload_n 2, 1, 0, 0, 0), (.iconst 2, 1, 2, 0, 0)], some (.invokestatic 55, 3, 58, 2, 0)) := rfl
theorem bl_X3_judge_11 : blk bX3_judge 11 = some ([(.istore_n 3, 1, 0, 0, 0), (.aload_n 2, 1, 0, 0, 0)], some (.ifnull 7, 3, 0, 0, 0)) := rfl
theorem bl_X3_judge_16 : blk bX3_judge 16 = some ([(.iload_n 3, 1, 0, 0, 0)], some (.ifCond .eq 5, 3, 0, 0, 0)) := rfl
theorem bl_X3_judge_20 : blk bX3_judge 20 = some ([(.iload_n 3, 1, 0, 0, 0)], some (.ireturn, 1, 0, 0, 0)) := rfl
theorem bl_X3_judge_22 : blk bX3_judge 22 = some ([(.aload_n 0, 1, 0, 0, 0), (.getfield 33, 3, 2, 5, 0), (.aload_n 0, 1, 0, 0, 0), (.getfield 10, 3, 2, 0, 0)], some (.invokevirtual 66, 3, 0, 2, 0)) := rfl
theorem bl_X3_judge_33 : blk bX3_judge 33 = some ([(.iconst 0, 1, 0, 0, 0), (.istore 4, 2, 0, 0, 0)], none) := rfl
theorem bl_X3_judge_36 : blk bX3_judge 36 = some ([(.iload 4, 2, 0, 0, 0), (.aload_n 2, 1, 0, 0, 0), (.getfield 70, 3, 1, 4, 0)], some (.if_icmp .ge 52, 3, 0, 0, 0)) := rfl
theorem bl_X3_judge_45 : blk bX3_judge 45 = some ([(.iload 4, 2, 0, 0, 0)], some (.ifCond .le 13, 3, 0, 0, 0)) := rfl
theorem bl_X3_judge_50 : blk bX3_judge 50 = some ([(.aload_n 0, 1, 0, 0, 0), (.getfield 33, 3, 2, 5, 0), (.iconst 0, 1, 0, 0, 0), (.iconst 0, 1, 0, 0, 0)], some (.invokevirtual 175, 3, 31, 3, 0)) := rfl
theorem bl_X3_judge_59 : blk bX3_judge 59 = some ([(.pop, 1, 0, 0, 0)], none) := rfl
theorem bl_X3_judge_60 : blk bX3_judge 60 = some ([(.aload_n 2, 1, 0, 0, 0), (.iload 4, 2, 0, 0, 0)], some (.invokevirtual 255, 3, 52, 2, 1)) := rfl
theorem bl_X3_judge_66 : blk bX3_judge 66 = some ([], some (.ifCond .ne 22, 3, 0, 0, 0)) := rfl
theorem bl_X3_judge_69 : blk bX3_judge 69 = some ([(.aload_n 2, 1, 0, 0, 0), (.iload 4, 2, 0, 0, 0)], some (.invokevirtual 252, 3, 50, 2, 1)) := rfl
theorem bl_X3_judge_75 : blk bX3_judge 75 = some ([(.aload_n 0, 1, 0, 0, 0), (.getfield 33, 3, 2, 5, 0)], some (.invokevirtual 153, 3, 34, 1, 0)) := rfl
theorem bl_X3_judge_82 : blk bX3_judge 82 = some ([], some (.if_icmp .eq 6, 3, 0, 0, 0)) := rfl
theorem bl_X3_judge_85 : blk bX3_judge 85 = some ([(.iload 4, 2, 0, 0, 0)], some (.ireturn, 1, 0, 0, 0)) := rfl
theorem bl_X3_judge_88 : blk bX3_judge 88 = some ([(.iinc 4 1, 3, 1, 0, 0)], some (.goto (-55), 3, 0, 0, 0)) := rfl
theorem bl_X3_judge_94 : blk bX3_judge 94 = some ([(.bipush (-4), 2, 4, 1, 0)], some (.ireturn, 1, 0, 0, 0)) := rfl
theorem bl_X3_draw_0 : blk bX3_draw 0 = some ([(.aload_n 0, 1, 0, 0, 0), (.aload_n 0, 1, 0, 0, 0), (.getfield 46, 3, 2, 9, 0), (.ldc_w 325, 3, 1103515245, 0, 0), (.imul, 1, 0, 0, 0), (.sipush 12345, 3, 12345, 0, 0), (.iadd, 1, 0, 0, 0), (.putfield 46, 3, 2, 9, 0), (.iload_n 1, 1, 0, 0, 0)], some (.ifCond .gt 7, 3, 0, 0, 0)) := rfl
theorem bl_X3_draw_20 : blk bX3_draw 20 = some ([(.iconst 0, 1, 0, 0, 0)], some (.goto 17, 3, 0, 0, 0)) := rfl
theorem bl_X3_draw_24 : blk bX3_draw 24 = some ([(.aload_n 0, 1, 0, 0, 0), (.getfield 46, 3, 2, 9, 0), (.ldc_w 326, 3, 2147483647, 0, 0), (.iand, 1, 0, 0, 0), (.ldc_w 327, 3, 65536, 0, 0), (.idiv, 1, 0, 0, 0), (.iload_n 1, 1, 0, 0, 0), (.irem, 1, 0, 0, 0)], none) := rfl
theorem bl_X3_draw_38 : blk bX3_draw 38 = some ([], some (.ireturn, 1, 0, 0, 0)) := rfl
theorem bl_X3_setUpByDraws_0 : blk bX3_setUpByDraws 0 = some ([(.aload_n 0, 1, 0, 0, 0), (.getfield 33, 3, 2, 5, 0), (.aload_n 0, 1, 0, 0, 0), (.getfield 10, 3, 2, 0, 0)], some (.invokevirtual 66, 3, 0, 2, 0)) := rfl
theorem bl_X3_setUpByDraws_11 : blk bX3_setUpByDraws 11 = some ([(.aload_n 0, 1, 0, 0, 0), (.getfield 33, 3, 2, 5, 0)], some (.invokevirtual 328, 3, 15, 1, 0)) := rfl
theorem bl_X3_setUpByDraws_18 : blk bX3_setUpByDraws 18 = some ([(.iconst 0, 1, 0, 0, 0), (.istore_n 1, 1, 0, 0, 0)], none) := rfl
theorem bl_X3_setUpByDraws_20 : blk bX3_setUpByDraws 20 = some ([(.iload_n 1, 1, 0, 0, 0), (.aload_n 0, 1, 0, 0, 0), (.getfield 33, 3, 2, 5, 0), (.getfield 126, 3, 0, 5, 0)], some (.if_icmp .ge 49, 3, 0, 0, 0)) := rfl
theorem bl_X3_setUpByDraws_31 : blk bX3_setUpByDraws 31 = some ([(.aload_n 0, 1, 0, 0, 0), (.bipush 36, 2, 36, 0, 0)], some (.invokevirtual 331, 3, 94, 2, 2)) := rfl
theorem bl_X3_setUpByDraws_37 : blk bX3_setUpByDraws 37 = some ([(.istore_n 2, 1, 0, 0, 0), (.iconst 0, 1, 0, 0, 0), (.istore_n 3, 1, 0, 0, 0)], none) := rfl
theorem bl_X3_setUpByDraws_40 : blk bX3_setUpByDraws 40 = some ([(.iload_n 3, 1, 0, 0, 0), (.bipush 36, 2, 36, 0, 0)], some (.if_icmp .ge 28, 3, 0, 0, 0)) := rfl
theorem bl_X3_setUpByDraws_46 : blk bX3_setUpByDraws 46 = some ([(.aload_n 0, 1, 0, 0, 0), (.getfield 33, 3, 2, 5, 0), (.iload_n 1, 1, 0, 0, 0), (.iload_n 2, 1, 0, 0, 0)], some (.invokevirtual 137, 3, 14, 3, 0)) := rfl
theorem bl_X3_setUpByDraws_55 : blk bX3_setUpByDraws 55 = some ([], some (.ifCond .ne 16, 3, 0, 0, 0)) := rfl
theorem bl_X3_setUpByDraws_58 : blk bX3_setUpByDraws 58 = some ([(.iload_n 2, 1, 0, 0, 0), (.iconst 1, 1, 1, 0, 0), (.iadd, 1, 0, 0, 0), (.bipush 36, 2, 36, 0, 0), (.irem, 1, 0, 0, 0), (.istore_n 2, 1, 0, 0, 0), (.iinc 3 1, 3, 1, 0, 0)], some (.goto (-28), 3, 0, 0, 0)) := rfl
theorem bl_X3_setUpByDraws_71 : blk bX3_setUpByDraws 71 = some ([(.iinc 1 1, 3, 1, 0, 0)], some (.goto (-54), 3, 0, 0, 0)) := rfl
theorem bl_X3_setUpByDraws_77 : blk bX3_setUpByDraws 77 = some ([], some (.return_, 1, 0, 0, 0)) := rfl
theorem bl_X3_games_0 : blk bX3_games 0 = some ([(.iload_n 1, 1, 0, 0, 0), (.iconst 1, 1, 1, 0, 0)], some (.if_icmp .lt 18, 3, 0, 0, 0)) := rfl
theorem bl_X3_games_5 : blk bX3_games 5 = some ([(.iload_n 1, 1, 0, 0, 0), (.bipush 20, 2, 20, 0, 0)], some (.if_icmp .gt 12, 3, 0, 0, 0)) := rfl
theorem bl_X3_games_11 : blk bX3_games 11 = some ([(.iload_n 3, 1, 0, 0, 0)], some (.ifCond .lt 8, 3, 0, 0, 0)) := rfl
theorem bl_X3_games_15 : blk bX3_games 15 = some ([(.iload_n 3, 1, 0, 0, 0), (.iconst 1, 1, 1, 0, 0)], some (.if_icmp .le 5, 3, 0, 0, 0)) := rfl
theorem bl_X3_games_20 : blk bX3_games 20 = some ([(.iconst (-1), 1, 1, 1, 0)], some (.ireturn, 1, 0, 0, 0)) := rfl
theorem bl_X3_games_22 : blk bX3_games 22 = some ([(.aload_n 0, 1, 0, 0, 0), (.iload_n 2, 1, 0, 0, 0), (.putfield 46, 3, 2, 9, 0), (.iconst 0, 1, 0, 0, 0), (.istore 4, 2, 0, 0, 0), (.iconst 0, 1, 0, 0, 0), (.istore 5, 2, 0, 0, 0)], none) := rfl
theorem bl_X3_games_33 : blk bX3_games 33 = some ([(.iload 5, 2, 0, 0, 0), (.iload_n 1, 1, 0, 0, 0)], some (.if_icmp .ge 56, 3, 0, 0, 0)) := rfl
theorem bl_X3_games_39 : blk bX3_games 39 = some ([(.aload_n 0, 1, 0, 0, 0)], some (.invokevirtual 258, 3, 95, 1, 2)) := rfl
theorem bl_X3_games_43 : blk bX3_games 43 = some ([(.aload_n 0, 1, 0, 0, 0), (.getfield 33, 3, 2, 5, 0), (.bipush 16, 2, 16, 0, 0)], some (.invokevirtual 201, 3, 33, 2, 0)) := rfl
theorem bl_X3_games_52 : blk bX3_games 52 = some ([(.iload 4, 2, 0, 0, 0), (.iload_n 3, 1, 0, 0, 0)], some (.ifCond .ne 13, 3, 0, 0, 0)) := rfl
theorem bl_X3_games_58 : blk bX3_games 58 = some ([(.aload_n 0, 1, 0, 0, 0), (.getfield 33, 3, 2, 5, 0)], some (.invokevirtual 153, 3, 34, 1, 0)) := rfl
theorem bl_X3_games_65 : blk bX3_games 65 = some ([], some (.goto 18, 3, 0, 0, 0)) := rfl
theorem bl_X3_games_68 : blk bX3_games 68 = some ([(.aload_n 0, 1, 0, 0, 0), (.getfield 33, 3, 2, 5, 0), (.getfield 163, 3, 0, 7, 0), (.aload_n 0, 1, 0, 0, 0), (.getfield 10, 3, 2, 0, 0), (.getfield 163, 3, 0, 7, 0), (.isub, 1, 0, 0, 0)], none) := rfl
theorem bl_X3_games_83 : blk bX3_games 83 = some ([(.iadd, 1, 0, 0, 0), (.istore 4, 2, 0, 0, 0), (.iinc 5 1, 3, 1, 0, 0)], some (.goto (-56), 3, 0, 0, 0)) := rfl
theorem bl_X3_games_92 : blk bX3_games 92 = some ([(.iload 4, 2, 0, 0, 0)], some (.ireturn, 1, 0, 0, 0)) := rfl
theorem bl_X3_image_0 : blk bX3_image 0 = some ([(.aload_n 0, 1, 0, 0, 0), (.getfield 16, 3, 2, 1, 0), (.aload_n 0, 1, 0, 0, 0), (.getfield 10, 3, 2, 0, 0)], some (.invokevirtual 66, 3, 0, 2, 0)) := rfl
theorem bl_X3_image_11 : blk bX3_image 11 = some ([(.aload_n 0, 1, 0, 0, 0), (.iconst 1, 1, 1, 0, 0), (.putfield 19, 3, 2, 2, 0), (.aload_n 0, 1, 0, 0, 0), (.getfield 10, 3, 2, 0, 0), (.getfield 111, 3, 0, 8, 0)], some (.ireturn, 1, 0, 0, 0)) := rfl
theorem bl_X3_restore_0 : blk bX3_restore 0 = some ([(.aload_n 0, 1, 0, 0, 0), (.getfield 19, 3, 2, 2, 0)], some (.ifCond .ne 6, 3, 0, 0, 0)) := rfl
theorem bl_X3_restore_7 : blk bX3_restore 7 = some ([(.bipush (-3), 2, 3, 1, 0)], some (.ireturn, 1, 0, 0, 0)) := rfl
theorem bl_X3_restore_10 : blk bX3_restore 10 = some ([(.aload_n 0, 1, 0, 0, 0), (.getfield 10, 3, 2, 0, 0), (.aload_n 0, 1, 0, 0, 0), (.getfield 16, 3, 2, 1, 0)], some (.invokevirtual 66, 3, 0, 2, 0)) := rfl
theorem bl_X3_restore_21 : blk bX3_restore 21 = some ([(.aload_n 0, 1, 0, 0, 0), (.getfield 10, 3, 2, 0, 0), (.getfield 111, 3, 0, 8, 0)], some (.ireturn, 1, 0, 0, 0)) := rfl
theorem bl_X3_count_0 : blk bX3_count 0 = some ([(.iload_n 1, 1, 0, 0, 0)], some (.tableswitch 75 0 4 #[35, 43, 51, 59, 67], 35, 0, 0, 0)) := rfl
theorem bl_X3_count_36 : blk bX3_count 36 = some ([(.aload_n 0, 1, 0, 0, 0), (.getfield 10, 3, 2, 0, 0), (.getfield 126, 3, 0, 5, 0)], some (.ireturn, 1, 0, 0, 0)) := rfl
theorem bl_X3_count_44 : blk bX3_count 44 = some ([(.aload_n 0, 1, 0, 0, 0), (.getfield 10, 3, 2, 0, 0), (.getfield 111, 3, 0, 8, 0)], some (.ireturn, 1, 0, 0, 0)) := rfl
theorem bl_X3_count_52 : blk bX3_count 52 = some ([(.aload_n 0, 1, 0, 0, 0), (.getfield 10, 3, 2, 0, 0), (.getfield 144, 3, 0, 6, 0)], some (.ireturn, 1, 0, 0, 0)) := rfl
theorem bl_X3_count_60 : blk bX3_count 60 = some ([(.aload_n 0, 1, 0, 0, 0), (.getfield 10, 3, 2, 0, 0), (.getfield 163, 3, 0, 7, 0)], some (.ireturn, 1, 0, 0, 0)) := rfl
theorem bl_X3_count_68 : blk bX3_count 68 = some ([(.aload_n 0, 1, 0, 0, 0), (.getfield 10, 3, 2, 0, 0)], some (.invokevirtual 160, 3, 35, 1, 0)) := rfl
theorem bl_X3_count_75 : blk bX3_count 75 = some ([], some (.ireturn, 1, 0, 0, 0)) := rfl
theorem bl_X3_count_76 : blk bX3_count 76 = some ([(.iconst (-1), 1, 1, 1, 0)], some (.ireturn, 1, 0, 0, 0)) := rfl
theorem bl_X3_keep_0 : blk bX3_keep 0 = some ([(.aload_n 0, 1, 0, 0, 0), (.iload_n 1, 1, 0, 0, 0)], some (.invokevirtual 51, 3, 57, 2, 2)) := rfl
theorem bl_X3_keep_5 : blk bX3_keep 5 = some ([(.astore 5, 2, 0, 0, 0), (.aload 5, 2, 0, 0, 0)], some (.ifnull 12, 3, 0, 0, 0)) := rfl
theorem bl_X3_keep_12 : blk bX3_keep 12 = some ([(.iload_n 2, 1, 0, 0, 0)], some (.ifCond .lt 8, 3, 0, 0, 0)) := rfl
theorem bl_X3_keep_16 : blk bX3_keep 16 = some ([(.iload_n 2, 1, 0, 0, 0), (.iconst 1, 1, 1, 0, 0)], some (.if_icmp .le 5, 3, 0, 0, 0)) := rfl
theorem bl_X3_keep_21 : blk bX3_keep 21 = some ([(.iconst (-1), 1, 1, 1, 0)], some (.ireturn, 1, 0, 0, 0)) := rfl
theorem bl_X3_keep_23 : blk bX3_keep 23 = some ([(.iload_n 2, 1, 0, 0, 0)], some (.ifCond .ne 11, 3, 0, 0, 0)) := rfl
theorem bl_X3_keep_27 : blk bX3_keep 27 = some ([(.aload 5, 2, 0, 0, 0), (.iconst 0, 1, 0, 0, 0), (.putfield 261, 3, 1, 0, 0), (.iconst 0, 1, 0, 0, 0)], some (.ireturn, 1, 0, 0, 0)) := rfl
theorem bl_X3_keep_35 : blk bX3_keep 35 = some ([(.iload_n 3, 1, 0, 0, 0)], some (.invokestatic 264, 3, 8, 1, 0)) := rfl
theorem bl_X3_keep_39 : blk bX3_keep 39 = some ([], some (.ifCond .eq 11, 3, 0, 0, 0)) := rfl
theorem bl_X3_keep_42 : blk bX3_keep 42 = some ([(.iload 4, 2, 0, 0, 0)], some (.invokestatic 267, 3, 9, 1, 0)) := rfl
theorem bl_X3_keep_47 : blk bX3_keep 47 = some ([], some (.ifCond .ne 5, 3, 0, 0, 0)) := rfl
theorem bl_X3_keep_50 : blk bX3_keep 50 = some ([(.iconst (-1), 1, 1, 1, 0)], some (.ireturn, 1, 0, 0, 0)) := rfl
theorem bl_X3_keep_52 : blk bX3_keep 52 = some ([(.aload 5, 2, 0, 0, 0), (.iconst 1, 1, 1, 0, 0), (.putfield 261, 3, 1, 0, 0), (.aload 5, 2, 0, 0, 0), (.iload_n 3, 1, 0, 0, 0), (.putfield 129, 3, 1, 1, 0), (.aload 5, 2, 0, 0, 0), (.iload 4, 2, 0, 0, 0), (.putfield 131, 3, 1, 2, 0), (.iconst 0, 1, 0, 0, 0)], some (.ireturn, 1, 0, 0, 0)) := rfl
theorem bl_X3_row_0 : blk bX3_row 0 = some ([(.aload_n 0, 1, 0, 0, 0), (.iload_n 1, 1, 0, 0, 0)], some (.invokevirtual 51, 3, 57, 2, 2)) := rfl
theorem bl_X3_row_5 : blk bX3_row 5 = some ([(.astore 4, 2, 0, 0, 0), (.aload 4, 2, 0, 0, 0)], some (.ifnull 18, 3, 0, 0, 0)) := rfl
theorem bl_X3_row_12 : blk bX3_row 12 = some ([(.iload_n 2, 1, 0, 0, 0)], some (.ifCond .lt 14, 3, 0, 0, 0)) := rfl
theorem bl_X3_row_16 : blk bX3_row 16 = some ([(.iload_n 2, 1, 0, 0, 0), (.iconst 2, 1, 2, 0, 0)], some (.if_icmp .gt 9, 3, 0, 0, 0)) := rfl
theorem bl_X3_row_21 : blk bX3_row 21 = some ([(.iload_n 3, 1, 0, 0, 0), (.bipush 100, 2, 100, 0, 0)], some (.if_icmp .le 5, 3, 0, 0, 0)) := rfl
theorem bl_X3_row_27 : blk bX3_row 27 = some ([(.iconst (-1), 1, 1, 1, 0)], some (.ireturn, 1, 0, 0, 0)) := rfl
theorem bl_X3_row_29 : blk bX3_row 29 = some ([(.iload_n 3, 1, 0, 0, 0)], some (.ifCond .ge 6, 3, 0, 0, 0)) := rfl
theorem bl_X3_row_33 : blk bX3_row 33 = some ([(.bipush (-14), 2, 14, 1, 0)], some (.ireturn, 1, 0, 0, 0)) := rfl
theorem bl_X3_row_36 : blk bX3_row 36 = some ([(.aload 4, 2, 0, 0, 0), (.iload_n 2, 1, 0, 0, 0), (.iload_n 3, 1, 0, 0, 0)], some (.invokevirtual 270, 3, 47, 3, 1)) := rfl
theorem bl_X3_row_43 : blk bX3_row 43 = some ([(.iconst 0, 1, 0, 0, 0)], some (.ireturn, 1, 0, 0, 0)) := rfl
theorem bl_X3_put_0 : blk bX3_put 0 = some ([(.aload_n 0, 1, 0, 0, 0), (.iload_n 1, 1, 0, 0, 0)], some (.invokevirtual 51, 3, 57, 2, 2)) := rfl
theorem bl_X3_put_5 : blk bX3_put 5 = some ([(.astore 4, 2, 0, 0, 0), (.aload 4, 2, 0, 0, 0), (.iconst 2, 1, 2, 0, 0)], some (.invokestatic 55, 3, 58, 2, 0)) := rfl
theorem bl_X3_put_13 : blk bX3_put 13 = some ([(.istore 5, 2, 0, 0, 0), (.aload 4, 2, 0, 0, 0)], some (.ifnull 8, 3, 0, 0, 0)) := rfl
theorem bl_X3_put_20 : blk bX3_put 20 = some ([(.iload 5, 2, 0, 0, 0)], some (.ifCond .eq 6, 3, 0, 0, 0)) := rfl
theorem bl_X3_put_25 : blk bX3_put 25 = some ([(.iload 5, 2, 0, 0, 0)], some (.ireturn, 1, 0, 0, 0)) := rfl
theorem bl_X3_put_28 : blk bX3_put 28 = some ([(.aload 4, 2, 0, 0, 0), (.iload_n 2, 1, 0, 0, 0), (.iload_n 3, 1, 0, 0, 0)], some (.invokevirtual 274, 3, 51, 3, 1)) := rfl
theorem bl_X3_put_35 : blk bX3_put 35 = some ([], some (.ifCond .eq 7, 3, 0, 0, 0)) := rfl
theorem bl_X3_put_38 : blk bX3_put 38 = some ([(.iconst 0, 1, 0, 0, 0)], some (.goto 5, 3, 0, 0, 0)) := rfl
theorem bl_X3_put_42 : blk bX3_put 42 = some ([(.bipush (-13), 2, 13, 1, 0)], none) := rfl
theorem bl_X3_put_44 : blk bX3_put 44 = some ([], some (.ireturn, 1, 0, 0, 0)) := rfl
theorem bl_X3_copy_0 : blk bX3_copy 0 = some ([(.aload_n 0, 1, 0, 0, 0), (.iload_n 1, 1, 0, 0, 0)], some (.invokevirtual 51, 3, 57, 2, 2)) := rfl
theorem bl_X3_copy_5 : blk bX3_copy 5 = some ([(.astore 6, 2, 0, 0, 0), (.aload_n 0, 1, 0, 0, 0), (.iload_n 3, 1, 0, 0, 0)], some (.invokevirtual 51, 3, 57, 2, 2)) := rfl
theorem bl_X3_copy_12 : blk bX3_copy 12 = some ([(.astore 7, 2, 0, 0, 0), (.aload 6, 2, 0, 0, 0)], some (.ifnull 8, 3, 0, 0, 0)) := rfl
theorem bl_X3_copy_19 : blk bX3_copy 19 = some ([(.aload 7, 2, 0, 0, 0)], some (.ifnonnull 5, 3, 0, 0, 0)) := rfl
theorem bl_X3_copy_24 : blk bX3_copy 24 = some ([(.iconst (-1), 1, 1, 1, 0)], some (.ireturn, 1, 0, 0, 0)) := rfl
theorem bl_X3_copy_26 : blk bX3_copy 26 = some ([(.aload 6, 2, 0, 0, 0), (.getfield 261, 3, 1, 0, 0)], some (.ifCond .eq 11, 3, 0, 0, 0)) := rfl
theorem bl_X3_copy_34 : blk bX3_copy 34 = some ([(.aload 7, 2, 0, 0, 0), (.getfield 261, 3, 1, 0, 0)], some (.ifCond .ne 6, 3, 0, 0, 0)) := rfl
theorem bl_X3_copy_42 : blk bX3_copy 42 = some ([(.bipush (-11), 2, 11, 1, 0)], some (.ireturn, 1, 0, 0, 0)) := rfl
theorem bl_X3_copy_45 : blk bX3_copy 45 = some ([(.aload 6, 2, 0, 0, 0), (.getfield 261, 3, 1, 0, 0), (.iconst 2, 1, 2, 0, 0)], some (.if_icmp .ne 25, 3, 0, 0, 0)) := rfl
theorem bl_X3_copy_54 : blk bX3_copy 54 = some ([(.aload 7, 2, 0, 0, 0), (.getfield 261, 3, 1, 0, 0), (.iconst 2, 1, 2, 0, 0)], some (.if_icmp .ne 16, 3, 0, 0, 0)) := rfl
theorem bl_X3_copy_63 : blk bX3_copy 63 = some ([(.aload 6, 2, 0, 0, 0), (.getfield 59, 3, 1, 3, 0), (.aload 7, 2, 0, 0, 0), (.getfield 59, 3, 1, 3, 0)], some (.if_icmp .eq 6, 3, 0, 0, 0)) := rfl
theorem bl_X3_copy_76 : blk bX3_copy 76 = some ([(.bipush (-12), 2, 12, 1, 0)], some (.ireturn, 1, 0, 0, 0)) := rfl
theorem bl_X3_copy_79 : blk bX3_copy 79 = some ([(.aload 6, 2, 0, 0, 0), (.iload_n 2, 1, 0, 0, 0), (.iload 5, 2, 0, 0, 0)], some (.invokevirtual 294, 3, 49, 3, 1)) := rfl
theorem bl_X3_copy_87 : blk bX3_copy 87 = some ([], some (.ifCond .eq 15, 3, 0, 0, 0)) := rfl
theorem bl_X3_copy_90 : blk bX3_copy 90 = some ([(.aload 7, 2, 0, 0, 0), (.iload 4, 2, 0, 0, 0), (.iload 5, 2, 0, 0, 0)], some (.invokevirtual 294, 3, 49, 3, 1)) := rfl
theorem bl_X3_copy_99 : blk bX3_copy 99 = some ([], some (.ifCond .ne 6, 3, 0, 0, 0)) := rfl
theorem bl_X3_copy_102 : blk bX3_copy 102 = some ([(.bipush (-13), 2, 13, 1, 0)], some (.ireturn, 1, 0, 0, 0)) := rfl
theorem bl_X3_copy_105 : blk bX3_copy 105 = some ([(.aload 6, 2, 0, 0, 0), (.getfield 297, 3, 1, 5, 0), (.iload_n 2, 1, 0, 0, 0), (.aload 7, 2, 0, 0, 0), (.getfield 297, 3, 1, 5, 0), (.iload 4, 2, 0, 0, 0), (.iload 5, 2, 0, 0, 0), (.invokestatic 300, 3, 0, 0, 0), (.iload 5, 2, 0, 0, 0)], some (.ireturn, 1, 0, 0, 0)) := rfl
theorem bl_X3_cost_0 : blk bX3_cost 0 = some ([(.aload_n 0, 1, 0, 0, 0), (.iload_n 1, 1, 0, 0, 0)], some (.invokevirtual 51, 3, 57, 2, 2)) := rfl
theorem bl_X3_cost_5 : blk bX3_cost 5 = some ([(.astore_n 2, 1, 0, 0, 0), (.aload_n 2, 1, 0, 0, 0), (.iconst 1, 1, 1, 0, 0)], some (.invokestatic 55, 3, 58, 2, 0)) := rfl
theorem bl_X3_cost_11 : blk bX3_cost 11 = some ([(.istore_n 3, 1, 0, 0, 0), (.aload_n 2, 1, 0, 0, 0)], some (.ifnull 7, 3, 0, 0, 0)) := rfl
theorem bl_X3_cost_16 : blk bX3_cost 16 = some ([(.iload_n 3, 1, 0, 0, 0)], some (.ifCond .eq 7, 3, 0, 0, 0)) := rfl
theorem bl_X3_cost_20 : blk bX3_cost 20 = some ([(.iload_n 3, 1, 0, 0, 0)], some (.goto 14, 3, 0, 0, 0)) := rfl
theorem bl_X3_cost_24 : blk bX3_cost 24 = some ([(.aload_n 2, 1, 0, 0, 0), (.getfield 129, 3, 1, 1, 0), (.aload_n 2, 1, 0, 0, 0), (.getfield 131, 3, 1, 2, 0)], some (.invokestatic 306, 3, 45, 2, 0)) := rfl
theorem bl_X3_cost_35 : blk bX3_cost 35 = some ([], some (.ireturn, 1, 0, 0, 0)) := rfl
theorem bl_X4_isIn_0 : blk bX4_isIn 0 = some ([(.iload_n 0, 1, 0, 0, 0), (.iload_n 1, 1, 0, 0, 0)], some (.if_icmp .lt 12, 3, 0, 0, 0)) := rfl
theorem bl_X4_isIn_5 : blk bX4_isIn 5 = some ([(.iload_n 0, 1, 0, 0, 0), (.iload_n 2, 1, 0, 0, 0)], some (.if_icmp .gt 7, 3, 0, 0, 0)) := rfl
theorem bl_X4_isIn_10 : blk bX4_isIn 10 = some ([(.iconst 1, 1, 1, 0, 0)], some (.goto 4, 3, 0, 0, 0)) := rfl
theorem bl_X4_isIn_14 : blk bX4_isIn 14 = some ([(.iconst 0, 1, 0, 0, 0)], none) := rfl
theorem bl_X4_isIn_15 : blk bX4_isIn 15 = some ([], some (.ireturn, 1, 1, 0, 0)) := rfl
theorem bl_X4_sized_0 : blk bX4_sized 0 = some ([(.iload_n 0, 1, 0, 0, 0)], some (.ifCond .ge 8, 3, 0, 0, 0)) := rfl
theorem bl_X4_sized_4 : blk bX4_sized 4 = some ([(.iload_n 0, 1, 0, 0, 0), (.ineg, 1, 0, 0, 0)], some (.goto 4, 3, 0, 0, 0)) := rfl
theorem bl_X4_sized_9 : blk bX4_sized 9 = some ([(.iload_n 0, 1, 0, 0, 0)], none) := rfl
theorem bl_X4_sized_10 : blk bX4_sized 10 = some ([], some (.ireturn, 1, 0, 0, 0)) := rfl
theorem bl_X4_least_0 : blk bX4_least 0 = some ([(.iload_n 0, 1, 0, 0, 0), (.iload_n 1, 1, 0, 0, 0)], some (.if_icmp .ge 7, 3, 0, 0, 0)) := rfl
theorem bl_X4_least_5 : blk bX4_least 5 = some ([(.iload_n 0, 1, 0, 0, 0)], some (.goto 4, 3, 0, 0, 0)) := rfl
theorem bl_X4_least_9 : blk bX4_least 9 = some ([(.iload_n 1, 1, 0, 0, 0)], none) := rfl
theorem bl_X4_least_10 : blk bX4_least 10 = some ([], some (.ireturn, 1, 0, 0, 0)) := rfl
theorem bl_X4_copies_0 : blk bX4_copies 0 = some ([(.iconst 0, 1, 0, 0, 0), (.istore_n 2, 1, 0, 0, 0)], none) := rfl
theorem bl_X4_copies_2 : blk bX4_copies 2 = some ([(.iload_n 2, 1, 0, 0, 0), (.bipush 46, 2, 46, 0, 0)], some (.if_icmp .ge 15, 3, 0, 0, 0)) := rfl
theorem bl_X4_copies_8 : blk bX4_copies 8 = some ([(.aload_n 1, 1, 0, 0, 0), (.iload_n 2, 1, 0, 0, 0), (.aload_n 0, 1, 0, 0, 0), (.iload_n 2, 1, 0, 0, 0), (.iaload, 1, 0, 0, 0), (.iastore, 1, 0, 0, 0), (.iinc 2 1, 3, 1, 0, 0)], some (.goto (-15), 3, 0, 0, 0)) := rfl
theorem bl_X4_copies_20 : blk bX4_copies 20 = some ([], some (.return_, 1, 0, 0, 0)) := rfl
theorem bl_X4_of_0 : blk bX4_of 0 = some ([(.bipush 6, 2, 6, 0, 0), (.iconst 4, 1, 4, 0, 0), (.iload_n 0, 1, 0, 0, 0), (.imul, 1, 0, 0, 0), (.iadd, 1, 0, 0, 0), (.iload_n 1, 1, 0, 0, 0), (.iadd, 1, 0, 0, 0)], some (.ireturn, 1, 0, 0, 0)) := rfl
theorem bl_X4_isPiece_0 : blk bX4_isPiece 0 = some ([(.iload_n 1, 1, 0, 0, 0), (.iconst 0, 1, 0, 0, 0), (.aload_n 0, 1, 0, 0, 0), (.getfield 9, 3, 3, 0, 0), (.iconst 0, 1, 0, 0, 0), (.iaload, 1, 0, 0, 0), (.iconst 1, 1, 1, 0, 0), (.isub, 1, 0, 0, 0)], some (.invokestatic 43, 3, 105, 3, 0)) := rfl
theorem bl_X4_isPiece_13 : blk bX4_isPiece 13 = some ([], some (.ireturn, 1, 1, 0, 0)) := rfl
theorem bl_X4_areTwo_0 : blk bX4_areTwo 0 = some ([(.aload_n 0, 1, 0, 0, 0), (.iload_n 1, 1, 0, 0, 0)], some (.invokevirtual 47, 3, 110, 2, 3)) := rfl
theorem bl_X4_areTwo_5 : blk bX4_areTwo 5 = some ([], some (.ifCond .eq 20, 3, 0, 0, 0)) := rfl
theorem bl_X4_areTwo_8 : blk bX4_areTwo 8 = some ([(.aload_n 0, 1, 0, 0, 0), (.iload_n 2, 1, 0, 0, 0)], some (.invokevirtual 47, 3, 110, 2, 3)) := rfl
theorem bl_X4_areTwo_13 : blk bX4_areTwo 13 = some ([], some (.ifCond .eq 12, 3, 0, 0, 0)) := rfl
theorem bl_X4_areTwo_16 : blk bX4_areTwo 16 = some ([(.iload_n 1, 1, 0, 0, 0), (.iload_n 2, 1, 0, 0, 0)], some (.if_icmp .eq 7, 3, 0, 0, 0)) := rfl
theorem bl_X4_areTwo_21 : blk bX4_areTwo 21 = some ([(.iconst 1, 1, 1, 0, 0)], some (.goto 4, 3, 0, 0, 0)) := rfl
theorem bl_X4_areTwo_25 : blk bX4_areTwo 25 = some ([(.iconst 0, 1, 0, 0, 0)], none) := rfl
theorem bl_X4_areTwo_26 : blk bX4_areTwo 26 = some ([], some (.ireturn, 1, 1, 0, 0)) := rfl
theorem bl_X4_isSquare_0 : blk bX4_isSquare 0 = some ([(.iload_n 0, 1, 0, 0, 0), (.iconst 0, 1, 0, 0, 0), (.bipush 35, 2, 35, 0, 0)], some (.invokestatic 43, 3, 105, 3, 0)) := rfl
theorem bl_X4_isSquare_7 : blk bX4_isSquare 7 = some ([], some (.ireturn, 1, 1, 0, 0)) := rfl
theorem bl_X4_isSide_0 : blk bX4_isSide 0 = some ([(.iload_n 0, 1, 0, 0, 0), (.iconst 0, 1, 0, 0, 0), (.iconst 1, 1, 1, 0, 0)], some (.invokestatic 43, 3, 105, 3, 0)) := rfl
theorem bl_X4_isSide_6 : blk bX4_isSide 6 = some ([], some (.ireturn, 1, 1, 0, 0)) := rfl
theorem bl_X4_isHere_0 : blk bX4_isHere 0 = some ([(.aload_n 0, 1, 0, 0, 0), (.iload_n 1, 1, 0, 0, 0), (.iconst 3, 1, 3, 0, 0)], some (.invokestatic 51, 3, 109, 2, 0)) := rfl
theorem bl_X4_isHere_6 : blk bX4_isHere 6 = some ([(.iaload, 1, 0, 0, 0)], some (.ifCond .lt 7, 3, 0, 0, 0)) := rfl
theorem bl_X4_isHere_10 : blk bX4_isHere 10 = some ([(.iconst 1, 1, 1, 0, 0)], some (.goto 4, 3, 0, 0, 0)) := rfl
theorem bl_X4_isHere_14 : blk bX4_isHere 14 = some ([(.iconst 0, 1, 0, 0, 0)], none) := rfl
theorem bl_X4_isHere_15 : blk bX4_isHere 15 = some ([], some (.ireturn, 1, 1, 0, 0)) := rfl
theorem bl_X4_has_0 : blk bX4_has 0 = some ([(.iload_n 0, 1, 0, 0, 0), (.iload_n 1, 1, 0, 0, 0), (.ishr, 1, 0, 0, 0), (.iconst 1, 1, 1, 0, 0), (.iand, 1, 0, 0, 0), (.iconst 1, 1, 1, 0, 0)], some (.if_icmp .ne 7, 3, 0, 0, 0)) := rfl
theorem bl_X4_has_9 : blk bX4_has 9 = some ([(.iconst 1, 1, 1, 0, 0)], some (.goto 4, 3, 0, 0, 0)) := rfl
theorem bl_X4_has_13 : blk bX4_has 13 = some ([(.iconst 0, 1, 0, 0, 0)], none) := rfl
theorem bl_X4_has_14 : blk bX4_has 14 = some ([], some (.ireturn, 1, 1, 0, 0)) := rfl
theorem bl_X4_bits_0 : blk bX4_bits 0 = some ([(.iconst 0, 1, 0, 0, 0), (.istore_n 1, 1, 0, 0, 0), (.iconst 0, 1, 0, 0, 0), (.istore_n 2, 1, 0, 0, 0)], none) := rfl
theorem bl_X4_bits_4 : blk bX4_bits 4 = some ([(.iload_n 2, 1, 0, 0, 0), (.bipush 10, 2, 10, 0, 0)], some (.if_icmp .ge 17, 3, 0, 0, 0)) := rfl
theorem bl_X4_bits_10 : blk bX4_bits 10 = some ([(.iload_n 1, 1, 0, 0, 0), (.iload_n 0, 1, 0, 0, 0), (.iload_n 2, 1, 0, 0, 0), (.ishr, 1, 0, 0, 0), (.iconst 1, 1, 1, 0, 0), (.iand, 1, 0, 0, 0), (.iadd, 1, 0, 0, 0), (.istore_n 1, 1, 0, 0, 0), (.iinc 2 1, 3, 1, 0, 0)], some (.goto (-17), 3, 0, 0, 0)) := rfl
theorem bl_X4_bits_24 : blk bX4_bits 24 = some ([(.iload_n 1, 1, 0, 0, 0)], some (.ireturn, 1, 0, 0, 0)) := rfl
theorem bl_X4_onSquare_0 : blk bX4_onSquare 0 = some ([(.iconst 0, 1, 0, 0, 0), (.istore_n 2, 1, 0, 0, 0)], none) := rfl
theorem bl_X4_onSquare_2 : blk bX4_onSquare 2 = some ([(.iload_n 2, 1, 0, 0, 0), (.aload_n 0, 1, 0, 0, 0), (.iconst 0, 1, 0, 0, 0), (.iaload, 1, 0, 0, 0)], some (.if_icmp .ge 22, 3, 0, 0, 0)) := rfl
theorem bl_X4_onSquare_9 : blk bX4_onSquare 9 = some ([(.aload_n 0, 1, 0, 0, 0), (.iload_n 2, 1, 0, 0, 0), (.iconst 3, 1, 3, 0, 0)], some (.invokestatic 51, 3, 109, 2, 0)) := rfl
theorem bl_X4_onSquare_15 : blk bX4_onSquare 15 = some ([(.iaload, 1, 0, 0, 0), (.iload_n 1, 1, 0, 0, 0)], some (.if_icmp .ne 5, 3, 0, 0, 0)) := rfl
theorem bl_X4_onSquare_20 : blk bX4_onSquare 20 = some ([(.iload_n 2, 1, 0, 0, 0)], some (.ireturn, 1, 0, 0, 0)) := rfl
theorem bl_X4_onSquare_22 : blk bX4_onSquare 22 = some ([(.iinc 2 1, 3, 1, 0, 0)], some (.goto (-23), 3, 0, 0, 0)) := rfl
theorem bl_X4_onSquare_28 : blk bX4_onSquare 28 = some ([(.iconst (-1), 1, 1, 1, 0)], some (.ireturn, 1, 0, 0, 0)) := rfl
theorem bl_X4_squareOn_0 : blk bX4_squareOn 0 = some ([(.iload_n 0, 1, 0, 0, 0), (.bipush 6, 2, 6, 0, 0), (.idiv, 1, 0, 0, 0), (.iload_n 1, 1, 0, 0, 0), (.iadd, 1, 0, 0, 0), (.istore_n 3, 1, 0, 0, 0), (.iload_n 0, 1, 0, 0, 0), (.bipush 6, 2, 6, 0, 0), (.irem, 1, 0, 0, 0), (.iload_n 2, 1, 0, 0, 0), (.iadd, 1, 0, 0, 0), (.istore 4, 2, 0, 0, 0), (.iload_n 3, 1, 0, 0, 0), (.iconst 0, 1, 0, 0, 0), (.iconst 5, 1, 5, 0, 0)], some (.invokestatic 43, 3, 105, 3, 0)) := rfl
theorem bl_X4_squareOn_21 : blk bX4_squareOn 21 = some ([], some (.ifCond .eq 23, 3, 0, 0, 0)) := rfl
theorem bl_X4_squareOn_24 : blk bX4_squareOn 24 = some ([(.iload 4, 2, 0, 0, 0), (.iconst 0, 1, 0, 0, 0), (.iconst 5, 1, 5, 0, 0)], some (.invokestatic 43, 3, 105, 3, 0)) := rfl
theorem bl_X4_squareOn_31 : blk bX4_squareOn 31 = some ([], some (.ifCond .eq 13, 3, 0, 0, 0)) := rfl
theorem bl_X4_squareOn_34 : blk bX4_squareOn 34 = some ([(.bipush 6, 2, 6, 0, 0), (.iload_n 3, 1, 0, 0, 0), (.imul, 1, 0, 0, 0), (.iload 4, 2, 0, 0, 0), (.iadd, 1, 0, 0, 0)], some (.goto 5, 3, 0, 0, 0)) := rfl
theorem bl_X4_squareOn_44 : blk bX4_squareOn 44 = some ([(.bipush (-2), 2, 2, 1, 0)], none) := rfl
theorem bl_X4_squareOn_46 : blk bX4_squareOn 46 = some ([], some (.ireturn, 1, 0, 0, 0)) := rfl
theorem bl_X4_isFree_0 : blk bX4_isFree 0 = some ([(.iload_n 1, 1, 0, 0, 0)], some (.ifCond .lt 15, 3, 0, 0, 0)) := rfl
theorem bl_X4_isFree_4 : blk bX4_isFree 4 = some ([(.aload_n 0, 1, 0, 0, 0), (.iload_n 1, 1, 0, 0, 0)], some (.invokestatic 55, 3, 117, 2, 0)) := rfl
theorem bl_X4_isFree_9 : blk bX4_isFree 9 = some ([], some (.ifCond .ge 7, 3, 0, 0, 0)) := rfl
theorem bl_X4_isFree_12 : blk bX4_isFree 12 = some ([(.iconst 1, 1, 1, 0, 0)], some (.goto 4, 3, 0, 0, 0)) := rfl
theorem bl_X4_isFree_16 : blk bX4_isFree 16 = some ([(.iconst 0, 1, 0, 0, 0)], none) := rfl
theorem bl_X4_isFree_17 : blk bX4_isFree 17 = some ([], some (.ireturn, 1, 1, 0, 0)) := rfl
theorem bl_X4_isOfSide_0 : blk bX4_isOfSide 0 = some ([(.iload_n 1, 1, 0, 0, 0)], some (.ifCond .ge 7, 3, 0, 0, 0)) := rfl
theorem bl_X4_isOfSide_4 : blk bX4_isOfSide 4 = some ([(.iconst (-1), 1, 1, 1, 0)], some (.goto 8, 3, 0, 0, 0)) := rfl
theorem bl_X4_isOfSide_8 : blk bX4_isOfSide 8 = some ([(.aload_n 0, 1, 0, 0, 0), (.iload_n 1, 1, 0, 0, 0)], some (.invokestatic 55, 3, 117, 2, 0)) := rfl
theorem bl_X4_isOfSide_13 : blk bX4_isOfSide 13 = some ([(.istore_n 3, 1, 0, 0, 0), (.iload_n 3, 1, 0, 0, 0)], some (.ifCond .lt 18, 3, 0, 0, 0)) := rfl
theorem bl_X4_isOfSide_18 : blk bX4_isOfSide 18 = some ([(.aload_n 0, 1, 0, 0, 0), (.iload_n 3, 1, 0, 0, 0), (.iconst 2, 1, 2, 0, 0)], some (.invokestatic 51, 3, 109, 2, 0)) := rfl
theorem bl_X4_isOfSide_24 : blk bX4_isOfSide 24 = some ([(.iaload, 1, 0, 0, 0), (.iload_n 2, 1, 0, 0, 0)], some (.if_icmp .ne 7, 3, 0, 0, 0)) := rfl
theorem bl_X4_isOfSide_29 : blk bX4_isOfSide 29 = some ([(.iconst 1, 1, 1, 0, 0)], some (.goto 4, 3, 0, 0, 0)) := rfl
theorem bl_X4_isOfSide_33 : blk bX4_isOfSide 33 = some ([(.iconst 0, 1, 0, 0, 0)], none) := rfl
theorem bl_X4_isOfSide_34 : blk bX4_isOfSide 34 = some ([], some (.ireturn, 1, 1, 0, 0)) := rfl
theorem bl_X4_farOf_0 : blk bX4_farOf 0 = some ([(.iload_n 0, 1, 0, 0, 0), (.bipush 6, 2, 6, 0, 0), (.idiv, 1, 0, 0, 0), (.iload_n 1, 1, 0, 0, 0), (.bipush 6, 2, 6, 0, 0), (.idiv, 1, 0, 0, 0), (.isub, 1, 0, 0, 0)], some (.invokestatic 59, 3, 106, 1, 0)) := rfl
theorem bl_X4_farOf_12 : blk bX4_farOf 12 = some ([(.istore_n 2, 1, 0, 0, 0), (.iload_n 0, 1, 0, 0, 0), (.bipush 6, 2, 6, 0, 0), (.irem, 1, 0, 0, 0), (.iload_n 1, 1, 0, 0, 0), (.bipush 6, 2, 6, 0, 0), (.irem, 1, 0, 0, 0), (.isub, 1, 0, 0, 0)], some (.invokestatic 59, 3, 106, 1, 0)) := rfl
theorem bl_X4_farOf_25 : blk bX4_farOf 25 = some ([(.istore_n 3, 1, 0, 0, 0), (.iload_n 2, 1, 0, 0, 0), (.iload_n 3, 1, 0, 0, 0)], some (.if_icmp .le 7, 3, 0, 0, 0)) := rfl
theorem bl_X4_farOf_31 : blk bX4_farOf 31 = some ([(.iload_n 2, 1, 0, 0, 0)], some (.goto 4, 3, 0, 0, 0)) := rfl
theorem bl_X4_farOf_35 : blk bX4_farOf 35 = some ([(.iload_n 3, 1, 0, 0, 0)], none) := rfl
theorem bl_X4_farOf_36 : blk bX4_farOf 36 = some ([], some (.ireturn, 1, 0, 0, 0)) := rfl
theorem bl_X4_forward_0 : blk bX4_forward 0 = some ([(.aload_n 0, 1, 0, 0, 0), (.iload_n 1, 1, 0, 0, 0), (.iconst 2, 1, 2, 0, 0)], some (.invokestatic 51, 3, 109, 2, 0)) := rfl
theorem bl_X4_forward_6 : blk bX4_forward 6 = some ([(.iaload, 1, 0, 0, 0)], some (.ifCond .ne 7, 3, 0, 0, 0)) := rfl
theorem bl_X4_forward_10 : blk bX4_forward 10 = some ([(.iconst 1, 1, 1, 0, 0)], some (.goto 4, 3, 0, 0, 0)) := rfl
theorem bl_X4_forward_14 : blk bX4_forward 14 = some ([(.iconst (-1), 1, 1, 1, 0)], none) := rfl
theorem bl_X4_forward_15 : blk bX4_forward 15 = some ([], some (.ireturn, 1, 0, 0, 0)) := rfl
theorem bl_X4_pawnIdea_0 : blk bX4_pawnIdea 0 = some ([(.aload_n 0, 1, 0, 0, 0), (.iload_n 1, 1, 0, 0, 0), (.iconst 3, 1, 3, 0, 0)], some (.invokestatic 51, 3, 109, 2, 0)) := rfl
theorem bl_X4_pawnIdea_6 : blk bX4_pawnIdea 6 = some ([(.iaload, 1, 0, 0, 0), (.istore_n 2, 1, 0, 0, 0), (.iload_n 2, 1, 0, 0, 0), (.aload_n 0, 1, 0, 0, 0), (.iload_n 1, 1, 0, 0, 0)], some (.invokestatic 63, 3, 122, 2, 0)) := rfl
theorem bl_X4_pawnIdea_14 : blk bX4_pawnIdea 14 = some ([(.iconst 0, 1, 0, 0, 0)], some (.invokestatic 66, 3, 118, 3, 0)) := rfl
theorem bl_X4_pawnIdea_18 : blk bX4_pawnIdea 18 = some ([(.istore_n 3, 1, 0, 0, 0), (.iload_n 2, 1, 0, 0, 0), (.aload_n 0, 1, 0, 0, 0), (.iload_n 1, 1, 0, 0, 0)], some (.invokestatic 63, 3, 122, 2, 0)) := rfl
theorem bl_X4_pawnIdea_25 : blk bX4_pawnIdea 25 = some ([(.iconst 1, 1, 1, 0, 0)], some (.invokestatic 66, 3, 118, 3, 0)) := rfl
theorem bl_X4_pawnIdea_29 : blk bX4_pawnIdea 29 = some ([(.istore 4, 2, 0, 0, 0), (.aload_n 0, 1, 0, 0, 0), (.iload_n 3, 1, 0, 0, 0)], some (.invokestatic 70, 3, 119, 2, 0)) := rfl
theorem bl_X4_pawnIdea_36 : blk bX4_pawnIdea 36 = some ([], some (.ifCond .eq 7, 3, 0, 0, 0)) := rfl
theorem bl_X4_pawnIdea_39 : blk bX4_pawnIdea 39 = some ([(.iload_n 3, 1, 0, 0, 0)], some (.goto 28, 3, 0, 0, 0)) := rfl
theorem bl_X4_pawnIdea_43 : blk bX4_pawnIdea 43 = some ([(.aload_n 0, 1, 0, 0, 0), (.iload 4, 2, 0, 0, 0), (.iconst 1, 1, 1, 0, 0), (.aload_n 0, 1, 0, 0, 0), (.iload_n 1, 1, 0, 0, 0), (.iconst 2, 1, 2, 0, 0)], some (.invokestatic 51, 3, 109, 2, 0)) := rfl
theorem bl_X4_pawnIdea_53 : blk bX4_pawnIdea 53 = some ([(.iaload, 1, 0, 0, 0), (.isub, 1, 0, 0, 0)], some (.invokestatic 74, 3, 120, 3, 0)) := rfl
theorem bl_X4_pawnIdea_58 : blk bX4_pawnIdea 58 = some ([], some (.ifCond .eq 8, 3, 0, 0, 0)) := rfl
theorem bl_X4_pawnIdea_61 : blk bX4_pawnIdea 61 = some ([(.iload 4, 2, 0, 0, 0)], some (.goto 5, 3, 0, 0, 0)) := rfl
theorem bl_X4_pawnIdea_66 : blk bX4_pawnIdea 66 = some ([(.bipush (-4), 2, 4, 1, 0)], none) := rfl
theorem bl_X4_pawnIdea_68 : blk bX4_pawnIdea 68 = some ([], some (.ireturn, 1, 0, 0, 0)) := rfl
theorem bl_X4_knightIdea_0 : blk bX4_knightIdea 0 = some ([(.aload_n 0, 1, 0, 0, 0), (.iload_n 1, 1, 0, 0, 0), (.iconst 3, 1, 3, 0, 0)], some (.invokestatic 51, 3, 109, 2, 0)) := rfl
theorem bl_X4_knightIdea_6 : blk bX4_knightIdea 6 = some ([(.iaload, 1, 0, 0, 0), (.istore_n 2, 1, 0, 0, 0), (.iload_n 2, 1, 0, 0, 0), (.iconst 2, 1, 2, 0, 0), (.aload_n 0, 1, 0, 0, 0), (.iload_n 1, 1, 0, 0, 0)], some (.invokestatic 63, 3, 122, 2, 0)) := rfl
theorem bl_X4_knightIdea_15 : blk bX4_knightIdea 15 = some ([(.imul, 1, 0, 0, 0), (.iconst 1, 1, 1, 0, 0)], some (.invokestatic 66, 3, 118, 3, 0)) := rfl
theorem bl_X4_knightIdea_20 : blk bX4_knightIdea 20 = some ([(.istore_n 3, 1, 0, 0, 0), (.iload_n 2, 1, 0, 0, 0), (.iconst 2, 1, 2, 0, 0), (.aload_n 0, 1, 0, 0, 0), (.iload_n 1, 1, 0, 0, 0)], some (.invokestatic 63, 3, 122, 2, 0)) := rfl
theorem bl_X4_knightIdea_28 : blk bX4_knightIdea 28 = some ([(.imul, 1, 0, 0, 0), (.iconst (-1), 1, 1, 1, 0)], some (.invokestatic 66, 3, 118, 3, 0)) := rfl
theorem bl_X4_knightIdea_33 : blk bX4_knightIdea 33 = some ([(.istore 4, 2, 0, 0, 0), (.aload_n 0, 1, 0, 0, 0), (.iload_n 1, 1, 0, 0, 0), (.iconst 2, 1, 2, 0, 0)], some (.invokestatic 51, 3, 109, 2, 0)) := rfl
theorem bl_X4_knightIdea_41 : blk bX4_knightIdea 41 = some ([(.iaload, 1, 0, 0, 0), (.istore 5, 2, 0, 0, 0), (.iload_n 3, 1, 0, 0, 0)], some (.ifCond .lt 17, 3, 0, 0, 0)) := rfl
theorem bl_X4_knightIdea_48 : blk bX4_knightIdea 48 = some ([(.aload_n 0, 1, 0, 0, 0), (.iload_n 3, 1, 0, 0, 0), (.iload 5, 2, 0, 0, 0)], some (.invokestatic 74, 3, 120, 3, 0)) := rfl
theorem bl_X4_knightIdea_55 : blk bX4_knightIdea 55 = some ([], some (.ifCond .ne 7, 3, 0, 0, 0)) := rfl
theorem bl_X4_knightIdea_58 : blk bX4_knightIdea 58 = some ([(.iload_n 3, 1, 0, 0, 0)], some (.goto 26, 3, 0, 0, 0)) := rfl
theorem bl_X4_knightIdea_62 : blk bX4_knightIdea 62 = some ([(.iload 4, 2, 0, 0, 0)], some (.ifCond .lt 19, 3, 0, 0, 0)) := rfl
theorem bl_X4_knightIdea_67 : blk bX4_knightIdea 67 = some ([(.aload_n 0, 1, 0, 0, 0), (.iload 4, 2, 0, 0, 0), (.iload 5, 2, 0, 0, 0)], some (.invokestatic 74, 3, 120, 3, 0)) := rfl
theorem bl_X4_knightIdea_75 : blk bX4_knightIdea 75 = some ([], some (.ifCond .ne 8, 3, 0, 0, 0)) := rfl
theorem bl_X4_knightIdea_78 : blk bX4_knightIdea 78 = some ([(.iload 4, 2, 0, 0, 0)], some (.goto 5, 3, 0, 0, 0)) := rfl
theorem bl_X4_knightIdea_83 : blk bX4_knightIdea 83 = some ([(.bipush (-4), 2, 4, 1, 0)], none) := rfl
theorem bl_X4_knightIdea_85 : blk bX4_knightIdea 85 = some ([], some (.ireturn, 1, 0, 0, 0)) := rfl
theorem bl_X4_slideIdea_0 : blk bX4_slideIdea 0 = some ([(.aload_n 0, 1, 0, 0, 0), (.iload_n 1, 1, 0, 0, 0), (.iconst 3, 1, 3, 0, 0)], some (.invokestatic 51, 3, 109, 2, 0)) := rfl
theorem bl_X4_slideIdea_6 : blk bX4_slideIdea 6 = some ([(.iaload, 1, 0, 0, 0), (.istore 4, 2, 0, 0, 0), (.bipush (-4), 2, 4, 1, 0), (.istore 5, 2, 0, 0, 0), (.iconst 1, 1, 1, 0, 0), (.istore 6, 2, 0, 0, 0)], none) := rfl
theorem bl_X4_slideIdea_16 : blk bX4_slideIdea 16 = some ([(.iload 6, 2, 0, 0, 0), (.bipush 6, 2, 6, 0, 0)], some (.if_icmp .ge 61, 3, 0, 0, 0)) := rfl
theorem bl_X4_slideIdea_23 : blk bX4_slideIdea 23 = some ([(.iload 4, 2, 0, 0, 0), (.iload_n 2, 1, 0, 0, 0), (.iload 6, 2, 0, 0, 0), (.imul, 1, 0, 0, 0), (.iload_n 3, 1, 0, 0, 0), (.iload 6, 2, 0, 0, 0), (.imul, 1, 0, 0, 0)], some (.invokestatic 66, 3, 118, 3, 0)) := rfl
theorem bl_X4_slideIdea_36 : blk bX4_slideIdea 36 = some ([(.istore 7, 2, 0, 0, 0), (.aload_n 0, 1, 0, 0, 0), (.iload 7, 2, 0, 0, 0), (.iconst 1, 1, 1, 0, 0), (.aload_n 0, 1, 0, 0, 0), (.iload_n 1, 1, 0, 0, 0), (.iconst 2, 1, 2, 0, 0)], some (.invokestatic 51, 3, 109, 2, 0)) := rfl
theorem bl_X4_slideIdea_48 : blk bX4_slideIdea 48 = some ([(.iaload, 1, 0, 0, 0), (.isub, 1, 0, 0, 0)], some (.invokestatic 74, 3, 120, 3, 0)) := rfl
theorem bl_X4_slideIdea_53 : blk bX4_slideIdea 53 = some ([], some (.ifCond .eq 6, 3, 0, 0, 0)) := rfl
theorem bl_X4_slideIdea_56 : blk bX4_slideIdea 56 = some ([(.iload 7, 2, 0, 0, 0)], some (.ireturn, 1, 0, 0, 0)) := rfl
theorem bl_X4_slideIdea_59 : blk bX4_slideIdea 59 = some ([(.aload_n 0, 1, 0, 0, 0), (.iload 7, 2, 0, 0, 0)], some (.invokestatic 70, 3, 119, 2, 0)) := rfl
theorem bl_X4_slideIdea_65 : blk bX4_slideIdea 65 = some ([], some (.ifCond .ne 6, 3, 0, 0, 0)) := rfl
theorem bl_X4_slideIdea_68 : blk bX4_slideIdea 68 = some ([(.iload 5, 2, 0, 0, 0)], some (.ireturn, 1, 0, 0, 0)) := rfl
theorem bl_X4_slideIdea_71 : blk bX4_slideIdea 71 = some ([(.iload 7, 2, 0, 0, 0), (.istore 5, 2, 0, 0, 0), (.iinc 6 1, 3, 1, 0, 0)], some (.goto (-62), 3, 0, 0, 0)) := rfl
theorem bl_X4_slideIdea_81 : blk bX4_slideIdea 81 = some ([(.iload 5, 2, 0, 0, 0)], some (.ireturn, 1, 0, 0, 0)) := rfl
theorem bl_X4_bishopIdea_0 : blk bX4_bishopIdea 0 = some ([(.aload_n 0, 1, 0, 0, 0), (.iload_n 1, 1, 0, 0, 0), (.iconst 3, 1, 3, 0, 0)], some (.invokestatic 51, 3, 109, 2, 0)) := rfl
theorem bl_X4_bishopIdea_6 : blk bX4_bishopIdea 6 = some ([(.iaload, 1, 0, 0, 0), (.aload_n 0, 1, 0, 0, 0), (.iload_n 1, 1, 0, 0, 0)], some (.invokestatic 63, 3, 122, 2, 0)) := rfl
theorem bl_X4_bishopIdea_12 : blk bX4_bishopIdea 12 = some ([(.iconst 1, 1, 1, 0, 0)], some (.invokestatic 66, 3, 118, 3, 0)) := rfl
theorem bl_X4_bishopIdea_16 : blk bX4_bishopIdea 16 = some ([(.istore_n 3, 1, 0, 0, 0), (.iload_n 3, 1, 0, 0, 0)], some (.ifCond .lt 36, 3, 0, 0, 0)) := rfl
theorem bl_X4_bishopIdea_21 : blk bX4_bishopIdea 21 = some ([(.aload_n 0, 1, 0, 0, 0), (.iload_n 3, 1, 0, 0, 0), (.aload_n 0, 1, 0, 0, 0), (.iload_n 1, 1, 0, 0, 0), (.iconst 2, 1, 2, 0, 0)], some (.invokestatic 51, 3, 109, 2, 0)) := rfl
theorem bl_X4_bishopIdea_29 : blk bX4_bishopIdea 29 = some ([(.iaload, 1, 0, 0, 0)], some (.invokestatic 74, 3, 120, 3, 0)) := rfl
theorem bl_X4_bishopIdea_33 : blk bX4_bishopIdea 33 = some ([], some (.ifCond .ne 21, 3, 0, 0, 0)) := rfl
theorem bl_X4_bishopIdea_36 : blk bX4_bishopIdea 36 = some ([(.iload_n 2, 1, 0, 0, 0), (.aload_n 0, 1, 0, 0, 0), (.iload_n 1, 1, 0, 0, 0), (.iconst 1, 1, 1, 0, 0)], some (.invokestatic 51, 3, 109, 2, 0)) := rfl
theorem bl_X4_bishopIdea_43 : blk bX4_bishopIdea 43 = some ([(.iaload, 1, 0, 0, 0), (.iconst 2, 1, 2, 0, 0), (.iadd, 1, 0, 0, 0), (.irem, 1, 0, 0, 0)], some (.ifCond .ne 7, 3, 0, 0, 0)) := rfl
theorem bl_X4_bishopIdea_50 : blk bX4_bishopIdea 50 = some ([(.iload_n 3, 1, 0, 0, 0)], some (.goto 5, 3, 0, 0, 0)) := rfl
theorem bl_X4_bishopIdea_54 : blk bX4_bishopIdea 54 = some ([(.bipush (-4), 2, 4, 1, 0)], none) := rfl
theorem bl_X4_bishopIdea_56 : blk bX4_bishopIdea 56 = some ([], some (.ireturn, 1, 0, 0, 0)) := rfl
theorem bl_X4_kingIdea_0 : blk bX4_kingIdea 0 = some ([(.aload_n 0, 1, 0, 0, 0), (.iload_n 1, 1, 0, 0, 0), (.iconst 3, 1, 3, 0, 0)], some (.invokestatic 51, 3, 109, 2, 0)) := rfl
theorem bl_X4_kingIdea_6 : blk bX4_kingIdea 6 = some ([(.iaload, 1, 0, 0, 0), (.aload_n 0, 1, 0, 0, 0), (.iload_n 1, 1, 0, 0, 0)], some (.invokestatic 63, 3, 122, 2, 0)) := rfl
theorem bl_X4_kingIdea_12 : blk bX4_kingIdea 12 = some ([(.ineg, 1, 0, 0, 0), (.iconst 0, 1, 0, 0, 0)], some (.invokestatic 66, 3, 118, 3, 0)) := rfl
theorem bl_X4_kingIdea_17 : blk bX4_kingIdea 17 = some ([(.istore_n 2, 1, 0, 0, 0), (.aload_n 0, 1, 0, 0, 0), (.iload_n 2, 1, 0, 0, 0)], some (.invokestatic 70, 3, 119, 2, 0)) := rfl
theorem bl_X4_kingIdea_23 : blk bX4_kingIdea 23 = some ([], some (.ifCond .ne 6, 3, 0, 0, 0)) := rfl
theorem bl_X4_kingIdea_26 : blk bX4_kingIdea 26 = some ([(.bipush (-4), 2, 4, 1, 0)], some (.ireturn, 1, 0, 0, 0)) := rfl
theorem bl_X4_kingIdea_29 : blk bX4_kingIdea 29 = some ([(.iconst 0, 1, 0, 0, 0), (.istore_n 3, 1, 0, 0, 0)], none) := rfl
theorem bl_X4_kingIdea_31 : blk bX4_kingIdea 31 = some ([(.iload_n 3, 1, 0, 0, 0), (.aload_n 0, 1, 0, 0, 0), (.iconst 0, 1, 0, 0, 0), (.iaload, 1, 0, 0, 0)], some (.if_icmp .ge 57, 3, 0, 0, 0)) := rfl
theorem bl_X4_kingIdea_38 : blk bX4_kingIdea 38 = some ([(.aload_n 0, 1, 0, 0, 0), (.iload_n 3, 1, 0, 0, 0)], some (.invokestatic 78, 3, 114, 2, 0)) := rfl
theorem bl_X4_kingIdea_43 : blk bX4_kingIdea 43 = some ([], some (.ifCond .eq 43, 3, 0, 0, 0)) := rfl
theorem bl_X4_kingIdea_46 : blk bX4_kingIdea 46 = some ([(.aload_n 0, 1, 0, 0, 0), (.iload_n 3, 1, 0, 0, 0), (.iconst 2, 1, 2, 0, 0)], some (.invokestatic 51, 3, 109, 2, 0)) := rfl
theorem bl_X4_kingIdea_52 : blk bX4_kingIdea 52 = some ([(.iaload, 1, 0, 0, 0), (.aload_n 0, 1, 0, 0, 0), (.iload_n 1, 1, 0, 0, 0), (.iconst 2, 1, 2, 0, 0)], some (.invokestatic 51, 3, 109, 2, 0)) := rfl
theorem bl_X4_kingIdea_59 : blk bX4_kingIdea 59 = some ([(.iaload, 1, 0, 0, 0)], some (.if_icmp .eq 26, 3, 0, 0, 0)) := rfl
theorem bl_X4_kingIdea_63 : blk bX4_kingIdea 63 = some ([(.aload_n 0, 1, 0, 0, 0), (.iload_n 3, 1, 0, 0, 0), (.iconst 3, 1, 3, 0, 0)], some (.invokestatic 51, 3, 109, 2, 0)) := rfl
theorem bl_X4_kingIdea_69 : blk bX4_kingIdea 69 = some ([(.iaload, 1, 0, 0, 0), (.aload_n 0, 1, 0, 0, 0), (.iload_n 1, 1, 0, 0, 0), (.iconst 3, 1, 3, 0, 0)], some (.invokestatic 51, 3, 109, 2, 0)) := rfl
theorem bl_X4_kingIdea_76 : blk bX4_kingIdea 76 = some ([(.iaload, 1, 0, 0, 0)], some (.invokestatic 81, 3, 121, 2, 0)) := rfl
theorem bl_X4_kingIdea_80 : blk bX4_kingIdea 80 = some ([(.iconst 1, 1, 1, 0, 0)], some (.if_icmp .gt 5, 3, 0, 0, 0)) := rfl
theorem bl_X4_kingIdea_84 : blk bX4_kingIdea 84 = some ([(.iload_n 2, 1, 0, 0, 0)], some (.ireturn, 1, 0, 0, 0)) := rfl
theorem bl_X4_kingIdea_86 : blk bX4_kingIdea 86 = some ([(.iinc 3 1, 3, 1, 0, 0)], some (.goto (-58), 3, 0, 0, 0)) := rfl
theorem bl_X4_kingIdea_92 : blk bX4_kingIdea 92 = some ([(.bipush (-4), 2, 4, 1, 0)], some (.ireturn, 1, 0, 0, 0)) := rfl
theorem bl_X4_idea_0 : blk bX4_idea 0 = some ([(.aload_n 0, 1, 0, 0, 0), (.iload_n 1, 1, 0, 0, 0)], some (.invokestatic 78, 3, 114, 2, 0)) := rfl
theorem bl_X4_idea_5 : blk bX4_idea 5 = some ([], some (.ifCond .eq 13, 3, 0, 0, 0)) := rfl
theorem bl_X4_idea_8 : blk bX4_idea 8 = some ([(.aload_n 0, 1, 0, 0, 0), (.iconst 4, 1, 4, 0, 0), (.iaload, 1, 0, 0, 0), (.iload_n 1, 1, 0, 0, 0)], some (.invokestatic 84, 3, 115, 2, 0)) := rfl
theorem bl_X4_idea_15 : blk bX4_idea 15 = some ([], some (.ifCond .eq 6, 3, 0, 0, 0)) := rfl
theorem bl_X4_idea_18 : blk bX4_idea 18 = some ([(.bipush (-4), 2, 4, 1, 0)], some (.ireturn, 1, 0, 0, 0)) := rfl
theorem bl_X4_idea_21 : blk bX4_idea 21 = some ([(.aload_n 0, 1, 0, 0, 0), (.iload_n 1, 1, 0, 0, 0)], some (.invokestatic 63, 3, 122, 2, 0)) := rfl
theorem bl_X4_idea_26 : blk bX4_idea 26 = some ([(.istore_n 3, 1, 0, 0, 0), (.aload_n 0, 1, 0, 0, 0), (.iload_n 1, 1, 0, 0, 0), (.iconst 3, 1, 3, 0, 0)], some (.invokestatic 51, 3, 109, 2, 0)) := rfl
theorem bl_X4_idea_33 : blk bX4_idea 33 = some ([(.iaload, 1, 0, 0, 0), (.iconst 0, 1, 0, 0, 0), (.iconst (-1), 1, 1, 1, 0)], some (.invokestatic 66, 3, 118, 3, 0)) := rfl
theorem bl_X4_idea_39 : blk bX4_idea 39 = some ([(.istore 4, 2, 0, 0, 0), (.aload_n 0, 1, 0, 0, 0), (.iload_n 1, 1, 0, 0, 0), (.iconst 0, 1, 0, 0, 0)], some (.invokestatic 51, 3, 109, 2, 0)) := rfl
theorem bl_X4_idea_47 : blk bX4_idea 47 = some ([(.iaload, 1, 0, 0, 0)], some (.tableswitch 120 1 7 #[44, 50, 58, 65, 93, 50, 99], 44, 0, 0, 0)) := rfl
theorem bl_X4_idea_92 : blk bX4_idea 92 = some ([(.aload_n 0, 1, 0, 0, 0), (.iload_n 1, 1, 0, 0, 0)], some (.invokestatic 88, 3, 124, 2, 0)) := rfl
theorem bl_X4_idea_97 : blk bX4_idea 97 = some ([], some (.ireturn, 1, 0, 0, 0)) := rfl
theorem bl_X4_idea_98 : blk bX4_idea 98 = some ([(.aload_n 0, 1, 0, 0, 0), (.iload_n 1, 1, 0, 0, 0), (.iload_n 3, 1, 0, 0, 0), (.iconst 0, 1, 0, 0, 0)], some (.invokestatic 91, 3, 125, 4, 0)) := rfl
theorem bl_X4_idea_105 : blk bX4_idea 105 = some ([], some (.ireturn, 1, 0, 0, 0)) := rfl
theorem bl_X4_idea_106 : blk bX4_idea 106 = some ([(.aload_n 0, 1, 0, 0, 0), (.iload_n 1, 1, 0, 0, 0), (.iload_n 2, 1, 0, 0, 0)], some (.invokestatic 95, 3, 126, 3, 0)) := rfl
theorem bl_X4_idea_112 : blk bX4_idea 112 = some ([], some (.ireturn, 1, 0, 0, 0)) := rfl
theorem bl_X4_idea_113 : blk bX4_idea 113 = some ([(.aload_n 0, 1, 0, 0, 0), (.iload_n 1, 1, 0, 0, 0), (.iload_n 3, 1, 0, 0, 0), (.iconst 0, 1, 0, 0, 0)], some (.invokestatic 91, 3, 125, 4, 0)) := rfl
theorem bl_X4_idea_120 : blk bX4_idea 120 = some ([], some (.ifCond .lt 13, 3, 0, 0, 0)) := rfl
theorem bl_X4_idea_123 : blk bX4_idea 123 = some ([(.aload_n 0, 1, 0, 0, 0), (.iload_n 1, 1, 0, 0, 0), (.iload_n 3, 1, 0, 0, 0), (.iconst 0, 1, 0, 0, 0)], some (.invokestatic 91, 3, 125, 4, 0)) := rfl
theorem bl_X4_idea_130 : blk bX4_idea 130 = some ([], some (.goto 10, 3, 0, 0, 0)) := rfl
theorem bl_X4_idea_133 : blk bX4_idea 133 = some ([(.aload_n 0, 1, 0, 0, 0), (.iload_n 1, 1, 0, 0, 0), (.iconst 0, 1, 0, 0, 0), (.iconst 1, 1, 1, 0, 0)], some (.invokestatic 91, 3, 125, 4, 0)) := rfl
theorem bl_X4_idea_140 : blk bX4_idea 140 = some ([], some (.ireturn, 1, 0, 0, 0)) := rfl
theorem bl_X4_idea_141 : blk bX4_idea 141 = some ([(.aload_n 0, 1, 0, 0, 0), (.iload_n 1, 1, 0, 0, 0)], some (.invokestatic 99, 3, 127, 2, 0)) := rfl
theorem bl_X4_idea_146 : blk bX4_idea 146 = some ([], some (.ireturn, 1, 0, 0, 0)) := rfl
theorem bl_X4_idea_147 : blk bX4_idea 147 = some ([(.aload_n 0, 1, 0, 0, 0), (.iload 4, 2, 0, 0, 0)], some (.invokestatic 70, 3, 119, 2, 0)) := rfl
theorem bl_X4_idea_153 : blk bX4_idea 153 = some ([], some (.ifCond .eq 8, 3, 0, 0, 0)) := rfl
theorem bl_X4_idea_156 : blk bX4_idea 156 = some ([(.iload 4, 2, 0, 0, 0)], some (.goto 9, 3, 0, 0, 0)) := rfl
theorem bl_X4_idea_161 : blk bX4_idea 161 = some ([(.aload_n 0, 1, 0, 0, 0), (.iload_n 1, 1, 0, 0, 0), (.iload_n 2, 1, 0, 0, 0)], some (.invokestatic 95, 3, 126, 3, 0)) := rfl
theorem bl_X4_idea_167 : blk bX4_idea 167 = some ([], some (.ireturn, 1, 0, 0, 0)) := rfl
theorem bl_X4_idea_168 : blk bX4_idea 168 = some ([(.aload_n 0, 1, 0, 0, 0), (.iload_n 1, 1, 0, 0, 0)], some (.invokestatic 102, 3, 123, 2, 0)) := rfl
theorem bl_X4_idea_173 : blk bX4_idea 173 = some ([], some (.ireturn, 1, 0, 0, 0)) := rfl
theorem bl_X4_earsBy_0 : blk bX4_earsBy 0 = some ([(.iload_n 0, 1, 0, 0, 0)], some (.tableswitch 57 1 7 #[43, 45, 47, 49, 53, 55, 47], 43, 0, 0, 0)) := rfl
theorem bl_X4_earsBy_44 : blk bX4_earsBy 44 = some ([(.iconst 3, 1, 3, 0, 0)], some (.ireturn, 1, 0, 0, 0)) := rfl
theorem bl_X4_earsBy_46 : blk bX4_earsBy 46 = some ([(.iload_n 1, 1, 0, 0, 0)], some (.ireturn, 1, 0, 0, 0)) := rfl
theorem bl_X4_earsBy_48 : blk bX4_earsBy 48 = some ([(.iconst 4, 1, 4, 0, 0)], some (.ireturn, 1, 0, 0, 0)) := rfl
theorem bl_X4_earsBy_50 : blk bX4_earsBy 50 = some ([(.iload_n 1, 1, 0, 0, 0), (.iconst 3, 1, 3, 0, 0), (.iadd, 1, 0, 0, 0)], some (.ireturn, 1, 0, 0, 0)) := rfl
theorem bl_X4_earsBy_54 : blk bX4_earsBy 54 = some ([(.iconst 5, 1, 5, 0, 0)], some (.ireturn, 1, 0, 0, 0)) := rfl
theorem bl_X4_earsBy_56 : blk bX4_earsBy 56 = some ([(.iconst 0, 1, 0, 0, 0)], some (.ireturn, 1, 0, 0, 0)) := rfl
theorem bl_X4_earsBy_58 : blk bX4_earsBy 58 = some ([(.iconst 2, 1, 2, 0, 0)], some (.ireturn, 1, 0, 0, 0)) := rfl
theorem bl_X4_worthBy_0 : blk bX4_worthBy 0 = some ([(.iload_n 0, 1, 0, 0, 0)], some (.tableswitch 58 1 7 #[43, 45, 47, 53, 53, 56, 47], 43, 0, 0, 0)) := rfl
theorem bl_X4_worthBy_44 : blk bX4_worthBy 44 = some ([(.iconst 3, 1, 3, 0, 0)], some (.ireturn, 1, 0, 0, 0)) := rfl
theorem bl_X4_worthBy_46 : blk bX4_worthBy 46 = some ([(.iconst 5, 1, 5, 0, 0)], some (.ireturn, 1, 0, 0, 0)) := rfl
theorem bl_X4_worthBy_48 : blk bX4_worthBy 48 = some ([(.iconst 1, 1, 1, 0, 0), (.iload_n 1, 1, 0, 0, 0), (.iconst 3, 1, 3, 0, 0), (.idiv, 1, 0, 0, 0), (.iadd, 1, 0, 0, 0)], some (.ireturn, 1, 0, 0, 0)) := rfl
theorem bl_X4_worthBy_54 : blk bX4_worthBy 54 = some ([(.bipush 9, 2, 9, 0, 0)], some (.ireturn, 1, 0, 0, 0)) := rfl
theorem bl_X4_worthBy_57 : blk bX4_worthBy 57 = some ([(.iconst 4, 1, 4, 0, 0)], some (.ireturn, 1, 0, 0, 0)) := rfl
theorem bl_X4_worthBy_59 : blk bX4_worthBy 59 = some ([(.iconst 1, 1, 1, 0, 0)], some (.ireturn, 1, 0, 0, 0)) := rfl
theorem bl_X4_doesHear_0 : blk bX4_doesHear 0 = some ([(.iload_n 1, 1, 0, 0, 0), (.iload_n 2, 1, 0, 0, 0)], some (.if_icmp .ne 5, 3, 0, 0, 0)) := rfl
theorem bl_X4_doesHear_5 : blk bX4_doesHear 5 = some ([(.iconst 1, 1, 1, 0, 0)], some (.ireturn, 1, 1, 0, 0)) := rfl
theorem bl_X4_doesHear_7 : blk bX4_doesHear 7 = some ([(.aload_n 0, 1, 0, 0, 0), (.iconst 5, 1, 5, 0, 0), (.iaload, 1, 0, 0, 0), (.iconst 1, 1, 1, 0, 0)], some (.if_icmp .ne 7, 3, 0, 0, 0)) := rfl
theorem bl_X4_doesHear_14 : blk bX4_doesHear 14 = some ([(.iconst 1, 1, 1, 0, 0)], some (.goto 20, 3, 0, 0, 0)) := rfl
theorem bl_X4_doesHear_18 : blk bX4_doesHear 18 = some ([(.aload_n 0, 1, 0, 0, 0), (.iload_n 1, 1, 0, 0, 0), (.iconst 0, 1, 0, 0, 0)], some (.invokestatic 51, 3, 109, 2, 0)) := rfl
theorem bl_X4_doesHear_24 : blk bX4_doesHear 24 = some ([(.iaload, 1, 0, 0, 0), (.aload_n 0, 1, 0, 0, 0), (.iload_n 1, 1, 0, 0, 0), (.iconst 1, 1, 1, 0, 0)], some (.invokestatic 51, 3, 109, 2, 0)) := rfl
theorem bl_X4_doesHear_31 : blk bX4_doesHear 31 = some ([(.iaload, 1, 0, 0, 0)], some (.invokestatic 105, 3, 129, 2, 0)) := rfl
theorem bl_X4_doesHear_35 : blk bX4_doesHear 35 = some ([(.istore_n 3, 1, 0, 0, 0), (.aload_n 0, 1, 0, 0, 0), (.iload_n 1, 1, 0, 0, 0)], some (.invokestatic 78, 3, 114, 2, 0)) := rfl
theorem bl_X4_doesHear_41 : blk bX4_doesHear 41 = some ([], some (.ifCond .eq 53, 3, 0, 0, 0)) := rfl
theorem bl_X4_doesHear_44 : blk bX4_doesHear 44 = some ([(.aload_n 0, 1, 0, 0, 0), (.iload_n 2, 1, 0, 0, 0)], some (.invokestatic 78, 3, 114, 2, 0)) := rfl
theorem bl_X4_doesHear_49 : blk bX4_doesHear 49 = some ([], some (.ifCond .eq 45, 3, 0, 0, 0)) := rfl
theorem bl_X4_doesHear_52 : blk bX4_doesHear 52 = some ([(.aload_n 0, 1, 0, 0, 0), (.iload_n 1, 1, 0, 0, 0), (.iconst 2, 1, 2, 0, 0)], some (.invokestatic 51, 3, 109, 2, 0)) := rfl
theorem bl_X4_doesHear_58 : blk bX4_doesHear 58 = some ([(.iaload, 1, 0, 0, 0), (.aload_n 0, 1, 0, 0, 0), (.iload_n 2, 1, 0, 0, 0), (.iconst 2, 1, 2, 0, 0)], some (.invokestatic 51, 3, 109, 2, 0)) := rfl
theorem bl_X4_doesHear_65 : blk bX4_doesHear 65 = some ([(.iaload, 1, 0, 0, 0)], some (.if_icmp .ne 28, 3, 0, 0, 0)) := rfl
theorem bl_X4_doesHear_69 : blk bX4_doesHear 69 = some ([(.aload_n 0, 1, 0, 0, 0), (.iload_n 1, 1, 0, 0, 0), (.iconst 3, 1, 3, 0, 0)], some (.invokestatic 51, 3, 109, 2, 0)) := rfl
theorem bl_X4_doesHear_75 : blk bX4_doesHear 75 = some ([(.iaload, 1, 0, 0, 0), (.aload_n 0, 1, 0, 0, 0), (.iload_n 2, 1, 0, 0, 0), (.iconst 3, 1, 3, 0, 0)], some (.invokestatic 51, 3, 109, 2, 0)) := rfl
theorem bl_X4_doesHear_82 : blk bX4_doesHear 82 = some ([(.iaload, 1, 0, 0, 0)], some (.invokestatic 81, 3, 121, 2, 0)) := rfl
theorem bl_X4_doesHear_86 : blk bX4_doesHear 86 = some ([(.iload_n 3, 1, 0, 0, 0)], some (.if_icmp .gt 7, 3, 0, 0, 0)) := rfl
theorem bl_X4_doesHear_90 : blk bX4_doesHear 90 = some ([(.iconst 1, 1, 1, 0, 0)], some (.goto 4, 3, 0, 0, 0)) := rfl
theorem bl_X4_doesHear_94 : blk bX4_doesHear 94 = some ([(.iconst 0, 1, 0, 0, 0)], none) := rfl
theorem bl_X4_doesHear_95 : blk bX4_doesHear 95 = some ([], some (.ireturn, 1, 1, 0, 0)) := rfl
theorem bl_X4_heardBy_0 : blk bX4_heardBy 0 = some ([(.iconst 0, 1, 0, 0, 0), (.istore_n 2, 1, 0, 0, 0), (.iconst 0, 1, 0, 0, 0), (.istore_n 3, 1, 0, 0, 0)], none) := rfl
theorem bl_X4_heardBy_4 : blk bX4_heardBy 4 = some ([(.iload_n 3, 1, 0, 0, 0), (.aload_n 0, 1, 0, 0, 0), (.iconst 0, 1, 0, 0, 0), (.iaload, 1, 0, 0, 0)], some (.if_icmp .ge 28, 3, 0, 0, 0)) := rfl
theorem bl_X4_heardBy_11 : blk bX4_heardBy 11 = some ([(.iload_n 2, 1, 0, 0, 0), (.aload_n 0, 1, 0, 0, 0), (.iload_n 3, 1, 0, 0, 0), (.iload_n 1, 1, 0, 0, 0)], some (.invokestatic 108, 3, 131, 3, 0)) := rfl
theorem bl_X4_heardBy_18 : blk bX4_heardBy 18 = some ([], some (.ifCond .eq 9, 3, 0, 0, 0)) := rfl
theorem bl_X4_heardBy_21 : blk bX4_heardBy 21 = some ([(.iconst 1, 1, 1, 0, 0), (.iload_n 3, 1, 0, 0, 0), (.ishl, 1, 0, 0, 0)], some (.goto 4, 3, 0, 0, 0)) := rfl
theorem bl_X4_heardBy_27 : blk bX4_heardBy 27 = some ([(.iconst 0, 1, 0, 0, 0)], none) := rfl
theorem bl_X4_heardBy_28 : blk bX4_heardBy 28 = some ([(.ior, 1, 0, 0, 0), (.istore_n 2, 1, 0, 0, 0), (.iinc 3 1, 3, 1, 0, 0)], some (.goto (-29), 3, 0, 0, 0)) := rfl
theorem bl_X4_heardBy_36 : blk bX4_heardBy 36 = some ([(.iload_n 2, 1, 0, 0, 0)], some (.ireturn, 1, 0, 0, 0)) := rfl
theorem bl_X4_hereIn_0 : blk bX4_hereIn 0 = some ([(.iconst 0, 1, 0, 0, 0), (.istore_n 1, 1, 0, 0, 0), (.iconst 0, 1, 0, 0, 0), (.istore_n 2, 1, 0, 0, 0)], none) := rfl
theorem bl_X4_hereIn_4 : blk bX4_hereIn 4 = some ([(.iload_n 2, 1, 0, 0, 0), (.aload_n 0, 1, 0, 0, 0), (.iconst 0, 1, 0, 0, 0), (.iaload, 1, 0, 0, 0)], some (.if_icmp .ge 27, 3, 0, 0, 0)) := rfl
theorem bl_X4_hereIn_11 : blk bX4_hereIn 11 = some ([(.iload_n 1, 1, 0, 0, 0), (.aload_n 0, 1, 0, 0, 0), (.iload_n 2, 1, 0, 0, 0)], some (.invokestatic 78, 3, 114, 2, 0)) := rfl
theorem bl_X4_hereIn_17 : blk bX4_hereIn 17 = some ([], some (.ifCond .eq 9, 3, 0, 0, 0)) := rfl
theorem bl_X4_hereIn_20 : blk bX4_hereIn 20 = some ([(.iconst 1, 1, 1, 0, 0), (.iload_n 2, 1, 0, 0, 0), (.ishl, 1, 0, 0, 0)], some (.goto 4, 3, 0, 0, 0)) := rfl
theorem bl_X4_hereIn_26 : blk bX4_hereIn 26 = some ([(.iconst 0, 1, 0, 0, 0)], none) := rfl
theorem bl_X4_hereIn_27 : blk bX4_hereIn 27 = some ([(.ior, 1, 0, 0, 0), (.istore_n 1, 1, 0, 0, 0), (.iinc 2 1, 3, 1, 0, 0)], some (.goto (-28), 3, 0, 0, 0)) := rfl
theorem bl_X4_hereIn_35 : blk bX4_hereIn 35 = some ([(.iload_n 1, 1, 0, 0, 0)], some (.ireturn, 1, 0, 0, 0)) := rfl
theorem bl_X4_ofSide_0 : blk bX4_ofSide 0 = some ([(.iconst 0, 1, 0, 0, 0), (.istore_n 2, 1, 0, 0, 0), (.iconst 0, 1, 0, 0, 0), (.istore_n 3, 1, 0, 0, 0)], none) := rfl
theorem bl_X4_ofSide_4 : blk bX4_ofSide 4 = some ([(.iload_n 3, 1, 0, 0, 0), (.aload_n 0, 1, 0, 0, 0), (.iconst 0, 1, 0, 0, 0), (.iaload, 1, 0, 0, 0)], some (.if_icmp .ge 38, 3, 0, 0, 0)) := rfl
theorem bl_X4_ofSide_11 : blk bX4_ofSide 11 = some ([(.iload_n 2, 1, 0, 0, 0), (.aload_n 0, 1, 0, 0, 0), (.iload_n 3, 1, 0, 0, 0)], some (.invokestatic 78, 3, 114, 2, 0)) := rfl
theorem bl_X4_ofSide_17 : blk bX4_ofSide 17 = some ([], some (.ifCond .eq 20, 3, 0, 0, 0)) := rfl
theorem bl_X4_ofSide_20 : blk bX4_ofSide 20 = some ([(.aload_n 0, 1, 0, 0, 0), (.iload_n 3, 1, 0, 0, 0), (.iconst 2, 1, 2, 0, 0)], some (.invokestatic 51, 3, 109, 2, 0)) := rfl
theorem bl_X4_ofSide_26 : blk bX4_ofSide 26 = some ([(.iaload, 1, 0, 0, 0), (.iload_n 1, 1, 0, 0, 0)], some (.if_icmp .ne 9, 3, 0, 0, 0)) := rfl
theorem bl_X4_ofSide_31 : blk bX4_ofSide 31 = some ([(.iconst 1, 1, 1, 0, 0), (.iload_n 3, 1, 0, 0, 0), (.ishl, 1, 0, 0, 0)], some (.goto 4, 3, 0, 0, 0)) := rfl
theorem bl_X4_ofSide_37 : blk bX4_ofSide 37 = some ([(.iconst 0, 1, 0, 0, 0)], none) := rfl
theorem bl_X4_ofSide_38 : blk bX4_ofSide 38 = some ([(.ior, 1, 0, 0, 0), (.istore_n 2, 1, 0, 0, 0), (.iinc 3 1, 3, 1, 0, 0)], some (.goto (-39), 3, 0, 0, 0)) := rfl
theorem bl_X4_ofSide_46 : blk bX4_ofSide 46 = some ([(.iload_n 2, 1, 0, 0, 0)], some (.ireturn, 1, 0, 0, 0)) := rfl
theorem bl_X4_worthOf_0 : blk bX4_worthOf 0 = some ([(.iconst 0, 1, 0, 0, 0), (.istore_n 2, 1, 0, 0, 0), (.iconst 0, 1, 0, 0, 0), (.istore_n 3, 1, 0, 0, 0)], none) := rfl
theorem bl_X4_worthOf_4 : blk bX4_worthOf 4 = some ([(.iload_n 3, 1, 0, 0, 0), (.aload_n 0, 1, 0, 0, 0), (.iconst 0, 1, 0, 0, 0), (.iaload, 1, 0, 0, 0)], some (.if_icmp .ge 41, 3, 0, 0, 0)) := rfl
theorem bl_X4_worthOf_11 : blk bX4_worthOf 11 = some ([(.iload_n 2, 1, 0, 0, 0), (.iload_n 1, 1, 0, 0, 0), (.iload_n 3, 1, 0, 0, 0)], some (.invokestatic 84, 3, 115, 2, 0)) := rfl
theorem bl_X4_worthOf_17 : blk bX4_worthOf 17 = some ([], some (.ifCond .eq 23, 3, 0, 0, 0)) := rfl
theorem bl_X4_worthOf_20 : blk bX4_worthOf 20 = some ([(.aload_n 0, 1, 0, 0, 0), (.iload_n 3, 1, 0, 0, 0), (.iconst 0, 1, 0, 0, 0)], some (.invokestatic 51, 3, 109, 2, 0)) := rfl
theorem bl_X4_worthOf_26 : blk bX4_worthOf 26 = some ([(.iaload, 1, 0, 0, 0), (.aload_n 0, 1, 0, 0, 0), (.iload_n 3, 1, 0, 0, 0), (.iconst 1, 1, 1, 0, 0)], some (.invokestatic 51, 3, 109, 2, 0)) := rfl
theorem bl_X4_worthOf_33 : blk bX4_worthOf 33 = some ([(.iaload, 1, 0, 0, 0)], some (.invokestatic 111, 3, 130, 2, 0)) := rfl
theorem bl_X4_worthOf_37 : blk bX4_worthOf 37 = some ([], some (.goto 4, 3, 0, 0, 0)) := rfl
theorem bl_X4_worthOf_40 : blk bX4_worthOf 40 = some ([(.iconst 0, 1, 0, 0, 0)], none) := rfl
theorem bl_X4_worthOf_41 : blk bX4_worthOf 41 = some ([(.iadd, 1, 0, 0, 0), (.istore_n 2, 1, 0, 0, 0), (.iinc 3 1, 3, 1, 0, 0)], some (.goto (-42), 3, 0, 0, 0)) := rfl
theorem bl_X4_worthOf_49 : blk bX4_worthOf 49 = some ([(.iload_n 2, 1, 0, 0, 0)], some (.ireturn, 1, 0, 0, 0)) := rfl
theorem bl_X4_goesOn_0 : blk bX4_goesOn 0 = some ([(.bipush (-4), 2, 4, 1, 0), (.istore_n 2, 1, 0, 0, 0), (.aload_n 0, 1, 0, 0, 0), (.aload_n 0, 1, 0, 0, 0), (.iconst 2, 1, 2, 0, 0), (.iaload, 1, 0, 0, 0)], some (.invokestatic 114, 3, 134, 2, 0)) := rfl
theorem bl_X4_goesOn_10 : blk bX4_goesOn 10 = some ([(.istore_n 3, 1, 0, 0, 0), (.iconst 0, 1, 0, 0, 0), (.istore 4, 2, 0, 0, 0)], none) := rfl
theorem bl_X4_goesOn_14 : blk bX4_goesOn 14 = some ([(.iload 4, 2, 0, 0, 0), (.aload_n 0, 1, 0, 0, 0), (.iconst 0, 1, 0, 0, 0), (.iaload, 1, 0, 0, 0)], some (.if_icmp .ge 55, 3, 0, 0, 0)) := rfl
theorem bl_X4_goesOn_22 : blk bX4_goesOn 22 = some ([(.iload_n 3, 1, 0, 0, 0), (.iload 4, 2, 0, 0, 0)], some (.invokestatic 84, 3, 115, 2, 0)) := rfl
theorem bl_X4_goesOn_28 : blk bX4_goesOn 28 = some ([], some (.ifCond .eq 40, 3, 0, 0, 0)) := rfl
theorem bl_X4_goesOn_31 : blk bX4_goesOn 31 = some ([(.aload_n 0, 1, 0, 0, 0), (.iload 4, 2, 0, 0, 0), (.iload_n 1, 1, 0, 0, 0)], some (.invokestatic 117, 3, 128, 3, 0)) := rfl
theorem bl_X4_goesOn_38 : blk bX4_goesOn 38 = some ([], some (.ifCond .lt 30, 3, 0, 0, 0)) := rfl
theorem bl_X4_goesOn_41 : blk bX4_goesOn 41 = some ([(.iload_n 2, 1, 0, 0, 0)], some (.ifCond .lt 23, 3, 0, 0, 0)) := rfl
theorem bl_X4_goesOn_45 : blk bX4_goesOn 45 = some ([(.aload_n 0, 1, 0, 0, 0), (.iload 4, 2, 0, 0, 0)], some (.invokestatic 120, 3, 132, 2, 0)) := rfl
theorem bl_X4_goesOn_51 : blk bX4_goesOn 51 = some ([], some (.invokestatic 123, 3, 116, 1, 0)) := rfl
theorem bl_X4_goesOn_54 : blk bX4_goesOn 54 = some ([(.aload_n 0, 1, 0, 0, 0), (.iload_n 2, 1, 0, 0, 0)], some (.invokestatic 120, 3, 132, 2, 0)) := rfl
theorem bl_X4_goesOn_59 : blk bX4_goesOn 59 = some ([], some (.invokestatic 123, 3, 116, 1, 0)) := rfl
theorem bl_X4_goesOn_62 : blk bX4_goesOn 62 = some ([], some (.if_icmp .le 6, 3, 0, 0, 0)) := rfl
theorem bl_X4_goesOn_65 : blk bX4_goesOn 65 = some ([(.iload 4, 2, 0, 0, 0), (.istore_n 2, 1, 0, 0, 0)], none) := rfl
theorem bl_X4_goesOn_68 : blk bX4_goesOn 68 = some ([(.iinc 4 1, 3, 1, 0, 0)], some (.goto (-57), 3, 0, 0, 0)) := rfl
theorem bl_X4_goesOn_74 : blk bX4_goesOn 74 = some ([(.iload_n 2, 1, 0, 0, 0)], some (.ifCond .lt 24, 3, 0, 0, 0)) := rfl
theorem bl_X4_goesOn_78 : blk bX4_goesOn 78 = some ([(.iconst 2, 1, 2, 0, 0), (.aload_n 0, 1, 0, 0, 0), (.iload_n 2, 1, 0, 0, 0)], some (.invokestatic 120, 3, 132, 2, 0)) := rfl
theorem bl_X4_goesOn_84 : blk bX4_goesOn 84 = some ([], some (.invokestatic 123, 3, 116, 1, 0)) := rfl
theorem bl_X4_goesOn_87 : blk bX4_goesOn 87 = some ([(.imul, 1, 0, 0, 0), (.iload_n 3, 1, 0, 0, 0)], some (.invokestatic 123, 3, 116, 1, 0)) := rfl
theorem bl_X4_goesOn_92 : blk bX4_goesOn 92 = some ([], some (.if_icmp .le 7, 3, 0, 0, 0)) := rfl
theorem bl_X4_goesOn_95 : blk bX4_goesOn 95 = some ([(.iload_n 2, 1, 0, 0, 0)], some (.goto 5, 3, 0, 0, 0)) := rfl
theorem bl_X4_goesOn_99 : blk bX4_goesOn 99 = some ([(.bipush (-4), 2, 4, 1, 0)], none) := rfl
theorem bl_X4_goesOn_101 : blk bX4_goesOn 101 = some ([], some (.ireturn, 1, 0, 0, 0)) := rfl
theorem bl_X4_day_0 : blk bX4_day 0 = some ([(.aload_n 0, 1, 0, 0, 0), (.iconst 1, 1, 1, 0, 0), (.dup2, 1, 0, 0, 0), (.iaload, 1, 0, 0, 0), (.iconst 1, 1, 1, 0, 0), (.iadd, 1, 0, 0, 0), (.iastore, 1, 0, 0, 0), (.aload_n 0, 1, 0, 0, 0), (.aload_n 0, 1, 0, 0, 0), (.iconst 1, 1, 1, 0, 0), (.iaload, 1, 0, 0, 0)], some (.invokestatic 126, 3, 136, 2, 0)) := rfl
theorem bl_X4_day_14 : blk bX4_day 14 = some ([(.istore_n 1, 1, 0, 0, 0), (.iload_n 1, 1, 0, 0, 0)], some (.ifCond .ge 20, 3, 0, 0, 0)) := rfl
theorem bl_X4_day_19 : blk bX4_day 19 = some ([(.aload_n 0, 1, 0, 0, 0), (.iconst 3, 1, 3, 0, 0), (.sipush 9999, 3, 9999, 0, 0), (.aload_n 0, 1, 0, 0, 0), (.iconst 3, 1, 3, 0, 0), (.iaload, 1, 0, 0, 0), (.iconst 1, 1, 1, 0, 0), (.iadd, 1, 0, 0, 0)], some (.invokestatic 129, 3, 107, 2, 0)) := rfl
theorem bl_X4_day_32 : blk bX4_day 32 = some ([(.iastore, 1, 0, 0, 0)], some (.goto 39, 3, 0, 0, 0)) := rfl
theorem bl_X4_day_36 : blk bX4_day 36 = some ([(.aload_n 0, 1, 0, 0, 0), (.iload_n 1, 1, 0, 0, 0), (.aload_n 0, 1, 0, 0, 0), (.iconst 1, 1, 1, 0, 0), (.iaload, 1, 0, 0, 0)], some (.invokestatic 117, 3, 128, 3, 0)) := rfl
theorem bl_X4_day_44 : blk bX4_day 44 = some ([(.istore_n 2, 1, 0, 0, 0), (.aload_n 0, 1, 0, 0, 0), (.iload_n 2, 1, 0, 0, 0)], some (.invokestatic 55, 3, 117, 2, 0)) := rfl
theorem bl_X4_day_50 : blk bX4_day 50 = some ([(.istore_n 3, 1, 0, 0, 0), (.iload_n 3, 1, 0, 0, 0)], some (.ifCond .lt 12, 3, 0, 0, 0)) := rfl
theorem bl_X4_day_55 : blk bX4_day 55 = some ([(.aload_n 0, 1, 0, 0, 0), (.iload_n 3, 1, 0, 0, 0), (.iconst 3, 1, 3, 0, 0)], some (.invokestatic 51, 3, 109, 2, 0)) := rfl
theorem bl_X4_day_61 : blk bX4_day 61 = some ([(.bipush (-4), 2, 4, 1, 0), (.iastore, 1, 0, 0, 0)], none) := rfl
theorem bl_X4_day_64 : blk bX4_day 64 = some ([(.aload_n 0, 1, 0, 0, 0), (.iload_n 1, 1, 0, 0, 0), (.iconst 3, 1, 3, 0, 0)], some (.invokestatic 51, 3, 109, 2, 0)) := rfl
theorem bl_X4_day_70 : blk bX4_day 70 = some ([(.iload_n 2, 1, 0, 0, 0), (.iastore, 1, 0, 0, 0)], none) := rfl
theorem bl_X4_day_72 : blk bX4_day 72 = some ([(.aload_n 0, 1, 0, 0, 0), (.iconst 2, 1, 2, 0, 0), (.iconst 1, 1, 1, 0, 0), (.aload_n 0, 1, 0, 0, 0), (.iconst 2, 1, 2, 0, 0), (.iaload, 1, 0, 0, 0), (.isub, 1, 0, 0, 0), (.iastore, 1, 0, 0, 0)], some (.return_, 1, 0, 0, 0)) := rfl
theorem bl_X4_daysOn_0 : blk bX4_daysOn 0 = some ([(.iconst 0, 1, 0, 0, 0), (.istore_n 2, 1, 0, 0, 0)], none) := rfl
theorem bl_X4_daysOn_2 : blk bX4_daysOn 2 = some ([(.iload_n 2, 1, 0, 0, 0), (.iload_n 1, 1, 0, 0, 0)], some (.if_icmp .ge 13, 3, 0, 0, 0)) := rfl
theorem bl_X4_daysOn_7 : blk bX4_daysOn 7 = some ([(.aload_n 0, 1, 0, 0, 0)], some (.invokestatic 132, 3, 137, 1, 0)) := rfl
theorem bl_X4_daysOn_11 : blk bX4_daysOn 11 = some ([(.iinc 2 1, 3, 1, 0, 0)], some (.goto (-12), 3, 0, 0, 0)) := rfl
theorem bl_X4_daysOn_17 : blk bX4_daysOn 17 = some ([], some (.return_, 1, 0, 0, 0)) := rfl
theorem bl_X4_here_0 : blk bX4_here 0 = some ([(.aload_n 0, 1, 0, 0, 0), (.getfield 136, 3, 3, 5, 0), (.aload_n 0, 1, 0, 0, 0), (.getfield 140, 3, 3, 7, 0)], some (.if_icmp .ge 24, 3, 0, 0, 0)) := rfl
theorem bl_X4_here_11 : blk bX4_here 11 = some ([(.aload_n 0, 1, 0, 0, 0), (.getfield 40, 3, 3, 15, 0), (.aload_n 0, 1, 0, 0, 0), (.getfield 143, 3, 3, 6, 0), (.aload_n 0, 1, 0, 0, 0), (.getfield 136, 3, 3, 5, 0), (.iadd, 1, 0, 0, 0), (.iaload, 1, 0, 0, 0), (.sipush 255, 3, 255, 0, 0), (.iand, 1, 0, 0, 0)], some (.goto 4, 3, 0, 0, 0)) := rfl
theorem bl_X4_here_32 : blk bX4_here 32 = some ([(.iconst (-1), 1, 1, 1, 0)], none) := rfl
theorem bl_X4_here_33 : blk bX4_here 33 = some ([], some (.ireturn, 1, 0, 0, 0)) := rfl
theorem bl_X4_readsNumber_0 : blk bX4_readsNumber 0 = some ([(.aload_n 0, 1, 0, 0, 0), (.getfield 22, 3, 3, 8, 0), (.iload_n 1, 1, 0, 0, 0), (.iconst 0, 1, 0, 0, 0), (.iastore, 1, 0, 0, 0), (.iconst 0, 1, 0, 0, 0), (.istore_n 3, 1, 0, 0, 0)], none) := rfl
theorem bl_X4_readsNumber_9 : blk bX4_readsNumber 9 = some ([(.iload_n 3, 1, 0, 0, 0), (.iload_n 2, 1, 0, 0, 0)], some (.if_icmp .ge 58, 3, 0, 0, 0)) := rfl
theorem bl_X4_readsNumber_14 : blk bX4_readsNumber 14 = some ([(.aload_n 0, 1, 0, 0, 0)], some (.invokevirtual 146, 3, 139, 1, 3)) := rfl
theorem bl_X4_readsNumber_18 : blk bX4_readsNumber 18 = some ([(.bipush 48, 2, 48, 0, 0), (.bipush 57, 2, 57, 0, 0)], some (.invokestatic 43, 3, 105, 3, 0)) := rfl
theorem bl_X4_readsNumber_25 : blk bX4_readsNumber 25 = some ([], some (.ifCond .ne 5, 3, 0, 0, 0)) := rfl
theorem bl_X4_readsNumber_28 : blk bX4_readsNumber 28 = some ([(.iconst 0, 1, 0, 0, 0)], some (.ireturn, 1, 1, 0, 0)) := rfl
theorem bl_X4_readsNumber_30 : blk bX4_readsNumber 30 = some ([(.aload_n 0, 1, 0, 0, 0), (.getfield 22, 3, 3, 8, 0), (.iload_n 1, 1, 0, 0, 0), (.bipush 10, 2, 10, 0, 0), (.aload_n 0, 1, 0, 0, 0), (.getfield 22, 3, 3, 8, 0), (.iload_n 1, 1, 0, 0, 0), (.iaload, 1, 0, 0, 0), (.imul, 1, 0, 0, 0), (.aload_n 0, 1, 0, 0, 0)], some (.invokevirtual 146, 3, 139, 1, 3)) := rfl
theorem bl_X4_readsNumber_48 : blk bX4_readsNumber 48 = some ([(.iadd, 1, 0, 0, 0), (.bipush 48, 2, 48, 0, 0), (.isub, 1, 0, 0, 0), (.iastore, 1, 0, 0, 0), (.aload_n 0, 1, 0, 0, 0), (.dup, 1, 0, 0, 0), (.getfield 136, 3, 3, 5, 0), (.iconst 1, 1, 1, 0, 0), (.iadd, 1, 0, 0, 0), (.putfield 136, 3, 3, 5, 0), (.iinc 3 1, 3, 1, 0, 0)], some (.goto (-57), 3, 0, 0, 0)) := rfl
theorem bl_X4_readsNumber_69 : blk bX4_readsNumber 69 = some ([(.iconst 1, 1, 1, 0, 0)], some (.ireturn, 1, 1, 0, 0)) := rfl
theorem bl_X4_readsStatement_0 : blk bX4_readsStatement 0 = some ([(.aload_n 0, 1, 0, 0, 0)], some (.invokevirtual 146, 3, 139, 1, 3)) := rfl
theorem bl_X4_readsStatement_4 : blk bX4_readsStatement 4 = some ([(.istore_n 1, 1, 0, 0, 0), (.aload_n 0, 1, 0, 0, 0), (.dup, 1, 0, 0, 0), (.getfield 136, 3, 3, 5, 0), (.iconst 1, 1, 1, 0, 0), (.iadd, 1, 0, 0, 0), (.putfield 136, 3, 3, 5, 0), (.iload_n 1, 1, 0, 0, 0)], some (.lookupswitch 188 #[(100, 178), (107, 142), (109, 105), (112, 60), (116, 132), (120, 132)], 60, 0, 0, 0)) := rfl
theorem bl_X4_readsStatement_76 : blk bX4_readsStatement 76 = some ([(.aload_n 0, 1, 0, 0, 0), (.iconst 0, 1, 0, 0, 0), (.iconst 1, 1, 1, 0, 0)], some (.invokevirtual 150, 3, 140, 3, 3)) := rfl
theorem bl_X4_readsStatement_82 : blk bX4_readsStatement 82 = some ([], some (.ifCond .eq 34, 3, 0, 0, 0)) := rfl
theorem bl_X4_readsStatement_85 : blk bX4_readsStatement 85 = some ([(.aload_n 0, 1, 0, 0, 0), (.iconst 1, 1, 1, 0, 0), (.iconst 1, 1, 1, 0, 0)], some (.invokevirtual 150, 3, 140, 3, 3)) := rfl
theorem bl_X4_readsStatement_91 : blk bX4_readsStatement 91 = some ([], some (.ifCond .eq 25, 3, 0, 0, 0)) := rfl
theorem bl_X4_readsStatement_94 : blk bX4_readsStatement 94 = some ([(.aload_n 0, 1, 0, 0, 0), (.iconst 2, 1, 2, 0, 0), (.iconst 1, 1, 1, 0, 0)], some (.invokevirtual 150, 3, 140, 3, 3)) := rfl
theorem bl_X4_readsStatement_100 : blk bX4_readsStatement 100 = some ([], some (.ifCond .eq 16, 3, 0, 0, 0)) := rfl
theorem bl_X4_readsStatement_103 : blk bX4_readsStatement 103 = some ([(.aload_n 0, 1, 0, 0, 0), (.iconst 3, 1, 3, 0, 0), (.iconst 2, 1, 2, 0, 0)], some (.invokevirtual 150, 3, 140, 3, 3)) := rfl
theorem bl_X4_readsStatement_109 : blk bX4_readsStatement 109 = some ([], some (.ifCond .eq 7, 3, 0, 0, 0)) := rfl
theorem bl_X4_readsStatement_112 : blk bX4_readsStatement 112 = some ([(.iconst 1, 1, 1, 0, 0)], some (.goto 4, 3, 0, 0, 0)) := rfl
theorem bl_X4_readsStatement_116 : blk bX4_readsStatement 116 = some ([(.iconst 0, 1, 0, 0, 0)], none) := rfl
theorem bl_X4_readsStatement_117 : blk bX4_readsStatement 117 = some ([(.istore_n 2, 1, 0, 0, 0)], some (.goto 98, 3, 0, 0, 0)) := rfl
theorem bl_X4_readsStatement_121 : blk bX4_readsStatement 121 = some ([(.aload_n 0, 1, 0, 0, 0), (.iconst 0, 1, 0, 0, 0), (.iconst 1, 1, 1, 0, 0)], some (.invokevirtual 150, 3, 140, 3, 3)) := rfl
theorem bl_X4_readsStatement_127 : blk bX4_readsStatement 127 = some ([], some (.ifCond .eq 16, 3, 0, 0, 0)) := rfl
theorem bl_X4_readsStatement_130 : blk bX4_readsStatement 130 = some ([(.aload_n 0, 1, 0, 0, 0), (.iconst 1, 1, 1, 0, 0), (.iconst 2, 1, 2, 0, 0)], some (.invokevirtual 150, 3, 140, 3, 3)) := rfl
theorem bl_X4_readsStatement_136 : blk bX4_readsStatement 136 = some ([], some (.ifCond .eq 7, 3, 0, 0, 0)) := rfl
theorem bl_X4_readsStatement_139 : blk bX4_readsStatement 139 = some ([(.iconst 1, 1, 1, 0, 0)], some (.goto 4, 3, 0, 0, 0)) := rfl
theorem bl_X4_readsStatement_143 : blk bX4_readsStatement 143 = some ([(.iconst 0, 1, 0, 0, 0)], none) := rfl
theorem bl_X4_readsStatement_144 : blk bX4_readsStatement 144 = some ([(.istore_n 2, 1, 0, 0, 0)], some (.goto 71, 3, 0, 0, 0)) := rfl
theorem bl_X4_readsStatement_148 : blk bX4_readsStatement 148 = some ([(.aload_n 0, 1, 0, 0, 0), (.iconst 0, 1, 0, 0, 0), (.iconst 1, 1, 1, 0, 0)], some (.invokevirtual 150, 3, 140, 3, 3)) := rfl
theorem bl_X4_readsStatement_154 : blk bX4_readsStatement 154 = some ([(.istore_n 2, 1, 0, 0, 0)], some (.goto 61, 3, 0, 0, 0)) := rfl
theorem bl_X4_readsStatement_158 : blk bX4_readsStatement 158 = some ([(.aload_n 0, 1, 0, 0, 0), (.iconst 0, 1, 0, 0, 0), (.iconst 1, 1, 1, 0, 0)], some (.invokevirtual 150, 3, 140, 3, 3)) := rfl
theorem bl_X4_readsStatement_164 : blk bX4_readsStatement 164 = some ([], some (.ifCond .eq 25, 3, 0, 0, 0)) := rfl
theorem bl_X4_readsStatement_167 : blk bX4_readsStatement 167 = some ([(.aload_n 0, 1, 0, 0, 0), (.iconst 1, 1, 1, 0, 0), (.iconst 1, 1, 1, 0, 0)], some (.invokevirtual 150, 3, 140, 3, 3)) := rfl
theorem bl_X4_readsStatement_173 : blk bX4_readsStatement 173 = some ([], some (.ifCond .eq 16, 3, 0, 0, 0)) := rfl
theorem bl_X4_readsStatement_176 : blk bX4_readsStatement 176 = some ([(.aload_n 0, 1, 0, 0, 0), (.iconst 2, 1, 2, 0, 0), (.iconst 1, 1, 1, 0, 0)], some (.invokevirtual 150, 3, 140, 3, 3)) := rfl
theorem bl_X4_readsStatement_182 : blk bX4_readsStatement 182 = some ([], some (.ifCond .eq 7, 3, 0, 0, 0)) := rfl
theorem bl_X4_readsStatement_185 : blk bX4_readsStatement 185 = some ([(.iconst 1, 1, 1, 0, 0)], some (.goto 4, 3, 0, 0, 0)) := rfl
theorem bl_X4_readsStatement_189 : blk bX4_readsStatement 189 = some ([(.iconst 0, 1, 0, 0, 0)], none) := rfl
theorem bl_X4_readsStatement_190 : blk bX4_readsStatement 190 = some ([(.istore_n 2, 1, 0, 0, 0)], some (.goto 25, 3, 0, 0, 0)) := rfl
theorem bl_X4_readsStatement_194 : blk bX4_readsStatement 194 = some ([(.aload_n 0, 1, 0, 0, 0), (.iconst 0, 1, 0, 0, 0), (.iconst 2, 1, 2, 0, 0)], some (.invokevirtual 150, 3, 140, 3, 3)) := rfl
theorem bl_X4_readsStatement_200 : blk bX4_readsStatement 200 = some ([(.istore_n 2, 1, 0, 0, 0)], some (.goto 15, 3, 0, 0, 0)) := rfl
theorem bl_X4_readsStatement_204 : blk bX4_readsStatement 204 = some ([(.aload_n 0, 1, 0, 0, 0), (.dup, 1, 0, 0, 0), (.getfield 136, 3, 3, 5, 0), (.iconst 1, 1, 1, 0, 0), (.isub, 1, 0, 0, 0), (.putfield 136, 3, 3, 5, 0), (.iconst 0, 1, 0, 0, 0)], some (.ireturn, 1, 1, 0, 0)) := rfl
theorem bl_X4_readsStatement_216 : blk bX4_readsStatement 216 = some ([(.iload_n 2, 1, 0, 0, 0)], some (.ifCond .eq 12, 3, 0, 0, 0)) := rfl
theorem bl_X4_readsStatement_220 : blk bX4_readsStatement 220 = some ([(.aload_n 0, 1, 0, 0, 0)], some (.invokevirtual 146, 3, 139, 1, 3)) := rfl
theorem bl_X4_readsStatement_224 : blk bX4_readsStatement 224 = some ([(.bipush 59, 2, 59, 0, 0)], some (.if_icmp .eq 5, 3, 0, 0, 0)) := rfl
theorem bl_X4_readsStatement_229 : blk bX4_readsStatement 229 = some ([(.iconst 0, 1, 0, 0, 0)], some (.ireturn, 1, 1, 0, 0)) := rfl
theorem bl_X4_readsStatement_231 : blk bX4_readsStatement 231 = some ([(.aload_n 0, 1, 0, 0, 0), (.dup, 1, 0, 0, 0), (.getfield 136, 3, 3, 5, 0), (.iconst 1, 1, 1, 0, 0), (.iadd, 1, 0, 0, 0), (.putfield 136, 3, 3, 5, 0), (.iconst 1, 1, 1, 0, 0)], some (.ireturn, 1, 1, 0, 0)) := rfl
theorem bl_X4_adds_0 : blk bX4_adds 0 = some ([(.aload_n 0, 1, 0, 0, 0), (.getfield 9, 3, 3, 0, 0), (.iconst 0, 1, 0, 0, 0), (.iaload, 1, 0, 0, 0), (.istore 5, 2, 0, 0, 0), (.aload_n 0, 1, 0, 0, 0), (.getfield 9, 3, 3, 0, 0), (.iload 5, 2, 0, 0, 0), (.iconst 0, 1, 0, 0, 0)], some (.invokestatic 51, 3, 109, 2, 0)) := rfl
theorem bl_X4_adds_18 : blk bX4_adds 18 = some ([(.iload_n 1, 1, 0, 0, 0), (.iastore, 1, 0, 0, 0), (.aload_n 0, 1, 0, 0, 0), (.getfield 9, 3, 3, 0, 0), (.iload 5, 2, 0, 0, 0), (.iconst 1, 1, 1, 0, 0)], some (.invokestatic 51, 3, 109, 2, 0)) := rfl
theorem bl_X4_adds_30 : blk bX4_adds 30 = some ([(.iload_n 2, 1, 0, 0, 0), (.iastore, 1, 0, 0, 0), (.aload_n 0, 1, 0, 0, 0), (.getfield 9, 3, 3, 0, 0), (.iload 5, 2, 0, 0, 0), (.iconst 2, 1, 2, 0, 0)], some (.invokestatic 51, 3, 109, 2, 0)) := rfl
theorem bl_X4_adds_42 : blk bX4_adds 42 = some ([(.iload_n 3, 1, 0, 0, 0), (.iastore, 1, 0, 0, 0), (.aload_n 0, 1, 0, 0, 0), (.getfield 9, 3, 3, 0, 0), (.iload 5, 2, 0, 0, 0), (.iconst 3, 1, 3, 0, 0)], some (.invokestatic 51, 3, 109, 2, 0)) := rfl
theorem bl_X4_adds_54 : blk bX4_adds 54 = some ([(.iload 4, 2, 0, 0, 0), (.iastore, 1, 0, 0, 0), (.aload_n 0, 1, 0, 0, 0), (.getfield 9, 3, 3, 0, 0), (.iconst 0, 1, 0, 0, 0), (.dup2, 1, 0, 0, 0), (.iaload, 1, 0, 0, 0), (.iconst 1, 1, 1, 0, 0), (.iadd, 1, 0, 0, 0), (.iastore, 1, 0, 0, 0)], some (.return_, 1, 0, 0, 0)) := rfl
theorem bl_X4_mayStand_0 : blk bX4_mayStand 0 = some ([(.aload_n 0, 1, 0, 0, 0), (.getfield 9, 3, 3, 0, 0), (.iload_n 2, 1, 0, 0, 0)], some (.invokestatic 55, 3, 117, 2, 0)) := rfl
theorem bl_X4_mayStand_8 : blk bX4_mayStand 8 = some ([], some (.ifCond .lt 15, 3, 0, 0, 0)) := rfl
theorem bl_X4_mayStand_11 : blk bX4_mayStand 11 = some ([(.aload_n 0, 1, 0, 0, 0), (.getfield 9, 3, 3, 0, 0), (.iload_n 2, 1, 0, 0, 0)], some (.invokestatic 55, 3, 117, 2, 0)) := rfl
theorem bl_X4_mayStand_19 : blk bX4_mayStand 19 = some ([(.iload_n 1, 1, 0, 0, 0)], some (.if_icmp .ne 7, 3, 0, 0, 0)) := rfl
theorem bl_X4_mayStand_23 : blk bX4_mayStand 23 = some ([(.iconst 1, 1, 1, 0, 0)], some (.goto 4, 3, 0, 0, 0)) := rfl
theorem bl_X4_mayStand_27 : blk bX4_mayStand 27 = some ([(.iconst 0, 1, 0, 0, 0)], none) := rfl
theorem bl_X4_mayStand_28 : blk bX4_mayStand 28 = some ([], some (.ireturn, 1, 1, 0, 0)) := rfl
theorem bl_X4_isDone_0 : blk bX4_isDone 0 = some ([(.aload_n 0, 1, 0, 0, 0), (.getfield 22, 3, 3, 8, 0), (.iconst 0, 1, 0, 0, 0), (.iaload, 1, 0, 0, 0), (.istore_n 2, 1, 0, 0, 0), (.aload_n 0, 1, 0, 0, 0), (.getfield 22, 3, 3, 8, 0), (.iconst 1, 1, 1, 0, 0), (.iaload, 1, 0, 0, 0), (.istore_n 3, 1, 0, 0, 0), (.iload_n 1, 1, 0, 0, 0)], some (.tableswitch 285 107 120 #[240, 285, 148, 285, 285, 69, 285, 285, 285, 222, 285, 285, 285, 187], 69, 0, 0, 0)) := rfl
theorem bl_X4_isDone_84 : blk bX4_isDone 84 = some ([(.iload_n 2, 1, 0, 0, 0), (.bipush 8, 2, 8, 0, 0)], some (.if_icmp .ge 54, 3, 0, 0, 0)) := rfl
theorem bl_X4_isDone_90 : blk bX4_isDone 90 = some ([(.aload_n 0, 1, 0, 0, 0), (.getfield 22, 3, 3, 8, 0), (.iconst 2, 1, 2, 0, 0), (.iaload, 1, 0, 0, 0)], some (.invokestatic 153, 3, 113, 1, 0)) := rfl
theorem bl_X4_isDone_99 : blk bX4_isDone 99 = some ([], some (.ifCond .eq 42, 3, 0, 0, 0)) := rfl
theorem bl_X4_isDone_102 : blk bX4_isDone 102 = some ([(.aload_n 0, 1, 0, 0, 0), (.getfield 22, 3, 3, 8, 0), (.iconst 3, 1, 3, 0, 0), (.iaload, 1, 0, 0, 0)], some (.invokestatic 156, 3, 112, 1, 0)) := rfl
theorem bl_X4_isDone_111 : blk bX4_isDone 111 = some ([], some (.ifCond .eq 30, 3, 0, 0, 0)) := rfl
theorem bl_X4_isDone_114 : blk bX4_isDone 114 = some ([(.aload_n 0, 1, 0, 0, 0), (.getfield 9, 3, 3, 0, 0), (.iconst 0, 1, 0, 0, 0), (.iaload, 1, 0, 0, 0), (.bipush 10, 2, 10, 0, 0)], some (.if_icmp .eq 19, 3, 0, 0, 0)) := rfl
theorem bl_X4_isDone_125 : blk bX4_isDone 125 = some ([(.aload_n 0, 1, 0, 0, 0), (.getfield 9, 3, 3, 0, 0), (.aload_n 0, 1, 0, 0, 0), (.getfield 22, 3, 3, 8, 0), (.iconst 3, 1, 3, 0, 0), (.iaload, 1, 0, 0, 0)], some (.invokestatic 55, 3, 117, 2, 0)) := rfl
theorem bl_X4_isDone_138 : blk bX4_isDone 138 = some ([], some (.ifCond .lt 5, 3, 0, 0, 0)) := rfl
theorem bl_X4_isDone_141 : blk bX4_isDone 141 = some ([(.iconst 0, 1, 0, 0, 0)], some (.ireturn, 1, 1, 0, 0)) := rfl
theorem bl_X4_isDone_143 : blk bX4_isDone 143 = some ([(.aload_n 0, 1, 0, 0, 0), (.iload_n 2, 1, 0, 0, 0), (.iload_n 3, 1, 0, 0, 0), (.aload_n 0, 1, 0, 0, 0), (.getfield 22, 3, 3, 8, 0), (.iconst 2, 1, 2, 0, 0), (.iaload, 1, 0, 0, 0), (.aload_n 0, 1, 0, 0, 0), (.getfield 22, 3, 3, 8, 0), (.iconst 3, 1, 3, 0, 0), (.iaload, 1, 0, 0, 0)], some (.invokevirtual 159, 3, 142, 5, 3)) := rfl
theorem bl_X4_isDone_161 : blk bX4_isDone 161 = some ([(.iconst 1, 1, 1, 0, 0)], some (.ireturn, 1, 1, 0, 0)) := rfl
theorem bl_X4_isDone_163 : blk bX4_isDone 163 = some ([(.aload_n 0, 1, 0, 0, 0), (.iload_n 2, 1, 0, 0, 0)], some (.invokevirtual 47, 3, 110, 2, 3)) := rfl
theorem bl_X4_isDone_168 : blk bX4_isDone 168 = some ([], some (.ifCond .eq 19, 3, 0, 0, 0)) := rfl
theorem bl_X4_isDone_171 : blk bX4_isDone 171 = some ([(.iload_n 3, 1, 0, 0, 0)], some (.invokestatic 156, 3, 112, 1, 0)) := rfl
theorem bl_X4_isDone_175 : blk bX4_isDone 175 = some ([], some (.ifCond .eq 12, 3, 0, 0, 0)) := rfl
theorem bl_X4_isDone_178 : blk bX4_isDone 178 = some ([(.aload_n 0, 1, 0, 0, 0), (.iload_n 2, 1, 0, 0, 0), (.iload_n 3, 1, 0, 0, 0)], some (.invokevirtual 163, 3, 143, 3, 3)) := rfl
theorem bl_X4_isDone_184 : blk bX4_isDone 184 = some ([], some (.ifCond .ne 5, 3, 0, 0, 0)) := rfl
theorem bl_X4_isDone_187 : blk bX4_isDone 187 = some ([(.iconst 0, 1, 0, 0, 0)], some (.ireturn, 1, 1, 0, 0)) := rfl
theorem bl_X4_isDone_189 : blk bX4_isDone 189 = some ([(.aload_n 0, 1, 0, 0, 0), (.getfield 9, 3, 3, 0, 0), (.iload_n 2, 1, 0, 0, 0), (.iconst 3, 1, 3, 0, 0)], some (.invokestatic 51, 3, 109, 2, 0)) := rfl
theorem bl_X4_isDone_198 : blk bX4_isDone 198 = some ([(.iload_n 3, 1, 0, 0, 0), (.iastore, 1, 0, 0, 0), (.iconst 1, 1, 1, 0, 0)], some (.ireturn, 1, 1, 0, 0)) := rfl
theorem bl_X4_isDone_202 : blk bX4_isDone 202 = some ([(.aload_n 0, 1, 0, 0, 0), (.iload_n 2, 1, 0, 0, 0)], some (.invokevirtual 47, 3, 110, 2, 3)) := rfl
theorem bl_X4_isDone_207 : blk bX4_isDone 207 = some ([], some (.ifCond .eq 14, 3, 0, 0, 0)) := rfl
theorem bl_X4_isDone_210 : blk bX4_isDone 210 = some ([(.aload_n 0, 1, 0, 0, 0), (.getfield 9, 3, 3, 0, 0), (.iload_n 2, 1, 0, 0, 0)], some (.invokestatic 78, 3, 114, 2, 0)) := rfl
theorem bl_X4_isDone_218 : blk bX4_isDone 218 = some ([], some (.ifCond .ne 5, 3, 0, 0, 0)) := rfl
theorem bl_X4_isDone_221 : blk bX4_isDone 221 = some ([(.iconst 0, 1, 0, 0, 0)], some (.ireturn, 1, 1, 0, 0)) := rfl
theorem bl_X4_isDone_223 : blk bX4_isDone 223 = some ([(.aload_n 0, 1, 0, 0, 0), (.getfield 9, 3, 3, 0, 0), (.iload_n 2, 1, 0, 0, 0), (.iconst 3, 1, 3, 0, 0)], some (.invokestatic 51, 3, 109, 2, 0)) := rfl
theorem bl_X4_isDone_232 : blk bX4_isDone 232 = some ([(.bipush (-4), 2, 4, 1, 0), (.iastore, 1, 0, 0, 0), (.iconst 1, 1, 1, 0, 0)], some (.ireturn, 1, 1, 0, 0)) := rfl
theorem bl_X4_isDone_237 : blk bX4_isDone 237 = some ([(.iload_n 2, 1, 0, 0, 0)], some (.invokestatic 153, 3, 113, 1, 0)) := rfl
theorem bl_X4_isDone_241 : blk bX4_isDone 241 = some ([], some (.ifCond .ne 5, 3, 0, 0, 0)) := rfl
theorem bl_X4_isDone_244 : blk bX4_isDone 244 = some ([(.iconst 0, 1, 0, 0, 0)], some (.ireturn, 1, 1, 0, 0)) := rfl
theorem bl_X4_isDone_246 : blk bX4_isDone 246 = some ([(.aload_n 0, 1, 0, 0, 0), (.getfield 9, 3, 3, 0, 0), (.iconst 2, 1, 2, 0, 0), (.iload_n 2, 1, 0, 0, 0), (.iastore, 1, 0, 0, 0), (.iconst 1, 1, 1, 0, 0)], some (.ireturn, 1, 1, 0, 0)) := rfl
theorem bl_X4_isDone_255 : blk bX4_isDone 255 = some ([(.aload_n 0, 1, 0, 0, 0), (.iload_n 2, 1, 0, 0, 0)], some (.invokevirtual 47, 3, 110, 2, 3)) := rfl
theorem bl_X4_isDone_260 : blk bX4_isDone 260 = some ([], some (.ifCond .eq 9, 3, 0, 0, 0)) := rfl
theorem bl_X4_isDone_263 : blk bX4_isDone 263 = some ([(.iload_n 3, 1, 0, 0, 0), (.bipush 8, 2, 8, 0, 0)], some (.if_icmp .lt 5, 3, 0, 0, 0)) := rfl
theorem bl_X4_isDone_269 : blk bX4_isDone 269 = some ([(.iconst 0, 1, 0, 0, 0)], some (.ireturn, 1, 1, 0, 0)) := rfl
theorem bl_X4_isDone_271 : blk bX4_isDone 271 = some ([(.aload_n 0, 1, 0, 0, 0), (.getfield 9, 3, 3, 0, 0), (.iload_n 2, 1, 0, 0, 0), (.iconst 0, 1, 0, 0, 0)], some (.invokestatic 51, 3, 109, 2, 0)) := rfl
theorem bl_X4_isDone_280 : blk bX4_isDone 280 = some ([(.iload_n 3, 1, 0, 0, 0), (.iastore, 1, 0, 0, 0), (.aload_n 0, 1, 0, 0, 0), (.getfield 9, 3, 3, 0, 0), (.iload_n 2, 1, 0, 0, 0), (.iconst 1, 1, 1, 0, 0)], some (.invokestatic 51, 3, 109, 2, 0)) := rfl
theorem bl_X4_isDone_291 : blk bX4_isDone 291 = some ([(.aload_n 0, 1, 0, 0, 0), (.getfield 22, 3, 3, 8, 0), (.iconst 2, 1, 2, 0, 0), (.iaload, 1, 0, 0, 0), (.iastore, 1, 0, 0, 0), (.iconst 1, 1, 1, 0, 0)], some (.ireturn, 1, 1, 0, 0)) := rfl
theorem bl_X4_isDone_300 : blk bX4_isDone 300 = some ([(.iload_n 2, 1, 0, 0, 0), (.iconst 1, 1, 1, 0, 0), (.bipush 60, 2, 60, 0, 0)], some (.invokestatic 43, 3, 105, 3, 0)) := rfl
theorem bl_X4_isDone_307 : blk bX4_isDone 307 = some ([], some (.ifCond .eq 17, 3, 0, 0, 0)) := rfl
theorem bl_X4_isDone_310 : blk bX4_isDone 310 = some ([(.aload_n 0, 1, 0, 0, 0), (.getfield 9, 3, 3, 0, 0), (.iconst 1, 1, 1, 0, 0), (.iaload, 1, 0, 0, 0), (.iload_n 2, 1, 0, 0, 0), (.iadd, 1, 0, 0, 0), (.sipush 999, 3, 999, 0, 0)], some (.if_icmp .le 5, 3, 0, 0, 0)) := rfl
theorem bl_X4_isDone_324 : blk bX4_isDone 324 = some ([(.iconst 0, 1, 0, 0, 0)], some (.ireturn, 1, 1, 0, 0)) := rfl
theorem bl_X4_isDone_326 : blk bX4_isDone 326 = some ([(.aload_n 0, 1, 0, 0, 0), (.getfield 9, 3, 3, 0, 0), (.iload_n 2, 1, 0, 0, 0)], some (.invokestatic 166, 3, 138, 2, 0)) := rfl
theorem bl_X4_isDone_334 : blk bX4_isDone 334 = some ([(.iconst 1, 1, 1, 0, 0)], some (.ireturn, 1, 1, 0, 0)) := rfl
theorem bl_X4_isShelf_0 : blk bX4_isShelf 0 = some ([(.iload_n 0, 1, 0, 0, 0), (.iconst 0, 1, 0, 0, 0), (.bipush 7, 2, 7, 0, 0)], some (.invokestatic 43, 3, 105, 3, 0)) := rfl
theorem bl_X4_isShelf_7 : blk bX4_isShelf 7 = some ([], some (.ireturn, 1, 1, 0, 0)) := rfl
theorem bl_X4_wrongRow_0 : blk bX4_wrongRow 0 = some ([(.iload_n 1, 1, 0, 0, 0)], some (.invokestatic 246, 3, 145, 1, 0)) := rfl
theorem bl_X4_wrongRow_4 : blk bX4_wrongRow 4 = some ([], some (.ifCond .ne 7, 3, 0, 0, 0)) := rfl
theorem bl_X4_wrongRow_7 : blk bX4_wrongRow 7 = some ([(.iconst (-1), 1, 1, 1, 0)], some (.goto 47, 3, 0, 0, 0)) := rfl
theorem bl_X4_wrongRow_11 : blk bX4_wrongRow 11 = some ([(.aload_n 0, 1, 0, 0, 0), (.getfield 25, 3, 3, 10, 0), (.iload_n 1, 1, 0, 0, 0), (.iaload, 1, 0, 0, 0)], some (.ifCond .ne 8, 3, 0, 0, 0)) := rfl
theorem bl_X4_wrongRow_20 : blk bX4_wrongRow 20 = some ([(.bipush (-11), 2, 11, 1, 0)], some (.goto 33, 3, 0, 0, 0)) := rfl
theorem bl_X4_wrongRow_25 : blk bX4_wrongRow 25 = some ([(.aload_n 0, 1, 0, 0, 0), (.getfield 25, 3, 3, 10, 0), (.iload_n 1, 1, 0, 0, 0), (.iaload, 1, 0, 0, 0), (.iconst 2, 1, 2, 0, 0)], some (.if_icmp .ne 17, 3, 0, 0, 0)) := rfl
theorem bl_X4_wrongRow_35 : blk bX4_wrongRow 35 = some ([(.iload_n 2, 1, 0, 0, 0)], some (.ifCond .lt 18, 3, 0, 0, 0)) := rfl
theorem bl_X4_wrongRow_39 : blk bX4_wrongRow 39 = some ([(.aload_n 0, 1, 0, 0, 0), (.getfield 34, 3, 3, 13, 0), (.iload_n 1, 1, 0, 0, 0), (.iaload, 1, 0, 0, 0), (.iload_n 2, 1, 0, 0, 0)], some (.if_icmp .eq 8, 3, 0, 0, 0)) := rfl
theorem bl_X4_wrongRow_49 : blk bX4_wrongRow 49 = some ([(.bipush (-12), 2, 12, 1, 0)], some (.goto 4, 3, 0, 0, 0)) := rfl
theorem bl_X4_wrongRow_54 : blk bX4_wrongRow 54 = some ([(.iconst 0, 1, 0, 0, 0)], none) := rfl
theorem bl_X4_wrongRow_55 : blk bX4_wrongRow 55 = some ([], some (.ireturn, 1, 0, 0, 0)) := rfl
theorem bl_X4_game_0 : blk bX4_game 0 = some ([(.aload_n 0, 1, 0, 0, 0), (.iload_n 1, 1, 0, 0, 0), (.iconst 0, 1, 0, 0, 0)], some (.invokevirtual 170, 3, 146, 3, 3)) := rfl
theorem bl_X4_game_6 : blk bX4_game 6 = some ([(.istore_n 2, 1, 0, 0, 0), (.iload_n 2, 1, 0, 0, 0)], some (.ifCond .eq 5, 3, 0, 0, 0)) := rfl
theorem bl_X4_game_11 : blk bX4_game 11 = some ([(.iload_n 2, 1, 0, 0, 0)], some (.ireturn, 1, 0, 0, 0)) := rfl
theorem bl_X4_game_13 : blk bX4_game 13 = some ([(.aload_n 0, 1, 0, 0, 0), (.bipush 100, 2, 100, 0, 0), (.iload_n 1, 1, 0, 0, 0), (.imul, 1, 0, 0, 0), (.putfield 143, 3, 3, 6, 0), (.aload_n 0, 1, 0, 0, 0), (.aload_n 0, 1, 0, 0, 0), (.getfield 37, 3, 3, 14, 0), (.iload_n 1, 1, 0, 0, 0), (.iaload, 1, 0, 0, 0), (.putfield 140, 3, 3, 7, 0), (.aload_n 0, 1, 0, 0, 0), (.iconst 0, 1, 0, 0, 0), (.putfield 136, 3, 3, 5, 0), (.iconst 0, 1, 0, 0, 0), (.istore_n 3, 1, 0, 0, 0), (.iconst 0, 1, 0, 0, 0), (.istore 4, 2, 0, 0, 0)], none) := rfl
theorem bl_X4_game_41 : blk bX4_game 41 = some ([(.aload_n 0, 1, 0, 0, 0)], some (.invokevirtual 173, 3, 141, 1, 3)) := rfl
theorem bl_X4_game_45 : blk bX4_game 45 = some ([], some (.ifCond .ne 13, 3, 0, 0, 0)) := rfl
theorem bl_X4_game_48 : blk bX4_game 48 = some ([(.sipush (-1000), 3, 1000, 1, 0), (.aload_n 0, 1, 0, 0, 0), (.getfield 136, 3, 3, 5, 0), (.isub, 1, 0, 0, 0), (.istore 4, 2, 0, 0, 0)], none) := rfl
theorem bl_X4_game_58 : blk bX4_game 58 = some ([(.iinc 3 1, 3, 1, 0, 0), (.iload 4, 2, 0, 0, 0)], some (.ifCond .ne 14, 3, 0, 0, 0)) := rfl
theorem bl_X4_game_66 : blk bX4_game 66 = some ([(.aload_n 0, 1, 0, 0, 0), (.getfield 136, 3, 3, 5, 0), (.aload_n 0, 1, 0, 0, 0), (.getfield 140, 3, 3, 7, 0)], some (.if_icmp .lt (-33), 3, 0, 0, 0)) := rfl
theorem bl_X4_game_77 : blk bX4_game 77 = some ([(.aload_n 0, 1, 0, 0, 0), (.getfield 9, 3, 3, 0, 0), (.aload_n 0, 1, 0, 0, 0), (.getfield 19, 3, 3, 3, 0)], some (.invokestatic 177, 3, 108, 2, 0)) := rfl
theorem bl_X4_game_88 : blk bX4_game 88 = some ([(.aload_n 0, 1, 0, 0, 0), (.iconst 0, 1, 0, 0, 0), (.putfield 136, 3, 3, 5, 0)], none) := rfl
theorem bl_X4_game_93 : blk bX4_game 93 = some ([(.iload 4, 2, 0, 0, 0)], some (.ifCond .ne 66, 3, 0, 0, 0)) := rfl
theorem bl_X4_game_98 : blk bX4_game 98 = some ([(.aload_n 0, 1, 0, 0, 0), (.getfield 136, 3, 3, 5, 0), (.aload_n 0, 1, 0, 0, 0), (.getfield 140, 3, 3, 7, 0)], some (.if_icmp .ge 55, 3, 0, 0, 0)) := rfl
theorem bl_X4_game_109 : blk bX4_game 109 = some ([(.aload_n 0, 1, 0, 0, 0), (.getfield 136, 3, 3, 5, 0), (.istore 5, 2, 0, 0, 0), (.aload_n 0, 1, 0, 0, 0)], some (.invokevirtual 146, 3, 139, 1, 3)) := rfl
theorem bl_X4_game_119 : blk bX4_game 119 = some ([(.istore 6, 2, 0, 0, 0), (.aload_n 0, 1, 0, 0, 0)], some (.invokevirtual 173, 3, 141, 1, 3)) := rfl
theorem bl_X4_game_125 : blk bX4_game 125 = some ([(.istore 7, 2, 0, 0, 0), (.aload_n 0, 1, 0, 0, 0), (.iload 6, 2, 0, 0, 0)], some (.invokevirtual 181, 3, 144, 2, 3)) := rfl
theorem bl_X4_game_133 : blk bX4_game 133 = some ([], some (.ifCond .eq 6, 3, 0, 0, 0)) := rfl
theorem bl_X4_game_136 : blk bX4_game 136 = some ([], some (.goto (-43), 3, 0, 0, 0)) := rfl
theorem bl_X4_game_139 : blk bX4_game 139 = some ([(.sipush (-2000), 3, 2000, 1, 0), (.iload 5, 2, 0, 0, 0), (.isub, 1, 0, 0, 0), (.istore 4, 2, 0, 0, 0), (.aload_n 0, 1, 0, 0, 0), (.getfield 19, 3, 3, 3, 0), (.aload_n 0, 1, 0, 0, 0), (.getfield 9, 3, 3, 0, 0)], some (.invokestatic 177, 3, 108, 2, 0)) := rfl
theorem bl_X4_game_158 : blk bX4_game 158 = some ([], some (.goto (-65), 3, 0, 0, 0)) := rfl
theorem bl_X4_game_161 : blk bX4_game 161 = some ([(.iload 4, 2, 0, 0, 0)], some (.ifCond .ne 7, 3, 0, 0, 0)) := rfl
theorem bl_X4_game_166 : blk bX4_game 166 = some ([(.iload_n 3, 1, 0, 0, 0)], some (.goto 5, 3, 0, 0, 0)) := rfl
theorem bl_X4_game_170 : blk bX4_game 170 = some ([(.iload 4, 2, 0, 0, 0)], none) := rfl
theorem bl_X4_game_172 : blk bX4_game 172 = some ([], some (.ireturn, 1, 0, 0, 0)) := rfl
theorem bl_X4_nextIdea_0 : blk bX4_nextIdea 0 = some ([(.aload_n 0, 1, 0, 0, 0), (.getfield 9, 3, 3, 0, 0), (.iload_n 1, 1, 0, 0, 0), (.aload_n 0, 1, 0, 0, 0), (.getfield 9, 3, 3, 0, 0), (.iconst 1, 1, 1, 0, 0), (.iaload, 1, 0, 0, 0), (.iconst 1, 1, 1, 0, 0), (.iadd, 1, 0, 0, 0)], some (.invokestatic 117, 3, 128, 3, 0)) := rfl
theorem bl_X4_nextIdea_16 : blk bX4_nextIdea 16 = some ([], some (.ireturn, 1, 0, 0, 0)) := rfl
theorem bl_X4_piece_0 : blk bX4_piece 0 = some ([(.aload_n 0, 1, 0, 0, 0), (.iload_n 1, 1, 0, 0, 0)], some (.invokevirtual 47, 3, 110, 2, 3)) := rfl
theorem bl_X4_piece_5 : blk bX4_piece 5 = some ([], some (.ifCond .eq 13, 3, 0, 0, 0)) := rfl
theorem bl_X4_piece_8 : blk bX4_piece 8 = some ([(.iload_n 2, 1, 0, 0, 0), (.iconst 0, 1, 0, 0, 0), (.bipush 6, 2, 6, 0, 0)], some (.invokestatic 43, 3, 105, 3, 0)) := rfl
theorem bl_X4_piece_15 : blk bX4_piece 15 = some ([], some (.ifCond .ne 5, 3, 0, 0, 0)) := rfl
theorem bl_X4_piece_18 : blk bX4_piece 18 = some ([(.iconst (-1), 1, 1, 1, 0)], some (.ireturn, 1, 0, 0, 0)) := rfl
theorem bl_X4_piece_20 : blk bX4_piece 20 = some ([(.aload_n 0, 1, 0, 0, 0), (.getfield 9, 3, 3, 0, 0), (.iload_n 1, 1, 0, 0, 0), (.iconst 0, 1, 0, 0, 0)], some (.invokestatic 51, 3, 109, 2, 0)) := rfl
theorem bl_X4_piece_29 : blk bX4_piece 29 = some ([(.iaload, 1, 0, 0, 0), (.istore_n 3, 1, 0, 0, 0), (.aload_n 0, 1, 0, 0, 0), (.getfield 9, 3, 3, 0, 0), (.iload_n 1, 1, 0, 0, 0), (.iconst 1, 1, 1, 0, 0)], some (.invokestatic 51, 3, 109, 2, 0)) := rfl
theorem bl_X4_piece_40 : blk bX4_piece 40 = some ([(.iaload, 1, 0, 0, 0), (.istore 4, 2, 0, 0, 0), (.iload_n 2, 1, 0, 0, 0), (.iconst 4, 1, 4, 0, 0)], some (.if_icmp .ge 16, 3, 0, 0, 0)) := rfl
theorem bl_X4_piece_48 : blk bX4_piece 48 = some ([(.aload_n 0, 1, 0, 0, 0), (.getfield 9, 3, 3, 0, 0), (.iload_n 1, 1, 0, 0, 0), (.iload_n 2, 1, 0, 0, 0)], some (.invokestatic 51, 3, 109, 2, 0)) := rfl
theorem bl_X4_piece_57 : blk bX4_piece 57 = some ([(.iaload, 1, 0, 0, 0)], some (.goto 36, 3, 0, 0, 0)) := rfl
theorem bl_X4_piece_61 : blk bX4_piece 61 = some ([(.iload_n 2, 1, 0, 0, 0), (.iconst 4, 1, 4, 0, 0)], some (.if_icmp .ne 12, 3, 0, 0, 0)) := rfl
theorem bl_X4_piece_66 : blk bX4_piece 66 = some ([(.iload_n 3, 1, 0, 0, 0), (.iload 4, 2, 0, 0, 0)], some (.invokestatic 105, 3, 129, 2, 0)) := rfl
theorem bl_X4_piece_72 : blk bX4_piece 72 = some ([], some (.goto 22, 3, 0, 0, 0)) := rfl
theorem bl_X4_piece_75 : blk bX4_piece 75 = some ([(.iload_n 2, 1, 0, 0, 0), (.iconst 5, 1, 5, 0, 0)], some (.if_icmp .ne 12, 3, 0, 0, 0)) := rfl
theorem bl_X4_piece_80 : blk bX4_piece 80 = some ([(.iload_n 3, 1, 0, 0, 0), (.iload 4, 2, 0, 0, 0)], some (.invokestatic 111, 3, 130, 2, 0)) := rfl
theorem bl_X4_piece_86 : blk bX4_piece 86 = some ([], some (.goto 8, 3, 0, 0, 0)) := rfl
theorem bl_X4_piece_89 : blk bX4_piece 89 = some ([(.aload_n 0, 1, 0, 0, 0), (.iload_n 1, 1, 0, 0, 0)], some (.invokevirtual 184, 3, 148, 2, 3)) := rfl
theorem bl_X4_piece_94 : blk bX4_piece 94 = some ([], some (.ireturn, 1, 0, 0, 0)) := rfl
theorem bl_X4_on_0 : blk bX4_on 0 = some ([(.iload_n 1, 1, 0, 0, 0)], some (.invokestatic 156, 3, 112, 1, 0)) := rfl
theorem bl_X4_on_4 : blk bX4_on 4 = some ([], some (.ifCond .ne 5, 3, 0, 0, 0)) := rfl
theorem bl_X4_on_7 : blk bX4_on 7 = some ([(.iconst (-1), 1, 1, 1, 0)], some (.ireturn, 1, 0, 0, 0)) := rfl
theorem bl_X4_on_9 : blk bX4_on 9 = some ([(.aload_n 0, 1, 0, 0, 0), (.getfield 9, 3, 3, 0, 0), (.iload_n 1, 1, 0, 0, 0)], some (.invokestatic 55, 3, 117, 2, 0)) := rfl
theorem bl_X4_on_17 : blk bX4_on 17 = some ([(.istore_n 2, 1, 0, 0, 0), (.iload_n 2, 1, 0, 0, 0)], some (.ifCond .ge 8, 3, 0, 0, 0)) := rfl
theorem bl_X4_on_22 : blk bX4_on 22 = some ([(.bipush (-4), 2, 4, 1, 0)], some (.goto 4, 3, 0, 0, 0)) := rfl
theorem bl_X4_on_27 : blk bX4_on 27 = some ([(.iload_n 2, 1, 0, 0, 0)], none) := rfl
theorem bl_X4_on_28 : blk bX4_on 28 = some ([], some (.ireturn, 1, 0, 0, 0)) := rfl
theorem bl_X4_wrongKept_0 : blk bX4_wrongKept 0 = some ([(.iload_n 1, 1, 0, 0, 0)], some (.invokestatic 246, 3, 145, 1, 0)) := rfl
theorem bl_X4_wrongKept_4 : blk bX4_wrongKept 4 = some ([], some (.ifCond .ne 7, 3, 0, 0, 0)) := rfl
theorem bl_X4_wrongKept_7 : blk bX4_wrongKept 7 = some ([(.iconst (-1), 1, 1, 1, 0)], some (.goto 33, 3, 0, 0, 0)) := rfl
theorem bl_X4_wrongKept_11 : blk bX4_wrongKept 11 = some ([(.aload_n 0, 1, 0, 0, 0), (.getfield 25, 3, 3, 10, 0), (.iload_n 1, 1, 0, 0, 0), (.iaload, 1, 0, 0, 0)], some (.ifCond .ne 8, 3, 0, 0, 0)) := rfl
theorem bl_X4_wrongKept_20 : blk bX4_wrongKept 20 = some ([(.bipush (-11), 2, 11, 1, 0)], some (.goto 19, 3, 0, 0, 0)) := rfl
theorem bl_X4_wrongKept_25 : blk bX4_wrongKept 25 = some ([(.aload_n 0, 1, 0, 0, 0), (.getfield 25, 3, 3, 10, 0), (.iload_n 1, 1, 0, 0, 0), (.iaload, 1, 0, 0, 0), (.iconst 2, 1, 2, 0, 0)], some (.if_icmp .ne 8, 3, 0, 0, 0)) := rfl
theorem bl_X4_wrongKept_35 : blk bX4_wrongKept 35 = some ([(.bipush (-12), 2, 12, 1, 0)], some (.goto 4, 3, 0, 0, 0)) := rfl
theorem bl_X4_wrongKept_40 : blk bX4_wrongKept 40 = some ([(.iconst 0, 1, 0, 0, 0)], none) := rfl
theorem bl_X4_wrongKept_41 : blk bX4_wrongKept 41 = some ([], some (.ireturn, 1, 0, 0, 0)) := rfl
theorem bl_X4_comes_0 : blk bX4_comes 0 = some ([(.iload_n 2, 1, 0, 0, 0)], some (.invokestatic 153, 3, 113, 1, 0)) := rfl
theorem bl_X4_comes_4 : blk bX4_comes 4 = some ([], some (.ifCond .eq 10, 3, 0, 0, 0)) := rfl
theorem bl_X4_comes_7 : blk bX4_comes 7 = some ([(.iload_n 3, 1, 0, 0, 0)], some (.invokestatic 156, 3, 112, 1, 0)) := rfl
theorem bl_X4_comes_11 : blk bX4_comes 11 = some ([], some (.ifCond .ne 5, 3, 0, 0, 0)) := rfl
theorem bl_X4_comes_14 : blk bX4_comes 14 = some ([(.iconst (-1), 1, 1, 1, 0)], some (.ireturn, 1, 0, 0, 0)) := rfl
theorem bl_X4_comes_16 : blk bX4_comes 16 = some ([(.aload_n 0, 1, 0, 0, 0), (.iload_n 1, 1, 0, 0, 0)], some (.invokevirtual 187, 3, 151, 2, 3)) := rfl
theorem bl_X4_comes_21 : blk bX4_comes 21 = some ([(.istore 4, 2, 0, 0, 0), (.iload 4, 2, 0, 0, 0)], some (.ifCond .eq 6, 3, 0, 0, 0)) := rfl
theorem bl_X4_comes_28 : blk bX4_comes 28 = some ([(.iload 4, 2, 0, 0, 0)], some (.ireturn, 1, 0, 0, 0)) := rfl
theorem bl_X4_comes_31 : blk bX4_comes 31 = some ([(.aload_n 0, 1, 0, 0, 0), (.getfield 9, 3, 3, 0, 0), (.iconst 0, 1, 0, 0, 0), (.iaload, 1, 0, 0, 0), (.bipush 10, 2, 10, 0, 0)], some (.if_icmp .ne 6, 3, 0, 0, 0)) := rfl
theorem bl_X4_comes_42 : blk bX4_comes 42 = some ([(.bipush (-2), 2, 2, 1, 0)], some (.ireturn, 1, 0, 0, 0)) := rfl
theorem bl_X4_comes_45 : blk bX4_comes 45 = some ([(.aload_n 0, 1, 0, 0, 0), (.getfield 9, 3, 3, 0, 0), (.iload_n 3, 1, 0, 0, 0)], some (.invokestatic 55, 3, 117, 2, 0)) := rfl
theorem bl_X4_comes_53 : blk bX4_comes 53 = some ([], some (.ifCond .lt 6, 3, 0, 0, 0)) := rfl
theorem bl_X4_comes_56 : blk bX4_comes 56 = some ([(.bipush (-3), 2, 3, 1, 0)], some (.ireturn, 1, 0, 0, 0)) := rfl
theorem bl_X4_comes_59 : blk bX4_comes 59 = some ([(.aload_n 0, 1, 0, 0, 0), (.aload_n 0, 1, 0, 0, 0), (.getfield 28, 3, 3, 11, 0), (.iload_n 1, 1, 0, 0, 0), (.iaload, 1, 0, 0, 0), (.aload_n 0, 1, 0, 0, 0), (.getfield 31, 3, 3, 12, 0), (.iload_n 1, 1, 0, 0, 0), (.iaload, 1, 0, 0, 0), (.iload_n 2, 1, 0, 0, 0), (.iload_n 3, 1, 0, 0, 0)], some (.invokevirtual 159, 3, 142, 5, 3)) := rfl
theorem bl_X4_comes_77 : blk bX4_comes 77 = some ([(.aload_n 0, 1, 0, 0, 0), (.getfield 9, 3, 3, 0, 0), (.iconst 0, 1, 0, 0, 0), (.iaload, 1, 0, 0, 0), (.iconst 1, 1, 1, 0, 0), (.isub, 1, 0, 0, 0)], some (.ireturn, 1, 0, 0, 0)) := rfl
theorem bl_X4_sets_0 : blk bX4_sets 0 = some ([(.aload_n 0, 1, 0, 0, 0), (.getfield 9, 3, 3, 0, 0), (.iload_n 1, 1, 0, 0, 0), (.iaload, 1, 0, 0, 0), (.istore_n 3, 1, 0, 0, 0), (.aload_n 0, 1, 0, 0, 0), (.getfield 9, 3, 3, 0, 0), (.iload_n 1, 1, 0, 0, 0), (.iload_n 2, 1, 0, 0, 0), (.iastore, 1, 0, 0, 0), (.iload_n 3, 1, 0, 0, 0)], some (.ireturn, 1, 0, 0, 0)) := rfl
theorem bl_X4_stands_0 : blk bX4_stands 0 = some ([(.aload_n 0, 1, 0, 0, 0), (.iload_n 1, 1, 0, 0, 0)], some (.invokevirtual 47, 3, 110, 2, 3)) := rfl
theorem bl_X4_stands_5 : blk bX4_stands 5 = some ([], some (.ifCond .eq 10, 3, 0, 0, 0)) := rfl
theorem bl_X4_stands_8 : blk bX4_stands 8 = some ([(.iload_n 2, 1, 0, 0, 0)], some (.invokestatic 156, 3, 112, 1, 0)) := rfl
theorem bl_X4_stands_12 : blk bX4_stands 12 = some ([], some (.ifCond .ne 5, 3, 0, 0, 0)) := rfl
theorem bl_X4_stands_15 : blk bX4_stands 15 = some ([(.iconst (-1), 1, 1, 1, 0)], some (.ireturn, 1, 0, 0, 0)) := rfl
theorem bl_X4_stands_17 : blk bX4_stands 17 = some ([(.aload_n 0, 1, 0, 0, 0), (.iload_n 1, 1, 0, 0, 0), (.iload_n 2, 1, 0, 0, 0)], some (.invokevirtual 163, 3, 143, 3, 3)) := rfl
theorem bl_X4_stands_23 : blk bX4_stands 23 = some ([], some (.ifCond .eq 16, 3, 0, 0, 0)) := rfl
theorem bl_X4_stands_26 : blk bX4_stands 26 = some ([(.aload_n 0, 1, 0, 0, 0), (.iload_n 1, 1, 0, 0, 0), (.iconst 3, 1, 3, 0, 0)], some (.invokestatic 51, 3, 109, 2, 0)) := rfl
theorem bl_X4_stands_32 : blk bX4_stands 32 = some ([(.iload_n 2, 1, 0, 0, 0)], some (.invokevirtual 190, 3, 153, 3, 3)) := rfl
theorem bl_X4_stands_36 : blk bX4_stands 36 = some ([], some (.goto 5, 3, 0, 0, 0)) := rfl
theorem bl_X4_stands_39 : blk bX4_stands 39 = some ([(.bipush (-3), 2, 3, 1, 0)], none) := rfl
theorem bl_X4_stands_41 : blk bX4_stands 41 = some ([], some (.ireturn, 1, 0, 0, 0)) := rfl
theorem bl_X4_takes_0 : blk bX4_takes 0 = some ([(.aload_n 0, 1, 0, 0, 0), (.iload_n 1, 1, 0, 0, 0)], some (.invokevirtual 47, 3, 110, 2, 3)) := rfl
theorem bl_X4_takes_5 : blk bX4_takes 5 = some ([], some (.ifCond .ne 5, 3, 0, 0, 0)) := rfl
theorem bl_X4_takes_8 : blk bX4_takes 8 = some ([(.iconst (-1), 1, 1, 1, 0)], some (.ireturn, 1, 0, 0, 0)) := rfl
theorem bl_X4_takes_10 : blk bX4_takes 10 = some ([(.aload_n 0, 1, 0, 0, 0), (.getfield 9, 3, 3, 0, 0), (.iload_n 1, 1, 0, 0, 0)], some (.invokestatic 78, 3, 114, 2, 0)) := rfl
theorem bl_X4_takes_18 : blk bX4_takes 18 = some ([], some (.ifCond .eq 17, 3, 0, 0, 0)) := rfl
theorem bl_X4_takes_21 : blk bX4_takes 21 = some ([(.aload_n 0, 1, 0, 0, 0), (.iload_n 1, 1, 0, 0, 0), (.iconst 3, 1, 3, 0, 0)], some (.invokestatic 51, 3, 109, 2, 0)) := rfl
theorem bl_X4_takes_27 : blk bX4_takes 27 = some ([(.bipush (-4), 2, 4, 1, 0)], some (.invokevirtual 190, 3, 153, 3, 3)) := rfl
theorem bl_X4_takes_32 : blk bX4_takes 32 = some ([], some (.goto 5, 3, 0, 0, 0)) := rfl
theorem bl_X4_takes_35 : blk bX4_takes 35 = some ([(.bipush (-3), 2, 3, 1, 0)], none) := rfl
theorem bl_X4_takes_37 : blk bX4_takes 37 = some ([], some (.ireturn, 1, 0, 0, 0)) := rfl
theorem bl_X4_turn_0 : blk bX4_turn 0 = some ([(.iload_n 1, 1, 0, 0, 0)], some (.invokestatic 153, 3, 113, 1, 0)) := rfl
theorem bl_X4_turn_4 : blk bX4_turn 4 = some ([], some (.ifCond .eq 12, 3, 0, 0, 0)) := rfl
theorem bl_X4_turn_7 : blk bX4_turn 7 = some ([(.aload_n 0, 1, 0, 0, 0), (.iconst 2, 1, 2, 0, 0), (.iload_n 1, 1, 0, 0, 0)], some (.invokevirtual 190, 3, 153, 3, 3)) := rfl
theorem bl_X4_turn_13 : blk bX4_turn 13 = some ([], some (.goto 4, 3, 0, 0, 0)) := rfl
theorem bl_X4_turn_16 : blk bX4_turn 16 = some ([(.iconst (-1), 1, 1, 1, 0)], none) := rfl
theorem bl_X4_turn_17 : blk bX4_turn 17 = some ([], some (.ireturn, 1, 0, 0, 0)) := rfl
theorem bl_X4_days_0 : blk bX4_days 0 = some ([(.iload_n 1, 1, 0, 0, 0), (.iconst 1, 1, 1, 0, 0), (.bipush 60, 2, 60, 0, 0)], some (.invokestatic 43, 3, 105, 3, 0)) := rfl
theorem bl_X4_days_7 : blk bX4_days 7 = some ([], some (.ifCond .ne 5, 3, 0, 0, 0)) := rfl
theorem bl_X4_days_10 : blk bX4_days 10 = some ([(.iconst (-1), 1, 1, 1, 0)], some (.ireturn, 1, 0, 0, 0)) := rfl
theorem bl_X4_days_12 : blk bX4_days 12 = some ([(.aload_n 0, 1, 0, 0, 0), (.getfield 9, 3, 3, 0, 0), (.iconst 1, 1, 1, 0, 0), (.iaload, 1, 0, 0, 0), (.iload_n 1, 1, 0, 0, 0), (.iadd, 1, 0, 0, 0), (.sipush 999, 3, 999, 0, 0)], some (.if_icmp .le 6, 3, 0, 0, 0)) := rfl
theorem bl_X4_days_26 : blk bX4_days 26 = some ([(.bipush (-3), 2, 3, 1, 0)], some (.ireturn, 1, 0, 0, 0)) := rfl
theorem bl_X4_days_29 : blk bX4_days 29 = some ([(.aload_n 0, 1, 0, 0, 0), (.getfield 9, 3, 3, 0, 0), (.iload_n 1, 1, 0, 0, 0)], some (.invokestatic 166, 3, 138, 2, 0)) := rfl
theorem bl_X4_days_37 : blk bX4_days 37 = some ([(.aload_n 0, 1, 0, 0, 0), (.getfield 9, 3, 3, 0, 0)], some (.invokestatic 193, 3, 133, 1, 0)) := rfl
theorem bl_X4_days_44 : blk bX4_days 44 = some ([], some (.invokestatic 123, 3, 116, 1, 0)) := rfl
theorem bl_X4_days_47 : blk bX4_days 47 = some ([], some (.ireturn, 1, 0, 0, 0)) := rfl
theorem bl_X4_isLate_0 : blk bX4_isLate 0 = some ([(.iload_n 0, 1, 0, 0, 0), (.iconst 0, 1, 0, 0, 0), (.bipush 60, 2, 60, 0, 0)], some (.invokestatic 43, 3, 105, 3, 0)) := rfl
theorem bl_X4_isLate_7 : blk bX4_isLate 7 = some ([], some (.ireturn, 1, 1, 0, 0)) := rfl
theorem bl_X4_inMind_0 : blk bX4_inMind 0 = some ([(.aload_n 0, 1, 0, 0, 0), (.getfield 9, 3, 3, 0, 0), (.aload_n 0, 1, 0, 0, 0), (.getfield 13, 3, 3, 1, 0)], some (.invokestatic 177, 3, 108, 2, 0)) := rfl
theorem bl_X4_inMind_11 : blk bX4_inMind 11 = some ([(.aload_n 0, 1, 0, 0, 0), (.getfield 13, 3, 3, 1, 0), (.iload_n 1, 1, 0, 0, 0)], some (.invokestatic 166, 3, 138, 2, 0)) := rfl
theorem bl_X4_inMind_19 : blk bX4_inMind 19 = some ([], some (.return_, 1, 0, 0, 0)) := rfl
theorem bl_X4_squareThen_0 : blk bX4_squareThen 0 = some ([(.aload_n 0, 1, 0, 0, 0), (.iload_n 1, 1, 0, 0, 0)], some (.invokevirtual 47, 3, 110, 2, 3)) := rfl
theorem bl_X4_squareThen_5 : blk bX4_squareThen 5 = some ([], some (.ifCond .eq 10, 3, 0, 0, 0)) := rfl
theorem bl_X4_squareThen_8 : blk bX4_squareThen 8 = some ([(.iload_n 2, 1, 0, 0, 0)], some (.invokestatic 197, 3, 158, 1, 0)) := rfl
theorem bl_X4_squareThen_12 : blk bX4_squareThen 12 = some ([], some (.ifCond .ne 5, 3, 0, 0, 0)) := rfl
theorem bl_X4_squareThen_15 : blk bX4_squareThen 15 = some ([(.iconst (-1), 1, 1, 1, 0)], some (.ireturn, 1, 0, 0, 0)) := rfl
theorem bl_X4_squareThen_17 : blk bX4_squareThen 17 = some ([(.aload_n 0, 1, 0, 0, 0), (.iload_n 2, 1, 0, 0, 0)], some (.invokevirtual 200, 3, 159, 2, 3)) := rfl
theorem bl_X4_squareThen_22 : blk bX4_squareThen 22 = some ([(.aload_n 0, 1, 0, 0, 0), (.getfield 13, 3, 3, 1, 0), (.iload_n 1, 1, 0, 0, 0), (.iconst 3, 1, 3, 0, 0)], some (.invokestatic 51, 3, 109, 2, 0)) := rfl
theorem bl_X4_squareThen_31 : blk bX4_squareThen 31 = some ([(.iaload, 1, 0, 0, 0)], some (.ireturn, 1, 0, 0, 0)) := rfl
theorem bl_X4_then_0 : blk bX4_then 0 = some ([(.iload_n 1, 1, 0, 0, 0)], some (.invokestatic 197, 3, 158, 1, 0)) := rfl
theorem bl_X4_then_4 : blk bX4_then 4 = some ([], some (.ifCond .eq 12, 3, 0, 0, 0)) := rfl
theorem bl_X4_then_7 : blk bX4_then 7 = some ([(.iload_n 2, 1, 0, 0, 0), (.iconst 0, 1, 0, 0, 0), (.iconst 3, 1, 3, 0, 0)], some (.invokestatic 43, 3, 105, 3, 0)) := rfl
theorem bl_X4_then_13 : blk bX4_then 13 = some ([], some (.ifCond .ne 5, 3, 0, 0, 0)) := rfl
theorem bl_X4_then_16 : blk bX4_then 16 = some ([(.iconst (-1), 1, 1, 1, 0)], some (.ireturn, 1, 0, 0, 0)) := rfl
theorem bl_X4_then_18 : blk bX4_then 18 = some ([(.aload_n 0, 1, 0, 0, 0), (.iload_n 1, 1, 0, 0, 0)], some (.invokevirtual 200, 3, 159, 2, 3)) := rfl
theorem bl_X4_then_23 : blk bX4_then 23 = some ([(.iload_n 2, 1, 0, 0, 0)], some (.ifCond .ne 13, 3, 0, 0, 0)) := rfl
theorem bl_X4_then_27 : blk bX4_then 27 = some ([(.aload_n 0, 1, 0, 0, 0), (.getfield 13, 3, 3, 1, 0)], some (.invokestatic 193, 3, 133, 1, 0)) := rfl
theorem bl_X4_then_34 : blk bX4_then 34 = some ([], some (.goto 34, 3, 0, 0, 0)) := rfl
theorem bl_X4_then_37 : blk bX4_then 37 = some ([(.iload_n 2, 1, 0, 0, 0), (.iconst 1, 1, 1, 0, 0)], some (.if_icmp .ne 12, 3, 0, 0, 0)) := rfl
theorem bl_X4_then_42 : blk bX4_then 42 = some ([(.aload_n 0, 1, 0, 0, 0), (.getfield 13, 3, 3, 1, 0), (.iconst 3, 1, 3, 0, 0), (.iaload, 1, 0, 0, 0)], some (.goto 20, 3, 0, 0, 0)) := rfl
theorem bl_X4_then_51 : blk bX4_then 51 = some ([(.aload_n 0, 1, 0, 0, 0), (.getfield 13, 3, 3, 1, 0), (.aload_n 0, 1, 0, 0, 0), (.getfield 13, 3, 3, 1, 0), (.iload_n 2, 1, 0, 0, 0), (.iconst 2, 1, 2, 0, 0), (.isub, 1, 0, 0, 0)], some (.invokestatic 114, 3, 134, 2, 0)) := rfl
theorem bl_X4_then_65 : blk bX4_then 65 = some ([], some (.invokestatic 204, 3, 135, 2, 0)) := rfl
theorem bl_X4_then_68 : blk bX4_then 68 = some ([], some (.ireturn, 1, 0, 0, 0)) := rfl
theorem bl_X4_fallsOf_0 : blk bX4_fallsOf 0 = some ([(.aload_n 0, 1, 0, 0, 0), (.getfield 9, 3, 3, 0, 0), (.aload_n 0, 1, 0, 0, 0), (.getfield 13, 3, 3, 1, 0)], some (.invokestatic 177, 3, 108, 2, 0)) := rfl
theorem bl_X4_fallsOf_11 : blk bX4_fallsOf 11 = some ([(.iconst 0, 1, 0, 0, 0), (.istore_n 2, 1, 0, 0, 0)], none) := rfl
theorem bl_X4_fallsOf_13 : blk bX4_fallsOf 13 = some ([(.iload_n 2, 1, 0, 0, 0), (.bipush 60, 2, 60, 0, 0)], some (.if_icmp .gt 29, 3, 0, 0, 0)) := rfl
theorem bl_X4_fallsOf_19 : blk bX4_fallsOf 19 = some ([(.aload_n 0, 1, 0, 0, 0), (.getfield 13, 3, 3, 1, 0), (.iload_n 1, 1, 0, 0, 0)], some (.invokestatic 78, 3, 114, 2, 0)) := rfl
theorem bl_X4_fallsOf_27 : blk bX4_fallsOf 27 = some ([], some (.ifCond .ne 5, 3, 0, 0, 0)) := rfl
theorem bl_X4_fallsOf_30 : blk bX4_fallsOf 30 = some ([(.iload_n 2, 1, 0, 0, 0)], some (.ireturn, 1, 0, 0, 0)) := rfl
theorem bl_X4_fallsOf_32 : blk bX4_fallsOf 32 = some ([(.aload_n 0, 1, 0, 0, 0), (.getfield 13, 3, 3, 1, 0)], some (.invokestatic 132, 3, 137, 1, 0)) := rfl
theorem bl_X4_fallsOf_39 : blk bX4_fallsOf 39 = some ([(.iinc 2 1, 3, 1, 0, 0)], some (.goto (-29), 3, 0, 0, 0)) := rfl
theorem bl_X4_fallsOf_45 : blk bX4_fallsOf 45 = some ([(.bipush (-4), 2, 4, 1, 0)], some (.ireturn, 1, 0, 0, 0)) := rfl
theorem bl_X4_firstFalls_0 : blk bX4_firstFalls 0 = some ([(.bipush (-4), 2, 4, 1, 0), (.istore_n 1, 1, 0, 0, 0), (.ldc 207, 2, 1000000000, 0, 0), (.istore_n 2, 1, 0, 0, 0), (.iconst 0, 1, 0, 0, 0), (.istore_n 3, 1, 0, 0, 0)], none) := rfl
theorem bl_X4_firstFalls_8 : blk bX4_firstFalls 8 = some ([(.iload_n 3, 1, 0, 0, 0), (.aload_n 0, 1, 0, 0, 0), (.getfield 9, 3, 3, 0, 0), (.iconst 0, 1, 0, 0, 0), (.iaload, 1, 0, 0, 0)], some (.if_icmp .ge 51, 3, 0, 0, 0)) := rfl
theorem bl_X4_firstFalls_18 : blk bX4_firstFalls 18 = some ([(.aload_n 0, 1, 0, 0, 0), (.getfield 9, 3, 3, 0, 0), (.iload_n 3, 1, 0, 0, 0)], some (.invokestatic 78, 3, 114, 2, 0)) := rfl
theorem bl_X4_firstFalls_26 : blk bX4_firstFalls 26 = some ([], some (.ifCond .eq 11, 3, 0, 0, 0)) := rfl
theorem bl_X4_firstFalls_29 : blk bX4_firstFalls 29 = some ([(.aload_n 0, 1, 0, 0, 0), (.iload_n 3, 1, 0, 0, 0)], some (.invokevirtual 208, 3, 162, 2, 3)) := rfl
theorem bl_X4_firstFalls_34 : blk bX4_firstFalls 34 = some ([], some (.goto 5, 3, 0, 0, 0)) := rfl
theorem bl_X4_firstFalls_37 : blk bX4_firstFalls 37 = some ([(.bipush (-4), 2, 4, 1, 0)], none) := rfl
theorem bl_X4_firstFalls_39 : blk bX4_firstFalls 39 = some ([(.istore 4, 2, 0, 0, 0), (.iload 4, 2, 0, 0, 0)], some (.ifCond .lt 17, 3, 0, 0, 0)) := rfl
theorem bl_X4_firstFalls_46 : blk bX4_firstFalls 46 = some ([(.iload 4, 2, 0, 0, 0), (.iload_n 2, 1, 0, 0, 0)], some (.if_icmp .lt 6, 3, 0, 0, 0)) := rfl
theorem bl_X4_firstFalls_52 : blk bX4_firstFalls 52 = some ([], some (.goto 8, 3, 0, 0, 0)) := rfl
theorem bl_X4_firstFalls_55 : blk bX4_firstFalls 55 = some ([(.iload_n 3, 1, 0, 0, 0), (.istore_n 1, 1, 0, 0, 0), (.iload 4, 2, 0, 0, 0), (.istore_n 2, 1, 0, 0, 0)], none) := rfl
theorem bl_X4_firstFalls_60 : blk bX4_firstFalls 60 = some ([(.iinc 3 1, 3, 1, 0, 0)], some (.goto (-55), 3, 0, 0, 0)) := rfl
theorem bl_X4_firstFalls_66 : blk bX4_firstFalls 66 = some ([(.iload_n 1, 1, 0, 0, 0)], some (.ireturn, 1, 0, 0, 0)) := rfl
theorem bl_X4_falls_0 : blk bX4_falls 0 = some ([(.iload_n 1, 1, 0, 0, 0), (.iconst (-1), 1, 1, 1, 0)], some (.if_icmp .ne 10, 3, 0, 0, 0)) := rfl
theorem bl_X4_falls_5 : blk bX4_falls 5 = some ([(.aload_n 0, 1, 0, 0, 0)], some (.invokevirtual 211, 3, 163, 1, 3)) := rfl
theorem bl_X4_falls_9 : blk bX4_falls 9 = some ([], some (.goto 20, 3, 0, 0, 0)) := rfl
theorem bl_X4_falls_12 : blk bX4_falls 12 = some ([(.aload_n 0, 1, 0, 0, 0), (.iload_n 1, 1, 0, 0, 0)], some (.invokevirtual 47, 3, 110, 2, 3)) := rfl
theorem bl_X4_falls_17 : blk bX4_falls 17 = some ([], some (.ifCond .eq 11, 3, 0, 0, 0)) := rfl
theorem bl_X4_falls_20 : blk bX4_falls 20 = some ([(.aload_n 0, 1, 0, 0, 0), (.iload_n 1, 1, 0, 0, 0)], some (.invokevirtual 208, 3, 162, 2, 3)) := rfl
theorem bl_X4_falls_25 : blk bX4_falls 25 = some ([], some (.goto 4, 3, 0, 0, 0)) := rfl
theorem bl_X4_falls_28 : blk bX4_falls 28 = some ([(.iconst (-1), 1, 1, 1, 0)], none) := rfl
theorem bl_X4_falls_29 : blk bX4_falls 29 = some ([], some (.ireturn, 1, 0, 0, 0)) := rfl
theorem bl_X4_isMoved_0 : blk bX4_isMoved 0 = some ([(.iconst 0, 1, 0, 0, 0), (.istore_n 1, 1, 0, 0, 0), (.aload_n 0, 1, 0, 0, 0), (.getfield 13, 3, 3, 1, 0), (.aload_n 0, 1, 0, 0, 0), (.getfield 19, 3, 3, 3, 0)], some (.invokestatic 177, 3, 108, 2, 0)) := rfl
theorem bl_X4_isMoved_13 : blk bX4_isMoved 13 = some ([(.aload_n 0, 1, 0, 0, 0), (.getfield 13, 3, 3, 1, 0)], some (.invokestatic 132, 3, 137, 1, 0)) := rfl
theorem bl_X4_isMoved_20 : blk bX4_isMoved 20 = some ([(.iconst 0, 1, 0, 0, 0), (.istore_n 2, 1, 0, 0, 0)], none) := rfl
theorem bl_X4_isMoved_22 : blk bX4_isMoved 22 = some ([(.iload_n 2, 1, 0, 0, 0), (.aload_n 0, 1, 0, 0, 0), (.getfield 13, 3, 3, 1, 0), (.iconst 0, 1, 0, 0, 0), (.iaload, 1, 0, 0, 0)], some (.if_icmp .ge 40, 3, 0, 0, 0)) := rfl
theorem bl_X4_isMoved_32 : blk bX4_isMoved 32 = some ([(.iload_n 1, 1, 0, 0, 0), (.aload_n 0, 1, 0, 0, 0), (.getfield 13, 3, 3, 1, 0), (.iload_n 2, 1, 0, 0, 0), (.iconst 3, 1, 3, 0, 0)], some (.invokestatic 51, 3, 109, 2, 0)) := rfl
theorem bl_X4_isMoved_42 : blk bX4_isMoved 42 = some ([(.iaload, 1, 0, 0, 0), (.aload_n 0, 1, 0, 0, 0), (.getfield 19, 3, 3, 3, 0), (.iload_n 2, 1, 0, 0, 0), (.iconst 3, 1, 3, 0, 0)], some (.invokestatic 51, 3, 109, 2, 0)) := rfl
theorem bl_X4_isMoved_52 : blk bX4_isMoved 52 = some ([(.iaload, 1, 0, 0, 0)], some (.if_icmp .eq 7, 3, 0, 0, 0)) := rfl
theorem bl_X4_isMoved_56 : blk bX4_isMoved 56 = some ([(.iconst 1, 1, 1, 0, 0)], some (.goto 4, 3, 0, 0, 0)) := rfl
theorem bl_X4_isMoved_60 : blk bX4_isMoved 60 = some ([(.iconst 0, 1, 0, 0, 0)], none) := rfl
theorem bl_X4_isMoved_61 : blk bX4_isMoved 61 = some ([(.ior, 1, 0, 0, 0), (.istore_n 1, 1, 0, 0, 0), (.iinc 2 1, 3, 1, 0, 0)], some (.goto (-44), 3, 0, 0, 0)) := rfl
theorem bl_X4_isMoved_69 : blk bX4_isMoved 69 = some ([(.iload_n 1, 1, 0, 0, 0)], some (.ireturn, 1, 1, 0, 0)) := rfl
theorem bl_X4_still_0 : blk bX4_still 0 = some ([(.aload_n 0, 1, 0, 0, 0), (.getfield 9, 3, 3, 0, 0), (.aload_n 0, 1, 0, 0, 0), (.getfield 13, 3, 3, 1, 0)], some (.invokestatic 177, 3, 108, 2, 0)) := rfl
theorem bl_X4_still_11 : blk bX4_still 11 = some ([(.iconst 0, 1, 0, 0, 0), (.istore_n 1, 1, 0, 0, 0), (.iconst 0, 1, 0, 0, 0), (.istore_n 2, 1, 0, 0, 0)], none) := rfl
theorem bl_X4_still_15 : blk bX4_still 15 = some ([(.iload_n 2, 1, 0, 0, 0), (.bipush 60, 2, 60, 0, 0)], some (.if_icmp .ge 35, 3, 0, 0, 0)) := rfl
theorem bl_X4_still_21 : blk bX4_still 21 = some ([(.aload_n 0, 1, 0, 0, 0)], some (.invokevirtual 214, 3, 165, 1, 3)) := rfl
theorem bl_X4_still_25 : blk bX4_still 25 = some ([], some (.ifCond .eq 7, 3, 0, 0, 0)) := rfl
theorem bl_X4_still_28 : blk bX4_still 28 = some ([(.iconst 0, 1, 0, 0, 0)], some (.goto 6, 3, 0, 0, 0)) := rfl
theorem bl_X4_still_32 : blk bX4_still 32 = some ([(.iload_n 1, 1, 0, 0, 0), (.iconst 1, 1, 1, 0, 0), (.iadd, 1, 0, 0, 0)], none) := rfl
theorem bl_X4_still_35 : blk bX4_still 35 = some ([(.istore_n 1, 1, 0, 0, 0), (.iload_n 1, 1, 0, 0, 0), (.bipush 20, 2, 20, 0, 0)], some (.if_icmp .ne 8, 3, 0, 0, 0)) := rfl
theorem bl_X4_still_42 : blk bX4_still 42 = some ([(.iload_n 2, 1, 0, 0, 0), (.bipush 19, 2, 19, 0, 0), (.isub, 1, 0, 0, 0)], some (.ireturn, 1, 0, 0, 0)) := rfl
theorem bl_X4_still_47 : blk bX4_still 47 = some ([(.iinc 2 1, 3, 1, 0, 0)], some (.goto (-35), 3, 0, 0, 0)) := rfl
theorem bl_X4_still_53 : blk bX4_still 53 = some ([(.bipush (-4), 2, 4, 1, 0)], some (.ireturn, 1, 0, 0, 0)) := rfl
theorem bl_X4_next_0 : blk bX4_next 0 = some ([(.iload_n 1, 1, 0, 0, 0), (.iconst 0, 1, 0, 0, 0), (.iconst 2, 1, 2, 0, 0)], some (.invokestatic 43, 3, 105, 3, 0)) := rfl
theorem bl_X4_next_6 : blk bX4_next 6 = some ([], some (.ifCond .ne 5, 3, 0, 0, 0)) := rfl
theorem bl_X4_next_9 : blk bX4_next 9 = some ([(.iconst (-1), 1, 1, 1, 0)], some (.ireturn, 1, 0, 0, 0)) := rfl
theorem bl_X4_next_11 : blk bX4_next 11 = some ([(.aload_n 0, 1, 0, 0, 0), (.getfield 9, 3, 3, 0, 0), (.aload_n 0, 1, 0, 0, 0), (.getfield 9, 3, 3, 0, 0), (.iconst 1, 1, 1, 0, 0), (.iaload, 1, 0, 0, 0), (.iconst 1, 1, 1, 0, 0), (.iadd, 1, 0, 0, 0)], some (.invokestatic 126, 3, 136, 2, 0)) := rfl
theorem bl_X4_next_26 : blk bX4_next 26 = some ([(.istore_n 2, 1, 0, 0, 0), (.iload_n 2, 1, 0, 0, 0)], some (.ifCond .ge 15, 3, 0, 0, 0)) := rfl
theorem bl_X4_next_31 : blk bX4_next 31 = some ([(.iload_n 1, 1, 0, 0, 0), (.iconst 2, 1, 2, 0, 0)], some (.if_icmp .ne 7, 3, 0, 0, 0)) := rfl
theorem bl_X4_next_36 : blk bX4_next 36 = some ([(.iconst 0, 1, 0, 0, 0)], some (.goto 5, 3, 0, 0, 0)) := rfl
theorem bl_X4_next_40 : blk bX4_next 40 = some ([(.bipush (-4), 2, 4, 1, 0)], none) := rfl
theorem bl_X4_next_42 : blk bX4_next 42 = some ([], some (.ireturn, 1, 0, 0, 0)) := rfl
theorem bl_X4_next_43 : blk bX4_next 43 = some ([(.iload_n 1, 1, 0, 0, 0)], some (.ifCond .ne 7, 3, 0, 0, 0)) := rfl
theorem bl_X4_next_47 : blk bX4_next 47 = some ([(.iload_n 2, 1, 0, 0, 0)], some (.goto 27, 3, 0, 0, 0)) := rfl
theorem bl_X4_next_51 : blk bX4_next 51 = some ([(.iload_n 1, 1, 0, 0, 0), (.iconst 1, 1, 1, 0, 0)], some (.if_icmp .ne 11, 3, 0, 0, 0)) := rfl
theorem bl_X4_next_56 : blk bX4_next 56 = some ([(.aload_n 0, 1, 0, 0, 0), (.iload_n 2, 1, 0, 0, 0)], some (.invokevirtual 184, 3, 148, 2, 3)) := rfl
theorem bl_X4_next_61 : blk bX4_next 61 = some ([], some (.goto 14, 3, 0, 0, 0)) := rfl
theorem bl_X4_next_64 : blk bX4_next 64 = some ([(.aload_n 0, 1, 0, 0, 0), (.getfield 9, 3, 3, 0, 0), (.iload_n 2, 1, 0, 0, 0)], some (.invokestatic 120, 3, 132, 2, 0)) := rfl
theorem bl_X4_next_72 : blk bX4_next 72 = some ([], some (.invokestatic 123, 3, 116, 1, 0)) := rfl
theorem bl_X4_next_75 : blk bX4_next 75 = some ([], some (.ireturn, 1, 0, 0, 0)) := rfl
theorem bl_X4_heard_0 : blk bX4_heard 0 = some ([(.aload_n 0, 1, 0, 0, 0), (.iload_n 1, 1, 0, 0, 0)], some (.invokevirtual 47, 3, 110, 2, 3)) := rfl
theorem bl_X4_heard_5 : blk bX4_heard 5 = some ([], some (.ifCond .ne 5, 3, 0, 0, 0)) := rfl
theorem bl_X4_heard_8 : blk bX4_heard 8 = some ([(.iconst (-1), 1, 1, 1, 0)], some (.ireturn, 1, 0, 0, 0)) := rfl
theorem bl_X4_heard_10 : blk bX4_heard 10 = some ([(.aload_n 0, 1, 0, 0, 0), (.getfield 9, 3, 3, 0, 0), (.iload_n 1, 1, 0, 0, 0)], some (.invokestatic 78, 3, 114, 2, 0)) := rfl
theorem bl_X4_heard_18 : blk bX4_heard 18 = some ([], some (.ifCond .eq 14, 3, 0, 0, 0)) := rfl
theorem bl_X4_heard_21 : blk bX4_heard 21 = some ([(.aload_n 0, 1, 0, 0, 0), (.getfield 9, 3, 3, 0, 0), (.iload_n 1, 1, 0, 0, 0)], some (.invokestatic 120, 3, 132, 2, 0)) := rfl
theorem bl_X4_heard_29 : blk bX4_heard 29 = some ([], some (.goto 5, 3, 0, 0, 0)) := rfl
theorem bl_X4_heard_32 : blk bX4_heard 32 = some ([(.bipush (-3), 2, 3, 1, 0)], none) := rfl
theorem bl_X4_heard_34 : blk bX4_heard 34 = some ([], some (.ireturn, 1, 0, 0, 0)) := rfl
theorem bl_X4_danger_0 : blk bX4_danger 0 = some ([(.iload_n 1, 1, 0, 0, 0)], some (.invokestatic 153, 3, 113, 1, 0)) := rfl
theorem bl_X4_danger_4 : blk bX4_danger 4 = some ([], some (.ifCond .ne 5, 3, 0, 0, 0)) := rfl
theorem bl_X4_danger_7 : blk bX4_danger 7 = some ([(.iconst (-1), 1, 1, 1, 0)], some (.ireturn, 1, 0, 0, 0)) := rfl
theorem bl_X4_danger_9 : blk bX4_danger 9 = some ([(.iconst 0, 1, 0, 0, 0), (.istore_n 2, 1, 0, 0, 0), (.iconst 0, 1, 0, 0, 0), (.istore_n 3, 1, 0, 0, 0)], none) := rfl
theorem bl_X4_danger_13 : blk bX4_danger 13 = some ([(.iload_n 3, 1, 0, 0, 0), (.aload_n 0, 1, 0, 0, 0), (.getfield 9, 3, 3, 0, 0), (.iconst 0, 1, 0, 0, 0), (.iaload, 1, 0, 0, 0)], some (.if_icmp .ge 86, 3, 0, 0, 0)) := rfl
theorem bl_X4_danger_23 : blk bX4_danger 23 = some ([(.aload_n 0, 1, 0, 0, 0), (.getfield 9, 3, 3, 0, 0), (.iload_n 3, 1, 0, 0, 0), (.iconst 2, 1, 2, 0, 0)], some (.invokestatic 51, 3, 109, 2, 0)) := rfl
theorem bl_X4_danger_32 : blk bX4_danger 32 = some ([(.iaload, 1, 0, 0, 0), (.iload_n 1, 1, 0, 0, 0)], some (.if_icmp .ne 8, 3, 0, 0, 0)) := rfl
theorem bl_X4_danger_37 : blk bX4_danger 37 = some ([(.bipush (-4), 2, 4, 1, 0)], some (.goto 8, 3, 0, 0, 0)) := rfl
theorem bl_X4_danger_42 : blk bX4_danger 42 = some ([(.aload_n 0, 1, 0, 0, 0), (.iload_n 3, 1, 0, 0, 0)], some (.invokevirtual 184, 3, 148, 2, 3)) := rfl
theorem bl_X4_danger_47 : blk bX4_danger 47 = some ([(.istore 4, 2, 0, 0, 0), (.iload 4, 2, 0, 0, 0)], some (.ifCond .ge 7, 3, 0, 0, 0)) := rfl
theorem bl_X4_danger_54 : blk bX4_danger 54 = some ([(.iconst (-1), 1, 1, 1, 0)], some (.goto 12, 3, 0, 0, 0)) := rfl
theorem bl_X4_danger_58 : blk bX4_danger 58 = some ([(.aload_n 0, 1, 0, 0, 0), (.getfield 9, 3, 3, 0, 0), (.iload 4, 2, 0, 0, 0)], some (.invokestatic 55, 3, 117, 2, 0)) := rfl
theorem bl_X4_danger_67 : blk bX4_danger 67 = some ([(.istore 5, 2, 0, 0, 0), (.iload_n 2, 1, 0, 0, 0), (.iload 5, 2, 0, 0, 0)], some (.ifCond .lt 25, 3, 0, 0, 0)) := rfl
theorem bl_X4_danger_75 : blk bX4_danger 75 = some ([(.aload_n 0, 1, 0, 0, 0), (.getfield 9, 3, 3, 0, 0), (.iload 5, 2, 0, 0, 0), (.iconst 2, 1, 2, 0, 0)], some (.invokestatic 51, 3, 109, 2, 0)) := rfl
theorem bl_X4_danger_85 : blk bX4_danger 85 = some ([(.iaload, 1, 0, 0, 0), (.iload_n 1, 1, 0, 0, 0)], some (.if_icmp .ne 10, 3, 0, 0, 0)) := rfl
theorem bl_X4_danger_90 : blk bX4_danger 90 = some ([(.iconst 1, 1, 1, 0, 0), (.iload 5, 2, 0, 0, 0), (.ishl, 1, 0, 0, 0)], some (.goto 4, 3, 0, 0, 0)) := rfl
theorem bl_X4_danger_97 : blk bX4_danger 97 = some ([(.iconst 0, 1, 0, 0, 0)], none) := rfl
theorem bl_X4_danger_98 : blk bX4_danger 98 = some ([(.ior, 1, 0, 0, 0), (.istore_n 2, 1, 0, 0, 0), (.iinc 3 1, 3, 1, 0, 0)], some (.goto (-90), 3, 0, 0, 0)) := rfl
theorem bl_X4_danger_106 : blk bX4_danger 106 = some ([(.iload_n 2, 1, 0, 0, 0)], some (.ireturn, 1, 0, 0, 0)) := rfl
theorem bl_X4_stand_0 : blk bX4_stand 0 = some ([(.aload_n 0, 1, 0, 0, 0), (.iload_n 1, 1, 0, 0, 0)], some (.invokevirtual 47, 3, 110, 2, 3)) := rfl
theorem bl_X4_stand_5 : blk bX4_stand 5 = some ([], some (.ifCond .eq 22, 3, 0, 0, 0)) := rfl
theorem bl_X4_stand_8 : blk bX4_stand 8 = some ([(.iload_n 2, 1, 0, 0, 0), (.iconst 0, 1, 0, 0, 0), (.bipush 20, 2, 20, 0, 0)], some (.invokestatic 43, 3, 105, 3, 0)) := rfl
theorem bl_X4_stand_15 : blk bX4_stand 15 = some ([], some (.ifCond .eq 12, 3, 0, 0, 0)) := rfl
theorem bl_X4_stand_18 : blk bX4_stand 18 = some ([(.iload_n 3, 1, 0, 0, 0), (.iconst 0, 1, 0, 0, 0), (.iconst 1, 1, 1, 0, 0)], some (.invokestatic 43, 3, 105, 3, 0)) := rfl
theorem bl_X4_stand_24 : blk bX4_stand 24 = some ([], some (.ifCond .ne 5, 3, 0, 0, 0)) := rfl
theorem bl_X4_stand_27 : blk bX4_stand 27 = some ([(.iconst (-1), 1, 1, 1, 0)], some (.ireturn, 1, 0, 0, 0)) := rfl
theorem bl_X4_stand_29 : blk bX4_stand 29 = some ([(.aload_n 0, 1, 0, 0, 0), (.getfield 9, 3, 3, 0, 0), (.iload_n 1, 1, 0, 0, 0)], some (.invokestatic 78, 3, 114, 2, 0)) := rfl
theorem bl_X4_stand_37 : blk bX4_stand 37 = some ([], some (.ifCond .ne 6, 3, 0, 0, 0)) := rfl
theorem bl_X4_stand_40 : blk bX4_stand 40 = some ([(.bipush (-3), 2, 3, 1, 0)], some (.ireturn, 1, 0, 0, 0)) := rfl
theorem bl_X4_stand_43 : blk bX4_stand 43 = some ([(.aload_n 0, 1, 0, 0, 0), (.getfield 9, 3, 3, 0, 0), (.iload_n 1, 1, 0, 0, 0), (.iconst 2, 1, 2, 0, 0)], some (.invokestatic 51, 3, 109, 2, 0)) := rfl
theorem bl_X4_stand_52 : blk bX4_stand 52 = some ([(.iaload, 1, 0, 0, 0), (.istore 4, 2, 0, 0, 0), (.iconst 0, 1, 0, 0, 0), (.istore 5, 2, 0, 0, 0), (.ldc 217, 2, 1000000000, 1, 0), (.istore 6, 2, 0, 0, 0), (.iconst 0, 1, 0, 0, 0), (.istore 7, 2, 0, 0, 0)], none) := rfl
theorem bl_X4_stand_65 : blk bX4_stand 65 = some ([(.iload 7, 2, 0, 0, 0), (.bipush 36, 2, 36, 0, 0)], some (.if_icmp .ge 108, 3, 0, 0, 0)) := rfl
theorem bl_X4_stand_72 : blk bX4_stand 72 = some ([(.aload_n 0, 1, 0, 0, 0), (.iload_n 1, 1, 0, 0, 0), (.iload 7, 2, 0, 0, 0)], some (.invokevirtual 163, 3, 143, 3, 3)) := rfl
theorem bl_X4_stand_79 : blk bX4_stand 79 = some ([], some (.ifCond .ne 6, 3, 0, 0, 0)) := rfl
theorem bl_X4_stand_82 : blk bX4_stand 82 = some ([], some (.goto 89, 3, 0, 0, 0)) := rfl
theorem bl_X4_stand_85 : blk bX4_stand 85 = some ([(.aload_n 0, 1, 0, 0, 0), (.getfield 9, 3, 3, 0, 0), (.aload_n 0, 1, 0, 0, 0), (.getfield 13, 3, 3, 1, 0)], some (.invokestatic 177, 3, 108, 2, 0)) := rfl
theorem bl_X4_stand_96 : blk bX4_stand 96 = some ([(.aload_n 0, 1, 0, 0, 0), (.getfield 13, 3, 3, 1, 0), (.iload_n 1, 1, 0, 0, 0), (.iconst 3, 1, 3, 0, 0)], some (.invokestatic 51, 3, 109, 2, 0)) := rfl
theorem bl_X4_stand_105 : blk bX4_stand 105 = some ([(.iload 7, 2, 0, 0, 0), (.iastore, 1, 0, 0, 0), (.aload_n 0, 1, 0, 0, 0), (.getfield 13, 3, 3, 1, 0), (.iload_n 2, 1, 0, 0, 0)], some (.invokestatic 166, 3, 138, 2, 0)) := rfl
theorem bl_X4_stand_116 : blk bX4_stand 116 = some ([(.aload_n 0, 1, 0, 0, 0), (.getfield 13, 3, 3, 1, 0), (.aload_n 0, 1, 0, 0, 0), (.getfield 13, 3, 3, 1, 0), (.iload 4, 2, 0, 0, 0)], some (.invokestatic 114, 3, 134, 2, 0)) := rfl
theorem bl_X4_stand_129 : blk bX4_stand 129 = some ([], some (.invokestatic 204, 3, 135, 2, 0)) := rfl
theorem bl_X4_stand_132 : blk bX4_stand 132 = some ([(.aload_n 0, 1, 0, 0, 0), (.getfield 13, 3, 3, 1, 0), (.aload_n 0, 1, 0, 0, 0), (.getfield 13, 3, 3, 1, 0), (.iconst 1, 1, 1, 0, 0), (.iload 4, 2, 0, 0, 0), (.isub, 1, 0, 0, 0)], some (.invokestatic 114, 3, 134, 2, 0)) := rfl
theorem bl_X4_stand_147 : blk bX4_stand 147 = some ([], some (.invokestatic 204, 3, 135, 2, 0)) := rfl
theorem bl_X4_stand_150 : blk bX4_stand 150 = some ([(.isub, 1, 0, 0, 0), (.istore 8, 2, 0, 0, 0), (.iload 8, 2, 0, 0, 0), (.iload 6, 2, 0, 0, 0)], some (.if_icmp .gt 6, 3, 0, 0, 0)) := rfl
theorem bl_X4_stand_160 : blk bX4_stand 160 = some ([], some (.goto 11, 3, 0, 0, 0)) := rfl
theorem bl_X4_stand_163 : blk bX4_stand 163 = some ([(.iload 7, 2, 0, 0, 0), (.istore 5, 2, 0, 0, 0), (.iload 8, 2, 0, 0, 0), (.istore 6, 2, 0, 0, 0)], none) := rfl
theorem bl_X4_stand_171 : blk bX4_stand 171 = some ([(.iinc 7 1, 3, 1, 0, 0)], some (.goto (-109), 3, 0, 0, 0)) := rfl
theorem bl_X4_stand_177 : blk bX4_stand 177 = some ([(.iload_n 3, 1, 0, 0, 0)], some (.ifCond .ne 8, 3, 0, 0, 0)) := rfl
theorem bl_X4_stand_181 : blk bX4_stand 181 = some ([(.iload 5, 2, 0, 0, 0)], some (.goto 8, 3, 0, 0, 0)) := rfl
theorem bl_X4_stand_186 : blk bX4_stand 186 = some ([(.iload 6, 2, 0, 0, 0), (.bipush 100, 2, 100, 0, 0), (.iadd, 1, 0, 0, 0)], none) := rfl
theorem bl_X4_stand_191 : blk bX4_stand 191 = some ([], some (.ireturn, 1, 0, 0, 0)) := rfl
theorem bl_X4_off_0 : blk bX4_off 0 = some ([(.iload_n 1, 1, 0, 0, 0), (.iconst 0, 1, 0, 0, 0), (.bipush 30, 2, 30, 0, 0)], some (.invokestatic 43, 3, 105, 3, 0)) := rfl
theorem bl_X4_off_7 : blk bX4_off 7 = some ([], some (.ifCond .ne 5, 3, 0, 0, 0)) := rfl
theorem bl_X4_off_10 : blk bX4_off 10 = some ([(.iconst (-1), 1, 1, 1, 0)], some (.ireturn, 1, 0, 0, 0)) := rfl
theorem bl_X4_off_12 : blk bX4_off 12 = some ([(.bipush (-4), 2, 4, 1, 0), (.istore_n 2, 1, 0, 0, 0), (.iconst (-1), 1, 1, 1, 0), (.istore_n 3, 1, 0, 0, 0), (.iconst 0, 1, 0, 0, 0), (.istore 4, 2, 0, 0, 0)], none) := rfl
theorem bl_X4_off_20 : blk bX4_off 20 = some ([(.iload 4, 2, 0, 0, 0), (.aload_n 0, 1, 0, 0, 0), (.getfield 9, 3, 3, 0, 0), (.iconst 0, 1, 0, 0, 0), (.iaload, 1, 0, 0, 0)], some (.if_icmp .ge 139, 3, 0, 0, 0)) := rfl
theorem bl_X4_off_31 : blk bX4_off 31 = some ([(.aload_n 0, 1, 0, 0, 0), (.getfield 9, 3, 3, 0, 0), (.iload 4, 2, 0, 0, 0)], some (.invokestatic 78, 3, 114, 2, 0)) := rfl
theorem bl_X4_off_40 : blk bX4_off 40 = some ([], some (.ifCond .ne 6, 3, 0, 0, 0)) := rfl
theorem bl_X4_off_43 : blk bX4_off 43 = some ([], some (.goto 118, 3, 0, 0, 0)) := rfl
theorem bl_X4_off_46 : blk bX4_off 46 = some ([(.aload_n 0, 1, 0, 0, 0), (.getfield 9, 3, 3, 0, 0), (.iload 4, 2, 0, 0, 0), (.iconst 2, 1, 2, 0, 0)], some (.invokestatic 51, 3, 109, 2, 0)) := rfl
theorem bl_X4_off_56 : blk bX4_off 56 = some ([(.iaload, 1, 0, 0, 0), (.istore 5, 2, 0, 0, 0), (.aload_n 0, 1, 0, 0, 0), (.iload_n 1, 1, 0, 0, 0)], some (.invokevirtual 200, 3, 159, 2, 3)) := rfl
theorem bl_X4_off_64 : blk bX4_off 64 = some ([(.aload_n 0, 1, 0, 0, 0), (.getfield 13, 3, 3, 1, 0), (.aload_n 0, 1, 0, 0, 0), (.getfield 13, 3, 3, 1, 0), (.iload 5, 2, 0, 0, 0)], some (.invokestatic 114, 3, 134, 2, 0)) := rfl
theorem bl_X4_off_77 : blk bX4_off 77 = some ([(.iconst 1, 1, 1, 0, 0), (.iload 4, 2, 0, 0, 0), (.ishl, 1, 0, 0, 0), (.iconst (-1), 1, 1, 1, 0), (.ixor, 1, 0, 0, 0), (.iand, 1, 0, 0, 0)], some (.invokestatic 204, 3, 135, 2, 0)) := rfl
theorem bl_X4_off_87 : blk bX4_off 87 = some ([(.istore 6, 2, 0, 0, 0), (.aload_n 0, 1, 0, 0, 0), (.getfield 9, 3, 3, 0, 0), (.aload_n 0, 1, 0, 0, 0), (.getfield 13, 3, 3, 1, 0)], some (.invokestatic 177, 3, 108, 2, 0)) := rfl
theorem bl_X4_off_100 : blk bX4_off 100 = some ([(.aload_n 0, 1, 0, 0, 0), (.getfield 13, 3, 3, 1, 0), (.iload 4, 2, 0, 0, 0), (.iconst 3, 1, 3, 0, 0)], some (.invokestatic 51, 3, 109, 2, 0)) := rfl
theorem bl_X4_off_110 : blk bX4_off 110 = some ([(.bipush (-4), 2, 4, 1, 0), (.iastore, 1, 0, 0, 0), (.aload_n 0, 1, 0, 0, 0), (.getfield 13, 3, 3, 1, 0), (.iload_n 1, 1, 0, 0, 0)], some (.invokestatic 166, 3, 138, 2, 0)) := rfl
theorem bl_X4_off_121 : blk bX4_off 121 = some ([(.aload_n 0, 1, 0, 0, 0), (.getfield 13, 3, 3, 1, 0), (.aload_n 0, 1, 0, 0, 0), (.getfield 13, 3, 3, 1, 0), (.iload 5, 2, 0, 0, 0)], some (.invokestatic 114, 3, 134, 2, 0)) := rfl
theorem bl_X4_off_134 : blk bX4_off 134 = some ([], some (.invokestatic 204, 3, 135, 2, 0)) := rfl
theorem bl_X4_off_137 : blk bX4_off 137 = some ([(.istore 7, 2, 0, 0, 0), (.iload 7, 2, 0, 0, 0), (.iload 6, 2, 0, 0, 0)], some (.if_icmp .le 18, 3, 0, 0, 0)) := rfl
theorem bl_X4_off_146 : blk bX4_off 146 = some ([(.iload 7, 2, 0, 0, 0), (.iload_n 3, 1, 0, 0, 0)], some (.if_icmp .gt 6, 3, 0, 0, 0)) := rfl
theorem bl_X4_off_152 : blk bX4_off 152 = some ([], some (.goto 9, 3, 0, 0, 0)) := rfl
theorem bl_X4_off_155 : blk bX4_off 155 = some ([(.iload 4, 2, 0, 0, 0), (.istore_n 2, 1, 0, 0, 0), (.iload 7, 2, 0, 0, 0), (.istore_n 3, 1, 0, 0, 0)], none) := rfl
theorem bl_X4_off_161 : blk bX4_off 161 = some ([(.iinc 4 1, 3, 1, 0, 0)], some (.goto (-144), 3, 0, 0, 0)) := rfl
theorem bl_X4_off_167 : blk bX4_off 167 = some ([(.iload_n 2, 1, 0, 0, 0)], some (.ireturn, 1, 0, 0, 0)) := rfl
theorem bl_X4_ears_0 : blk bX4_ears 0 = some ([(.aload_n 0, 1, 0, 0, 0), (.iload_n 1, 1, 0, 0, 0), (.iload_n 2, 1, 0, 0, 0)], some (.invokevirtual 218, 3, 111, 3, 3)) := rfl
theorem bl_X4_ears_6 : blk bX4_ears 6 = some ([], some (.ifCond .ne 5, 3, 0, 0, 0)) := rfl
theorem bl_X4_ears_9 : blk bX4_ears 9 = some ([(.iconst (-1), 1, 1, 1, 0)], some (.ireturn, 1, 0, 0, 0)) := rfl
theorem bl_X4_ears_11 : blk bX4_ears 11 = some ([(.iconst 0, 1, 0, 0, 0), (.istore_n 3, 1, 0, 0, 0)], none) := rfl
theorem bl_X4_ears_13 : blk bX4_ears 13 = some ([(.iload_n 3, 1, 0, 0, 0), (.bipush 10, 2, 10, 0, 0)], some (.if_icmp .ge 45, 3, 0, 0, 0)) := rfl
theorem bl_X4_ears_19 : blk bX4_ears 19 = some ([(.aload_n 0, 1, 0, 0, 0), (.getfield 9, 3, 3, 0, 0), (.aload_n 0, 1, 0, 0, 0), (.getfield 13, 3, 3, 1, 0)], some (.invokestatic 177, 3, 108, 2, 0)) := rfl
theorem bl_X4_ears_30 : blk bX4_ears 30 = some ([(.aload_n 0, 1, 0, 0, 0), (.getfield 13, 3, 3, 1, 0), (.iload_n 1, 1, 0, 0, 0), (.iconst 1, 1, 1, 0, 0)], some (.invokestatic 51, 3, 109, 2, 0)) := rfl
theorem bl_X4_ears_39 : blk bX4_ears 39 = some ([(.iload_n 3, 1, 0, 0, 0), (.iastore, 1, 0, 0, 0), (.aload_n 0, 1, 0, 0, 0), (.getfield 13, 3, 3, 1, 0), (.iload_n 1, 1, 0, 0, 0), (.iload_n 2, 1, 0, 0, 0)], some (.invokestatic 108, 3, 131, 3, 0)) := rfl
theorem bl_X4_ears_50 : blk bX4_ears 50 = some ([], some (.ifCond .eq 5, 3, 0, 0, 0)) := rfl
theorem bl_X4_ears_53 : blk bX4_ears 53 = some ([(.iload_n 3, 1, 0, 0, 0)], some (.ireturn, 1, 0, 0, 0)) := rfl
theorem bl_X4_ears_55 : blk bX4_ears 55 = some ([(.iinc 3 1, 3, 1, 0, 0)], some (.goto (-45), 3, 0, 0, 0)) := rfl
theorem bl_X4_ears_61 : blk bX4_ears 61 = some ([(.bipush (-4), 2, 4, 1, 0)], some (.ireturn, 1, 0, 0, 0)) := rfl
theorem bl_X4_groupsOf_0 : blk bX4_groupsOf 0 = some ([(.aload_n 0, 1, 0, 0, 0), (.getfield 9, 3, 3, 0, 0), (.iload_n 1, 1, 0, 0, 0)], some (.invokestatic 114, 3, 134, 2, 0)) := rfl
theorem bl_X4_groupsOf_8 : blk bX4_groupsOf 8 = some ([(.istore_n 2, 1, 0, 0, 0), (.iconst 0, 1, 0, 0, 0), (.istore_n 3, 1, 0, 0, 0), (.iconst 0, 1, 0, 0, 0), (.istore 4, 2, 0, 0, 0)], none) := rfl
theorem bl_X4_groupsOf_14 : blk bX4_groupsOf 14 = some ([(.iload 4, 2, 0, 0, 0), (.aload_n 0, 1, 0, 0, 0), (.getfield 9, 3, 3, 0, 0), (.iconst 0, 1, 0, 0, 0), (.iaload, 1, 0, 0, 0)], some (.if_icmp .ge 140, 3, 0, 0, 0)) := rfl
theorem bl_X4_groupsOf_25 : blk bX4_groupsOf 25 = some ([(.iload_n 2, 1, 0, 0, 0), (.iload 4, 2, 0, 0, 0)], some (.invokestatic 84, 3, 115, 2, 0)) := rfl
theorem bl_X4_groupsOf_31 : blk bX4_groupsOf 31 = some ([], some (.ifCond .ne 6, 3, 0, 0, 0)) := rfl
theorem bl_X4_groupsOf_34 : blk bX4_groupsOf 34 = some ([], some (.goto 122, 3, 0, 0, 0)) := rfl
theorem bl_X4_groupsOf_37 : blk bX4_groupsOf 37 = some ([(.iconst 1, 1, 1, 0, 0), (.iload 4, 2, 0, 0, 0), (.ishl, 1, 0, 0, 0), (.istore 5, 2, 0, 0, 0), (.iconst 0, 1, 0, 0, 0), (.istore 6, 2, 0, 0, 0)], none) := rfl
theorem bl_X4_groupsOf_46 : blk bX4_groupsOf 46 = some ([(.iload 6, 2, 0, 0, 0), (.bipush 10, 2, 10, 0, 0)], some (.if_icmp .ge 96, 3, 0, 0, 0)) := rfl
theorem bl_X4_groupsOf_53 : blk bX4_groupsOf 53 = some ([(.iconst 0, 1, 0, 0, 0), (.istore 7, 2, 0, 0, 0)], none) := rfl
theorem bl_X4_groupsOf_56 : blk bX4_groupsOf 56 = some ([(.iload 7, 2, 0, 0, 0), (.aload_n 0, 1, 0, 0, 0), (.getfield 9, 3, 3, 0, 0), (.iconst 0, 1, 0, 0, 0), (.iaload, 1, 0, 0, 0)], some (.if_icmp .ge 76, 3, 0, 0, 0)) := rfl
theorem bl_X4_groupsOf_67 : blk bX4_groupsOf 67 = some ([(.iconst 0, 1, 0, 0, 0), (.istore 8, 2, 0, 0, 0)], none) := rfl
theorem bl_X4_groupsOf_70 : blk bX4_groupsOf 70 = some ([(.iload 8, 2, 0, 0, 0), (.aload_n 0, 1, 0, 0, 0), (.getfield 9, 3, 3, 0, 0), (.iconst 0, 1, 0, 0, 0), (.iaload, 1, 0, 0, 0)], some (.if_icmp .ge 56, 3, 0, 0, 0)) := rfl
theorem bl_X4_groupsOf_81 : blk bX4_groupsOf 81 = some ([(.iload 5, 2, 0, 0, 0), (.iload 7, 2, 0, 0, 0)], some (.invokestatic 84, 3, 115, 2, 0)) := rfl
theorem bl_X4_groupsOf_88 : blk bX4_groupsOf 88 = some ([], some (.ifCond .eq 40, 3, 0, 0, 0)) := rfl
theorem bl_X4_groupsOf_91 : blk bX4_groupsOf 91 = some ([(.aload_n 0, 1, 0, 0, 0), (.getfield 9, 3, 3, 0, 0), (.iload 7, 2, 0, 0, 0), (.iload 8, 2, 0, 0, 0)], some (.invokestatic 108, 3, 131, 3, 0)) := rfl
theorem bl_X4_groupsOf_102 : blk bX4_groupsOf 102 = some ([], some (.ifCond .ne 17, 3, 0, 0, 0)) := rfl
theorem bl_X4_groupsOf_105 : blk bX4_groupsOf 105 = some ([(.aload_n 0, 1, 0, 0, 0), (.getfield 9, 3, 3, 0, 0), (.iload 8, 2, 0, 0, 0), (.iload 7, 2, 0, 0, 0)], some (.invokestatic 108, 3, 131, 3, 0)) := rfl
theorem bl_X4_groupsOf_116 : blk bX4_groupsOf 116 = some ([], some (.ifCond .eq 12, 3, 0, 0, 0)) := rfl
theorem bl_X4_groupsOf_119 : blk bX4_groupsOf 119 = some ([(.iload 5, 2, 0, 0, 0), (.iconst 1, 1, 1, 0, 0), (.iload 8, 2, 0, 0, 0), (.ishl, 1, 0, 0, 0), (.ior, 1, 0, 0, 0), (.istore 5, 2, 0, 0, 0)], none) := rfl
theorem bl_X4_groupsOf_128 : blk bX4_groupsOf 128 = some ([(.iinc 8 1, 3, 1, 0, 0)], some (.goto (-61), 3, 0, 0, 0)) := rfl
theorem bl_X4_groupsOf_134 : blk bX4_groupsOf 134 = some ([(.iinc 7 1, 3, 1, 0, 0)], some (.goto (-81), 3, 0, 0, 0)) := rfl
theorem bl_X4_groupsOf_140 : blk bX4_groupsOf 140 = some ([(.iinc 6 1, 3, 1, 0, 0)], some (.goto (-97), 3, 0, 0, 0)) := rfl
theorem bl_X4_groupsOf_146 : blk bX4_groupsOf 146 = some ([(.iload_n 2, 1, 0, 0, 0), (.iload 5, 2, 0, 0, 0), (.iconst (-1), 1, 1, 1, 0), (.ixor, 1, 0, 0, 0), (.iand, 1, 0, 0, 0), (.istore_n 2, 1, 0, 0, 0), (.iinc 3 1, 3, 1, 0, 0)], none) := rfl
theorem bl_X4_groupsOf_156 : blk bX4_groupsOf 156 = some ([(.iinc 4 1, 3, 1, 0, 0)], some (.goto (-145), 3, 0, 0, 0)) := rfl
theorem bl_X4_groupsOf_162 : blk bX4_groupsOf 162 = some ([(.iload_n 3, 1, 0, 0, 0)], some (.ireturn, 1, 0, 0, 0)) := rfl
theorem bl_X4_farthestOf_0 : blk bX4_farthestOf 0 = some ([(.bipush (-4), 2, 4, 1, 0), (.istore_n 2, 1, 0, 0, 0), (.iconst 0, 1, 0, 0, 0), (.istore_n 3, 1, 0, 0, 0)], none) := rfl
theorem bl_X4_farthestOf_5 : blk bX4_farthestOf 5 = some ([(.iload_n 3, 1, 0, 0, 0), (.aload_n 0, 1, 0, 0, 0), (.getfield 9, 3, 3, 0, 0), (.iconst 0, 1, 0, 0, 0), (.iaload, 1, 0, 0, 0)], some (.if_icmp .ge 90, 3, 0, 0, 0)) := rfl
theorem bl_X4_farthestOf_15 : blk bX4_farthestOf 15 = some ([(.aload_n 0, 1, 0, 0, 0), (.getfield 9, 3, 3, 0, 0), (.iload_n 3, 1, 0, 0, 0)], some (.invokestatic 78, 3, 114, 2, 0)) := rfl
theorem bl_X4_farthestOf_23 : blk bX4_farthestOf 23 = some ([], some (.ifCond .eq 73, 3, 0, 0, 0)) := rfl
theorem bl_X4_farthestOf_26 : blk bX4_farthestOf 26 = some ([(.aload_n 0, 1, 0, 0, 0), (.getfield 9, 3, 3, 0, 0), (.iload_n 3, 1, 0, 0, 0), (.iconst 2, 1, 2, 0, 0)], some (.invokestatic 51, 3, 109, 2, 0)) := rfl
theorem bl_X4_farthestOf_35 : blk bX4_farthestOf 35 = some ([(.iaload, 1, 0, 0, 0), (.iload_n 1, 1, 0, 0, 0)], some (.if_icmp .eq 6, 3, 0, 0, 0)) := rfl
theorem bl_X4_farthestOf_40 : blk bX4_farthestOf 40 = some ([], some (.goto 56, 3, 0, 0, 0)) := rfl
theorem bl_X4_farthestOf_43 : blk bX4_farthestOf 43 = some ([(.iload_n 2, 1, 0, 0, 0)], some (.ifCond .ge 7, 3, 0, 0, 0)) := rfl
theorem bl_X4_farthestOf_47 : blk bX4_farthestOf 47 = some ([(.iconst 1, 1, 1, 0, 0)], some (.goto 39, 3, 0, 0, 0)) := rfl
theorem bl_X4_farthestOf_51 : blk bX4_farthestOf 51 = some ([(.aload_n 0, 1, 0, 0, 0), (.getfield 9, 3, 3, 0, 0), (.iload_n 3, 1, 0, 0, 0), (.iconst 3, 1, 3, 0, 0)], some (.invokestatic 51, 3, 109, 2, 0)) := rfl
theorem bl_X4_farthestOf_60 : blk bX4_farthestOf 60 = some ([(.iaload, 1, 0, 0, 0), (.bipush 6, 2, 6, 0, 0), (.idiv, 1, 0, 0, 0), (.aload_n 0, 1, 0, 0, 0), (.getfield 9, 3, 3, 0, 0), (.iload_n 2, 1, 0, 0, 0), (.iconst 3, 1, 3, 0, 0)], some (.invokestatic 51, 3, 109, 2, 0)) := rfl
theorem bl_X4_farthestOf_73 : blk bX4_farthestOf 73 = some ([(.iaload, 1, 0, 0, 0), (.bipush 6, 2, 6, 0, 0), (.idiv, 1, 0, 0, 0), (.isub, 1, 0, 0, 0), (.aload_n 0, 1, 0, 0, 0), (.getfield 9, 3, 3, 0, 0), (.iload_n 3, 1, 0, 0, 0)], some (.invokestatic 63, 3, 122, 2, 0)) := rfl
theorem bl_X4_farthestOf_86 : blk bX4_farthestOf 86 = some ([(.imul, 1, 0, 0, 0)], none) := rfl
theorem bl_X4_farthestOf_87 : blk bX4_farthestOf 87 = some ([(.istore 4, 2, 0, 0, 0), (.iload 4, 2, 0, 0, 0)], some (.ifCond .le 5, 3, 0, 0, 0)) := rfl
theorem bl_X4_farthestOf_94 : blk bX4_farthestOf 94 = some ([(.iload_n 3, 1, 0, 0, 0), (.istore_n 2, 1, 0, 0, 0)], none) := rfl
theorem bl_X4_farthestOf_96 : blk bX4_farthestOf 96 = some ([(.iinc 3 1, 3, 1, 0, 0)], some (.goto (-94), 3, 0, 0, 0)) := rfl
theorem bl_X4_farthestOf_102 : blk bX4_farthestOf 102 = some ([(.iload_n 2, 1, 0, 0, 0)], some (.ireturn, 1, 0, 0, 0)) := rfl
theorem bl_X4_side_0 : blk bX4_side 0 = some ([(.iload_n 1, 1, 0, 0, 0)], some (.invokestatic 153, 3, 113, 1, 0)) := rfl
theorem bl_X4_side_4 : blk bX4_side 4 = some ([], some (.ifCond .eq 12, 3, 0, 0, 0)) := rfl
theorem bl_X4_side_7 : blk bX4_side 7 = some ([(.iload_n 2, 1, 0, 0, 0), (.iconst 0, 1, 0, 0, 0), (.iconst 3, 1, 3, 0, 0)], some (.invokestatic 43, 3, 105, 3, 0)) := rfl
theorem bl_X4_side_13 : blk bX4_side 13 = some ([], some (.ifCond .ne 5, 3, 0, 0, 0)) := rfl
theorem bl_X4_side_16 : blk bX4_side 16 = some ([(.iconst (-1), 1, 1, 1, 0)], some (.ireturn, 1, 0, 0, 0)) := rfl
theorem bl_X4_side_18 : blk bX4_side 18 = some ([(.aload_n 0, 1, 0, 0, 0), (.getfield 9, 3, 3, 0, 0), (.iload_n 1, 1, 0, 0, 0)], some (.invokestatic 114, 3, 134, 2, 0)) := rfl
theorem bl_X4_side_26 : blk bX4_side 26 = some ([(.istore_n 3, 1, 0, 0, 0), (.iload_n 2, 1, 0, 0, 0)], some (.ifCond .ne 11, 3, 0, 0, 0)) := rfl
theorem bl_X4_side_31 : blk bX4_side 31 = some ([(.aload_n 0, 1, 0, 0, 0), (.iload_n 1, 1, 0, 0, 0)], some (.invokevirtual 221, 3, 173, 2, 3)) := rfl
theorem bl_X4_side_36 : blk bX4_side 36 = some ([], some (.goto 36, 3, 0, 0, 0)) := rfl
theorem bl_X4_side_39 : blk bX4_side 39 = some ([(.iload_n 2, 1, 0, 0, 0), (.iconst 1, 1, 1, 0, 0)], some (.if_icmp .ne 14, 3, 0, 0, 0)) := rfl
theorem bl_X4_side_44 : blk bX4_side 44 = some ([(.aload_n 0, 1, 0, 0, 0), (.getfield 9, 3, 3, 0, 0), (.iload_n 3, 1, 0, 0, 0)], some (.invokestatic 204, 3, 135, 2, 0)) := rfl
theorem bl_X4_side_52 : blk bX4_side 52 = some ([], some (.goto 20, 3, 0, 0, 0)) := rfl
theorem bl_X4_side_55 : blk bX4_side 55 = some ([(.iload_n 2, 1, 0, 0, 0), (.iconst 2, 1, 2, 0, 0)], some (.if_icmp .ne 11, 3, 0, 0, 0)) := rfl
theorem bl_X4_side_60 : blk bX4_side 60 = some ([(.aload_n 0, 1, 0, 0, 0), (.iload_n 1, 1, 0, 0, 0)], some (.invokevirtual 224, 3, 174, 2, 3)) := rfl
theorem bl_X4_side_65 : blk bX4_side 65 = some ([], some (.goto 7, 3, 0, 0, 0)) := rfl
theorem bl_X4_side_68 : blk bX4_side 68 = some ([(.iload_n 3, 1, 0, 0, 0)], some (.invokestatic 123, 3, 116, 1, 0)) := rfl
theorem bl_X4_side_72 : blk bX4_side 72 = some ([], some (.ireturn, 1, 0, 0, 0)) := rfl
theorem bl_X4_pairs_0 : blk bX4_pairs 0 = some ([(.iconst 0, 1, 0, 0, 0), (.istore_n 1, 1, 0, 0, 0), (.iconst 0, 1, 0, 0, 0), (.istore_n 2, 1, 0, 0, 0)], none) := rfl
theorem bl_X4_pairs_4 : blk bX4_pairs 4 = some ([(.iload_n 2, 1, 0, 0, 0), (.aload_n 0, 1, 0, 0, 0), (.getfield 9, 3, 3, 0, 0), (.iconst 0, 1, 0, 0, 0), (.iaload, 1, 0, 0, 0)], some (.if_icmp .ge 109, 3, 0, 0, 0)) := rfl
theorem bl_X4_pairs_14 : blk bX4_pairs 14 = some ([(.iload_n 2, 1, 0, 0, 0), (.iconst 1, 1, 1, 0, 0), (.iadd, 1, 0, 0, 0), (.istore_n 3, 1, 0, 0, 0)], none) := rfl
theorem bl_X4_pairs_18 : blk bX4_pairs 18 = some ([(.iload_n 3, 1, 0, 0, 0), (.aload_n 0, 1, 0, 0, 0), (.getfield 9, 3, 3, 0, 0), (.iconst 0, 1, 0, 0, 0), (.iaload, 1, 0, 0, 0)], some (.if_icmp .ge 89, 3, 0, 0, 0)) := rfl
theorem bl_X4_pairs_28 : blk bX4_pairs 28 = some ([(.iload_n 1, 1, 0, 0, 0), (.aload_n 0, 1, 0, 0, 0), (.getfield 9, 3, 3, 0, 0), (.iload_n 2, 1, 0, 0, 0)], some (.invokestatic 78, 3, 114, 2, 0)) := rfl
theorem bl_X4_pairs_37 : blk bX4_pairs 37 = some ([], some (.ifCond .eq 68, 3, 0, 0, 0)) := rfl
theorem bl_X4_pairs_40 : blk bX4_pairs 40 = some ([(.aload_n 0, 1, 0, 0, 0), (.getfield 9, 3, 3, 0, 0), (.iload_n 3, 1, 0, 0, 0)], some (.invokestatic 78, 3, 114, 2, 0)) := rfl
theorem bl_X4_pairs_48 : blk bX4_pairs 48 = some ([], some (.ifCond .eq 57, 3, 0, 0, 0)) := rfl
theorem bl_X4_pairs_51 : blk bX4_pairs 51 = some ([(.aload_n 0, 1, 0, 0, 0), (.getfield 9, 3, 3, 0, 0), (.iload_n 2, 1, 0, 0, 0), (.iconst 2, 1, 2, 0, 0)], some (.invokestatic 51, 3, 109, 2, 0)) := rfl
theorem bl_X4_pairs_60 : blk bX4_pairs 60 = some ([(.iaload, 1, 0, 0, 0), (.aload_n 0, 1, 0, 0, 0), (.getfield 9, 3, 3, 0, 0), (.iload_n 3, 1, 0, 0, 0), (.iconst 2, 1, 2, 0, 0)], some (.invokestatic 51, 3, 109, 2, 0)) := rfl
theorem bl_X4_pairs_70 : blk bX4_pairs 70 = some ([(.iaload, 1, 0, 0, 0)], some (.if_icmp .eq 34, 3, 0, 0, 0)) := rfl
theorem bl_X4_pairs_74 : blk bX4_pairs 74 = some ([(.aload_n 0, 1, 0, 0, 0), (.getfield 9, 3, 3, 0, 0), (.iload_n 2, 1, 0, 0, 0), (.iconst 3, 1, 3, 0, 0)], some (.invokestatic 51, 3, 109, 2, 0)) := rfl
theorem bl_X4_pairs_83 : blk bX4_pairs 83 = some ([(.iaload, 1, 0, 0, 0), (.aload_n 0, 1, 0, 0, 0), (.getfield 9, 3, 3, 0, 0), (.iload_n 3, 1, 0, 0, 0), (.iconst 3, 1, 3, 0, 0)], some (.invokestatic 51, 3, 109, 2, 0)) := rfl
theorem bl_X4_pairs_93 : blk bX4_pairs 93 = some ([(.iaload, 1, 0, 0, 0)], some (.invokestatic 81, 3, 121, 2, 0)) := rfl
theorem bl_X4_pairs_97 : blk bX4_pairs 97 = some ([(.iconst 1, 1, 1, 0, 0)], some (.if_icmp .ne 7, 3, 0, 0, 0)) := rfl
theorem bl_X4_pairs_101 : blk bX4_pairs 101 = some ([(.iconst 1, 1, 1, 0, 0)], some (.goto 4, 3, 0, 0, 0)) := rfl
theorem bl_X4_pairs_105 : blk bX4_pairs 105 = some ([(.iconst 0, 1, 0, 0, 0)], none) := rfl
theorem bl_X4_pairs_106 : blk bX4_pairs 106 = some ([(.iadd, 1, 0, 0, 0), (.istore_n 1, 1, 0, 0, 0), (.iinc 3 1, 3, 1, 0, 0)], some (.goto (-93), 3, 0, 0, 0)) := rfl
theorem bl_X4_pairs_114 : blk bX4_pairs 114 = some ([(.iinc 2 1, 3, 1, 0, 0)], some (.goto (-113), 3, 0, 0, 0)) := rfl
theorem bl_X4_pairs_120 : blk bX4_pairs 120 = some ([(.iload_n 1, 1, 0, 0, 0)], some (.ireturn, 1, 0, 0, 0)) := rfl
theorem bl_X4_quietOnes_0 : blk bX4_quietOnes 0 = some ([(.iconst 0, 1, 0, 0, 0), (.istore_n 1, 1, 0, 0, 0), (.iconst 0, 1, 0, 0, 0), (.istore_n 2, 1, 0, 0, 0)], none) := rfl
theorem bl_X4_quietOnes_4 : blk bX4_quietOnes 4 = some ([(.iload_n 2, 1, 0, 0, 0), (.aload_n 0, 1, 0, 0, 0), (.getfield 9, 3, 3, 0, 0), (.iconst 0, 1, 0, 0, 0), (.iaload, 1, 0, 0, 0)], some (.if_icmp .ge 38, 3, 0, 0, 0)) := rfl
theorem bl_X4_quietOnes_14 : blk bX4_quietOnes 14 = some ([(.iload_n 1, 1, 0, 0, 0), (.aload_n 0, 1, 0, 0, 0), (.getfield 9, 3, 3, 0, 0), (.iload_n 2, 1, 0, 0, 0)], some (.invokestatic 78, 3, 114, 2, 0)) := rfl
theorem bl_X4_quietOnes_23 : blk bX4_quietOnes 23 = some ([], some (.ifCond .eq 17, 3, 0, 0, 0)) := rfl
theorem bl_X4_quietOnes_26 : blk bX4_quietOnes 26 = some ([(.aload_n 0, 1, 0, 0, 0), (.iload_n 2, 1, 0, 0, 0)], some (.invokevirtual 184, 3, 148, 2, 3)) := rfl
theorem bl_X4_quietOnes_31 : blk bX4_quietOnes 31 = some ([], some (.ifCond .ge 9, 3, 0, 0, 0)) := rfl
theorem bl_X4_quietOnes_34 : blk bX4_quietOnes 34 = some ([(.iconst 1, 1, 1, 0, 0), (.iload_n 2, 1, 0, 0, 0), (.ishl, 1, 0, 0, 0)], some (.goto 4, 3, 0, 0, 0)) := rfl
theorem bl_X4_quietOnes_40 : blk bX4_quietOnes 40 = some ([(.iconst 0, 1, 0, 0, 0)], none) := rfl
theorem bl_X4_quietOnes_41 : blk bX4_quietOnes 41 = some ([(.ior, 1, 0, 0, 0), (.istore_n 1, 1, 0, 0, 0), (.iinc 2 1, 3, 1, 0, 0)], some (.goto (-42), 3, 0, 0, 0)) := rfl
theorem bl_X4_quietOnes_49 : blk bX4_quietOnes 49 = some ([(.iload_n 1, 1, 0, 0, 0)], some (.ireturn, 1, 0, 0, 0)) := rfl
theorem bl_X4_free_0 : blk bX4_free 0 = some ([(.iload_n 1, 1, 0, 0, 0)], some (.ifCond .ne 19, 3, 0, 0, 0)) := rfl
theorem bl_X4_free_4 : blk bX4_free 4 = some ([(.bipush 36, 2, 36, 0, 0), (.aload_n 0, 1, 0, 0, 0), (.getfield 9, 3, 3, 0, 0)], some (.invokestatic 193, 3, 133, 1, 0)) := rfl
theorem bl_X4_free_13 : blk bX4_free 13 = some ([], some (.invokestatic 123, 3, 116, 1, 0)) := rfl
theorem bl_X4_free_16 : blk bX4_free 16 = some ([(.isub, 1, 0, 0, 0)], some (.goto 28, 3, 0, 0, 0)) := rfl
theorem bl_X4_free_20 : blk bX4_free 20 = some ([(.iload_n 1, 1, 0, 0, 0), (.iconst 1, 1, 1, 0, 0)], some (.if_icmp .ne 10, 3, 0, 0, 0)) := rfl
theorem bl_X4_free_25 : blk bX4_free 25 = some ([(.aload_n 0, 1, 0, 0, 0)], some (.invokevirtual 227, 3, 176, 1, 3)) := rfl
theorem bl_X4_free_29 : blk bX4_free 29 = some ([], some (.goto 16, 3, 0, 0, 0)) := rfl
theorem bl_X4_free_32 : blk bX4_free 32 = some ([(.iload_n 1, 1, 0, 0, 0), (.iconst 2, 1, 2, 0, 0)], some (.if_icmp .ne 10, 3, 0, 0, 0)) := rfl
theorem bl_X4_free_37 : blk bX4_free 37 = some ([(.aload_n 0, 1, 0, 0, 0)], some (.invokevirtual 230, 3, 177, 1, 3)) := rfl
theorem bl_X4_free_41 : blk bX4_free 41 = some ([], some (.goto 4, 3, 0, 0, 0)) := rfl
theorem bl_X4_free_44 : blk bX4_free 44 = some ([(.iconst (-1), 1, 1, 1, 0)], none) := rfl
theorem bl_X4_free_45 : blk bX4_free 45 = some ([], some (.ireturn, 1, 0, 0, 0)) := rfl
theorem bl_X4_leastOf_0 : blk bX4_leastOf 0 = some ([(.iload_n 0, 1, 0, 0, 0)], some (.ifCond .ne 8, 3, 0, 0, 0)) := rfl
theorem bl_X4_leastOf_4 : blk bX4_leastOf 4 = some ([(.bipush (-128), 2, 128, 1, 0)], some (.goto 16, 3, 0, 0, 0)) := rfl
theorem bl_X4_leastOf_9 : blk bX4_leastOf 9 = some ([(.iload_n 0, 1, 0, 0, 0), (.iconst 1, 1, 1, 0, 0)], some (.if_icmp .ne 9, 3, 0, 0, 0)) := rfl
theorem bl_X4_leastOf_14 : blk bX4_leastOf 14 = some ([(.sipush (-32768), 3, 32768, 1, 0)], some (.goto 5, 3, 0, 0, 0)) := rfl
theorem bl_X4_leastOf_20 : blk bX4_leastOf 20 = some ([(.ldc 233, 2, 2147483648, 1, 0)], none) := rfl
theorem bl_X4_leastOf_22 : blk bX4_leastOf 22 = some ([], some (.ireturn, 1, 0, 0, 0)) := rfl
theorem bl_X4_isTold_0 : blk bX4_isTold 0 = some ([(.aload_n 0, 1, 0, 0, 0), (.getfield 40, 3, 3, 15, 0), (.bipush 100, 2, 100, 0, 0), (.iload_n 1, 1, 0, 0, 0), (.imul, 1, 0, 0, 0), (.iload_n 2, 1, 0, 0, 0), (.iadd, 1, 0, 0, 0), (.iaload, 1, 0, 0, 0), (.aload_n 0, 1, 0, 0, 0), (.getfield 34, 3, 3, 13, 0), (.iload_n 1, 1, 0, 0, 0), (.iaload, 1, 0, 0, 0)], some (.invokestatic 234, 3, 179, 1, 0)) := rfl
theorem bl_X4_isTold_20 : blk bX4_isTold 20 = some ([], some (.if_icmp .eq 18, 3, 0, 0, 0)) := rfl
theorem bl_X4_isTold_23 : blk bX4_isTold 23 = some ([(.aload_n 0, 1, 0, 0, 0), (.getfield 40, 3, 3, 15, 0), (.bipush 100, 2, 100, 0, 0), (.iload_n 1, 1, 0, 0, 0), (.imul, 1, 0, 0, 0), (.iload_n 2, 1, 0, 0, 0), (.iadd, 1, 0, 0, 0), (.iaload, 1, 0, 0, 0), (.iload_n 3, 1, 0, 0, 0)], some (.if_icmp .ne 7, 3, 0, 0, 0)) := rfl
theorem bl_X4_isTold_38 : blk bX4_isTold 38 = some ([(.iconst 1, 1, 1, 0, 0)], some (.goto 4, 3, 0, 0, 0)) := rfl
theorem bl_X4_isTold_42 : blk bX4_isTold 42 = some ([(.iconst 0, 1, 0, 0, 0)], none) := rfl
theorem bl_X4_isTold_43 : blk bX4_isTold 43 = some ([], some (.ireturn, 1, 1, 0, 0)) := rfl
theorem bl_X4_toldSquare_0 : blk bX4_toldSquare 0 = some ([(.aload_n 0, 1, 0, 0, 0), (.iload_n 1, 1, 0, 0, 0)], some (.invokestatic 78, 3, 114, 2, 0)) := rfl
theorem bl_X4_toldSquare_5 : blk bX4_toldSquare 5 = some ([], some (.ifCond .eq 13, 3, 0, 0, 0)) := rfl
theorem bl_X4_toldSquare_8 : blk bX4_toldSquare 8 = some ([(.aload_n 0, 1, 0, 0, 0), (.iload_n 1, 1, 0, 0, 0), (.iconst 3, 1, 3, 0, 0)], some (.invokestatic 51, 3, 109, 2, 0)) := rfl
theorem bl_X4_toldSquare_14 : blk bX4_toldSquare 14 = some ([(.iaload, 1, 0, 0, 0)], some (.goto 5, 3, 0, 0, 0)) := rfl
theorem bl_X4_toldSquare_18 : blk bX4_toldSquare 18 = some ([(.bipush 36, 2, 36, 0, 0)], none) := rfl
theorem bl_X4_toldSquare_20 : blk bX4_toldSquare 20 = some ([], some (.ireturn, 1, 0, 0, 0)) := rfl
theorem bl_X4_isWhereSo_0 : blk bX4_isWhereSo 0 = some ([(.iconst 0, 1, 0, 0, 0), (.istore_n 3, 1, 0, 0, 0)], none) := rfl
theorem bl_X4_isWhereSo_2 : blk bX4_isWhereSo 2 = some ([(.iload_n 3, 1, 0, 0, 0), (.aload_n 0, 1, 0, 0, 0), (.getfield 37, 3, 3, 14, 0), (.iload_n 1, 1, 0, 0, 0), (.iaload, 1, 0, 0, 0)], some (.if_icmp .ge 35, 3, 0, 0, 0)) := rfl
theorem bl_X4_isWhereSo_12 : blk bX4_isWhereSo 12 = some ([(.aload_n 0, 1, 0, 0, 0), (.iload_n 1, 1, 0, 0, 0), (.iload_n 3, 1, 0, 0, 0), (.aload_n 0, 1, 0, 0, 0), (.getfield 13, 3, 3, 1, 0), (.iload_n 2, 1, 0, 0, 0)], some (.invokestatic 237, 3, 181, 2, 0)) := rfl
theorem bl_X4_isWhereSo_23 : blk bX4_isWhereSo 23 = some ([], some (.invokevirtual 240, 3, 180, 4, 3)) := rfl
theorem bl_X4_isWhereSo_26 : blk bX4_isWhereSo 26 = some ([], some (.ifCond .ne 5, 3, 0, 0, 0)) := rfl
theorem bl_X4_isWhereSo_29 : blk bX4_isWhereSo 29 = some ([(.iconst 0, 1, 0, 0, 0)], some (.ireturn, 1, 1, 0, 0)) := rfl
theorem bl_X4_isWhereSo_31 : blk bX4_isWhereSo 31 = some ([(.aload_n 0, 1, 0, 0, 0), (.getfield 13, 3, 3, 1, 0)], some (.invokestatic 132, 3, 137, 1, 0)) := rfl
theorem bl_X4_isWhereSo_38 : blk bX4_isWhereSo 38 = some ([(.iinc 3 1, 3, 1, 0, 0)], some (.goto (-39), 3, 0, 0, 0)) := rfl
theorem bl_X4_isWhereSo_44 : blk bX4_isWhereSo 44 = some ([(.iconst 1, 1, 1, 0, 0)], some (.ireturn, 1, 1, 0, 0)) := rfl
theorem bl_X4_whatIs_0 : blk bX4_whatIs 0 = some ([(.aload_n 0, 1, 0, 0, 0), (.iload_n 2, 1, 0, 0, 0)], some (.invokevirtual 47, 3, 110, 2, 3)) := rfl
theorem bl_X4_whatIs_5 : blk bX4_whatIs 5 = some ([], some (.ifCond .eq 12, 3, 0, 0, 0)) := rfl
theorem bl_X4_whatIs_8 : blk bX4_whatIs 8 = some ([(.iload_n 3, 1, 0, 0, 0), (.iconst 0, 1, 0, 0, 0), (.iconst 1, 1, 1, 0, 0)], some (.invokestatic 43, 3, 105, 3, 0)) := rfl
theorem bl_X4_whatIs_14 : blk bX4_whatIs 14 = some ([], some (.ifCond .ne 5, 3, 0, 0, 0)) := rfl
theorem bl_X4_whatIs_17 : blk bX4_whatIs 17 = some ([(.iconst (-1), 1, 1, 1, 0)], some (.ireturn, 1, 0, 0, 0)) := rfl
theorem bl_X4_whatIs_19 : blk bX4_whatIs 19 = some ([(.aload_n 0, 1, 0, 0, 0), (.iload_n 1, 1, 0, 0, 0), (.iconst (-1), 1, 1, 1, 0)], some (.invokevirtual 170, 3, 146, 3, 3)) := rfl
theorem bl_X4_whatIs_25 : blk bX4_whatIs 25 = some ([(.istore 4, 2, 0, 0, 0), (.iload 4, 2, 0, 0, 0)], some (.ifCond .eq 6, 3, 0, 0, 0)) := rfl
theorem bl_X4_whatIs_32 : blk bX4_whatIs 32 = some ([(.iload 4, 2, 0, 0, 0)], some (.ireturn, 1, 0, 0, 0)) := rfl
theorem bl_X4_whatIs_35 : blk bX4_whatIs 35 = some ([(.iconst 0, 1, 0, 0, 0), (.istore 5, 2, 0, 0, 0), (.iconst 0, 1, 0, 0, 0), (.istore 6, 2, 0, 0, 0)], none) := rfl
theorem bl_X4_whatIs_41 : blk bX4_whatIs 41 = some ([(.iload 6, 2, 0, 0, 0), (.iload_n 3, 1, 0, 0, 0)], some (.ifCond .ne 8, 3, 0, 0, 0)) := rfl
theorem bl_X4_whatIs_47 : blk bX4_whatIs 47 = some ([(.bipush 8, 2, 8, 0, 0)], some (.goto 5, 3, 0, 0, 0)) := rfl
theorem bl_X4_whatIs_52 : blk bX4_whatIs 52 = some ([(.bipush 10, 2, 10, 0, 0)], none) := rfl
theorem bl_X4_whatIs_54 : blk bX4_whatIs 54 = some ([], some (.if_icmp .ge 54, 3, 0, 0, 0)) := rfl
theorem bl_X4_whatIs_57 : blk bX4_whatIs 57 = some ([(.aload_n 0, 1, 0, 0, 0), (.getfield 9, 3, 3, 0, 0), (.aload_n 0, 1, 0, 0, 0), (.getfield 13, 3, 3, 1, 0)], some (.invokestatic 177, 3, 108, 2, 0)) := rfl
theorem bl_X4_whatIs_68 : blk bX4_whatIs 68 = some ([(.aload_n 0, 1, 0, 0, 0), (.getfield 13, 3, 3, 1, 0), (.iload_n 2, 1, 0, 0, 0), (.iload_n 3, 1, 0, 0, 0)], some (.invokestatic 51, 3, 109, 2, 0)) := rfl
theorem bl_X4_whatIs_77 : blk bX4_whatIs 77 = some ([(.iload 6, 2, 0, 0, 0), (.iastore, 1, 0, 0, 0), (.iload 5, 2, 0, 0, 0), (.aload_n 0, 1, 0, 0, 0), (.iload_n 1, 1, 0, 0, 0), (.iload_n 2, 1, 0, 0, 0)], some (.invokevirtual 243, 3, 182, 3, 3)) := rfl
theorem bl_X4_whatIs_88 : blk bX4_whatIs 88 = some ([], some (.ifCond .eq 10, 3, 0, 0, 0)) := rfl
theorem bl_X4_whatIs_91 : blk bX4_whatIs 91 = some ([(.iconst 1, 1, 1, 0, 0), (.iload 6, 2, 0, 0, 0), (.ishl, 1, 0, 0, 0)], some (.goto 4, 3, 0, 0, 0)) := rfl
theorem bl_X4_whatIs_98 : blk bX4_whatIs 98 = some ([(.iconst 0, 1, 0, 0, 0)], none) := rfl
theorem bl_X4_whatIs_99 : blk bX4_whatIs 99 = some ([(.ior, 1, 0, 0, 0), (.istore 5, 2, 0, 0, 0), (.iinc 6 1, 3, 1, 0, 0)], some (.goto (-64), 3, 0, 0, 0)) := rfl
theorem bl_X4_whatIs_108 : blk bX4_whatIs 108 = some ([(.iload 5, 2, 0, 0, 0)], some (.ireturn, 1, 0, 0, 0)) := rfl
theorem bl_X4_whereFrom_0 : blk bX4_whereFrom 0 = some ([(.iload_n 1, 1, 0, 0, 0)], some (.invokestatic 246, 3, 145, 1, 0)) := rfl
theorem bl_X4_whereFrom_4 : blk bX4_whereFrom 4 = some ([], some (.ifCond .eq 20, 3, 0, 0, 0)) := rfl
theorem bl_X4_whereFrom_7 : blk bX4_whereFrom 7 = some ([(.aload_n 0, 1, 0, 0, 0), (.iload_n 2, 1, 0, 0, 0)], some (.invokevirtual 47, 3, 110, 2, 3)) := rfl
theorem bl_X4_whereFrom_12 : blk bX4_whereFrom 12 = some ([], some (.ifCond .eq 12, 3, 0, 0, 0)) := rfl
theorem bl_X4_whereFrom_15 : blk bX4_whereFrom 15 = some ([(.iload_n 3, 1, 0, 0, 0), (.iconst 0, 1, 0, 0, 0), (.iconst 2, 1, 2, 0, 0)], some (.invokestatic 43, 3, 105, 3, 0)) := rfl
theorem bl_X4_whereFrom_21 : blk bX4_whereFrom 21 = some ([], some (.ifCond .ne 5, 3, 0, 0, 0)) := rfl
theorem bl_X4_whereFrom_24 : blk bX4_whereFrom 24 = some ([(.iconst (-1), 1, 1, 1, 0)], some (.ireturn, 1, 0, 0, 0)) := rfl
theorem bl_X4_whereFrom_26 : blk bX4_whereFrom 26 = some ([(.aload_n 0, 1, 0, 0, 0), (.getfield 9, 3, 3, 0, 0), (.iload_n 2, 1, 0, 0, 0)], some (.invokestatic 78, 3, 114, 2, 0)) := rfl
theorem bl_X4_whereFrom_34 : blk bX4_whereFrom 34 = some ([], some (.ifCond .ne 6, 3, 0, 0, 0)) := rfl
theorem bl_X4_whereFrom_37 : blk bX4_whereFrom 37 = some ([(.bipush (-3), 2, 3, 1, 0)], some (.ireturn, 1, 0, 0, 0)) := rfl
theorem bl_X4_whereFrom_40 : blk bX4_whereFrom 40 = some ([(.aload_n 0, 1, 0, 0, 0), (.iload_n 1, 1, 0, 0, 0), (.iconst (-1), 1, 1, 1, 0)], some (.invokevirtual 170, 3, 146, 3, 3)) := rfl
theorem bl_X4_whereFrom_46 : blk bX4_whereFrom 46 = some ([(.istore 4, 2, 0, 0, 0), (.iload 4, 2, 0, 0, 0)], some (.ifCond .eq 6, 3, 0, 0, 0)) := rfl
theorem bl_X4_whereFrom_53 : blk bX4_whereFrom 53 = some ([(.iload 4, 2, 0, 0, 0)], some (.ireturn, 1, 0, 0, 0)) := rfl
theorem bl_X4_whereFrom_56 : blk bX4_whereFrom 56 = some ([(.iconst 0, 1, 0, 0, 0), (.istore 5, 2, 0, 0, 0), (.bipush (-4), 2, 4, 1, 0), (.istore 6, 2, 0, 0, 0), (.bipush (-4), 2, 4, 1, 0), (.istore 7, 2, 0, 0, 0), (.iconst 0, 1, 0, 0, 0), (.istore 8, 2, 0, 0, 0)], none) := rfl
theorem bl_X4_whereFrom_70 : blk bX4_whereFrom 70 = some ([(.iload 8, 2, 0, 0, 0), (.bipush 36, 2, 36, 0, 0)], some (.if_icmp .ge 85, 3, 0, 0, 0)) := rfl
theorem bl_X4_whereFrom_77 : blk bX4_whereFrom 77 = some ([(.aload_n 0, 1, 0, 0, 0), (.iload_n 2, 1, 0, 0, 0), (.iload 8, 2, 0, 0, 0)], some (.invokevirtual 163, 3, 143, 3, 3)) := rfl
theorem bl_X4_whereFrom_84 : blk bX4_whereFrom 84 = some ([], some (.ifCond .ne 6, 3, 0, 0, 0)) := rfl
theorem bl_X4_whereFrom_87 : blk bX4_whereFrom 87 = some ([], some (.goto 66, 3, 0, 0, 0)) := rfl
theorem bl_X4_whereFrom_90 : blk bX4_whereFrom 90 = some ([(.aload_n 0, 1, 0, 0, 0), (.getfield 9, 3, 3, 0, 0), (.aload_n 0, 1, 0, 0, 0), (.getfield 13, 3, 3, 1, 0)], some (.invokestatic 177, 3, 108, 2, 0)) := rfl
theorem bl_X4_whereFrom_101 : blk bX4_whereFrom 101 = some ([(.aload_n 0, 1, 0, 0, 0), (.getfield 13, 3, 3, 1, 0), (.iload_n 2, 1, 0, 0, 0), (.iconst 3, 1, 3, 0, 0)], some (.invokestatic 51, 3, 109, 2, 0)) := rfl
theorem bl_X4_whereFrom_110 : blk bX4_whereFrom 110 = some ([(.iload 8, 2, 0, 0, 0), (.iastore, 1, 0, 0, 0), (.aload_n 0, 1, 0, 0, 0), (.getfield 13, 3, 3, 1, 0)], some (.invokestatic 132, 3, 137, 1, 0)) := rfl
theorem bl_X4_whereFrom_120 : blk bX4_whereFrom 120 = some ([(.aload_n 0, 1, 0, 0, 0), (.iload_n 1, 1, 0, 0, 0), (.iload_n 2, 1, 0, 0, 0)], some (.invokevirtual 243, 3, 182, 3, 3)) := rfl
theorem bl_X4_whereFrom_126 : blk bX4_whereFrom 126 = some ([], some (.ifCond .ne 6, 3, 0, 0, 0)) := rfl
theorem bl_X4_whereFrom_129 : blk bX4_whereFrom 129 = some ([], some (.goto 24, 3, 0, 0, 0)) := rfl
theorem bl_X4_whereFrom_132 : blk bX4_whereFrom 132 = some ([(.iload 5, 2, 0, 0, 0)], some (.ifCond .ne 8, 3, 0, 0, 0)) := rfl
theorem bl_X4_whereFrom_137 : blk bX4_whereFrom 137 = some ([(.iload 8, 2, 0, 0, 0)], some (.goto 5, 3, 0, 0, 0)) := rfl
theorem bl_X4_whereFrom_142 : blk bX4_whereFrom 142 = some ([(.iload 6, 2, 0, 0, 0)], none) := rfl
theorem bl_X4_whereFrom_144 : blk bX4_whereFrom 144 = some ([(.istore 6, 2, 0, 0, 0), (.iload 8, 2, 0, 0, 0), (.istore 7, 2, 0, 0, 0), (.iinc 5 1, 3, 1, 0, 0)], none) := rfl
theorem bl_X4_whereFrom_153 : blk bX4_whereFrom 153 = some ([(.iinc 8 1, 3, 1, 0, 0)], some (.goto (-86), 3, 0, 0, 0)) := rfl
theorem bl_X4_whereFrom_159 : blk bX4_whereFrom 159 = some ([(.iload_n 3, 1, 0, 0, 0)], some (.ifCond .ne 8, 3, 0, 0, 0)) := rfl
theorem bl_X4_whereFrom_163 : blk bX4_whereFrom 163 = some ([(.iload 5, 2, 0, 0, 0)], some (.goto 15, 3, 0, 0, 0)) := rfl
theorem bl_X4_whereFrom_168 : blk bX4_whereFrom 168 = some ([(.iload_n 3, 1, 0, 0, 0), (.iconst 1, 1, 1, 0, 0)], some (.if_icmp .ne 8, 3, 0, 0, 0)) := rfl
theorem bl_X4_whereFrom_173 : blk bX4_whereFrom 173 = some ([(.iload 6, 2, 0, 0, 0)], some (.goto 5, 3, 0, 0, 0)) := rfl
theorem bl_X4_whereFrom_178 : blk bX4_whereFrom 178 = some ([(.iload 7, 2, 0, 0, 0)], none) := rfl
theorem bl_X4_whereFrom_180 : blk bX4_whereFrom 180 = some ([], some (.ireturn, 1, 0, 0, 0)) := rfl
theorem bl_X4_hasBy_0 : blk bX4_hasBy 0 = some ([(.aload_n 0, 1, 0, 0, 0), (.getfield 9, 3, 3, 0, 0), (.aload_n 0, 1, 0, 0, 0), (.getfield 13, 3, 3, 1, 0)], some (.invokestatic 177, 3, 108, 2, 0)) := rfl
theorem bl_X4_hasBy_11 : blk bX4_hasBy 11 = some ([(.aload_n 0, 1, 0, 0, 0), (.getfield 13, 3, 3, 1, 0), (.iconst 4, 1, 4, 0, 0), (.iconst 1, 1, 1, 0, 0), (.iload_n 3, 1, 0, 0, 0), (.isub, 1, 0, 0, 0), (.iload_n 2, 1, 0, 0, 0), (.ishl, 1, 0, 0, 0), (.iconst 1, 1, 1, 0, 0), (.iload 5, 2, 0, 0, 0), (.isub, 1, 0, 0, 0), (.iload 4, 2, 0, 0, 0), (.ishl, 1, 0, 0, 0), (.ior, 1, 0, 0, 0), (.iastore, 1, 0, 0, 0), (.aload_n 0, 1, 0, 0, 0), (.getfield 13, 3, 3, 1, 0), (.iload 6, 2, 0, 0, 0)], some (.invokestatic 166, 3, 138, 2, 0)) := rfl
theorem bl_X4_hasBy_39 : blk bX4_hasBy 39 = some ([(.aload_n 0, 1, 0, 0, 0), (.getfield 13, 3, 3, 1, 0), (.aload_n 0, 1, 0, 0, 0), (.getfield 13, 3, 3, 1, 0), (.aload_n 0, 1, 0, 0, 0), (.getfield 9, 3, 3, 0, 0), (.iload_n 1, 1, 0, 0, 0), (.iconst 2, 1, 2, 0, 0)], some (.invokestatic 51, 3, 109, 2, 0)) := rfl
theorem bl_X4_hasBy_56 : blk bX4_hasBy 56 = some ([(.iaload, 1, 0, 0, 0)], some (.invokestatic 114, 3, 134, 2, 0)) := rfl
theorem bl_X4_hasBy_60 : blk bX4_hasBy 60 = some ([], some (.invokestatic 204, 3, 135, 2, 0)) := rfl
theorem bl_X4_hasBy_63 : blk bX4_hasBy 63 = some ([(.aload_n 0, 1, 0, 0, 0), (.getfield 13, 3, 3, 1, 0), (.iload_n 1, 1, 0, 0, 0)], some (.invokestatic 78, 3, 114, 2, 0)) := rfl
theorem bl_X4_hasBy_71 : blk bX4_hasBy 71 = some ([], some (.ifCond .eq 7, 3, 0, 0, 0)) := rfl
theorem bl_X4_hasBy_74 : blk bX4_hasBy 74 = some ([(.iconst 0, 1, 0, 0, 0)], some (.goto 4, 3, 0, 0, 0)) := rfl
theorem bl_X4_hasBy_78 : blk bX4_hasBy 78 = some ([(.iconst 5, 1, 5, 0, 0)], none) := rfl
theorem bl_X4_hasBy_79 : blk bX4_hasBy 79 = some ([(.isub, 1, 0, 0, 0)], some (.ireturn, 1, 0, 0, 0)) := rfl
theorem bl_X4_two_0 : blk bX4_two 0 = some ([(.aload_n 0, 1, 0, 0, 0), (.iload_n 1, 1, 0, 0, 0), (.iload_n 2, 1, 0, 0, 0)], some (.invokevirtual 218, 3, 111, 3, 3)) := rfl
theorem bl_X4_two_6 : blk bX4_two 6 = some ([], some (.ifCond .eq 13, 3, 0, 0, 0)) := rfl
theorem bl_X4_two_9 : blk bX4_two 9 = some ([(.iload_n 3, 1, 0, 0, 0), (.iconst 1, 1, 1, 0, 0), (.bipush 30, 2, 30, 0, 0)], some (.invokestatic 43, 3, 105, 3, 0)) := rfl
theorem bl_X4_two_16 : blk bX4_two 16 = some ([], some (.ifCond .ne 5, 3, 0, 0, 0)) := rfl
theorem bl_X4_two_19 : blk bX4_two 19 = some ([(.iconst (-1), 1, 1, 1, 0)], some (.ireturn, 1, 0, 0, 0)) := rfl
theorem bl_X4_two_21 : blk bX4_two 21 = some ([(.aload_n 0, 1, 0, 0, 0), (.getfield 9, 3, 3, 0, 0), (.iload_n 1, 1, 0, 0, 0)], some (.invokestatic 78, 3, 114, 2, 0)) := rfl
theorem bl_X4_two_29 : blk bX4_two 29 = some ([], some (.ifCond .eq 14, 3, 0, 0, 0)) := rfl
theorem bl_X4_two_32 : blk bX4_two 32 = some ([(.aload_n 0, 1, 0, 0, 0), (.getfield 9, 3, 3, 0, 0), (.iload_n 2, 1, 0, 0, 0)], some (.invokestatic 78, 3, 114, 2, 0)) := rfl
theorem bl_X4_two_40 : blk bX4_two 40 = some ([], some (.ifCond .ne 6, 3, 0, 0, 0)) := rfl
theorem bl_X4_two_43 : blk bX4_two 43 = some ([(.bipush (-3), 2, 3, 1, 0)], some (.ireturn, 1, 0, 0, 0)) := rfl
theorem bl_X4_two_46 : blk bX4_two 46 = some ([(.iconst 0, 1, 0, 0, 0), (.istore 4, 2, 0, 0, 0)], none) := rfl
theorem bl_X4_two_49 : blk bX4_two 49 = some ([(.iload 4, 2, 0, 0, 0), (.iconst 4, 1, 4, 0, 0)], some (.if_icmp .ge 88, 3, 0, 0, 0)) := rfl
theorem bl_X4_two_55 : blk bX4_two 55 = some ([(.iload 4, 2, 0, 0, 0), (.iconst 2, 1, 2, 0, 0), (.idiv, 1, 0, 0, 0), (.istore 5, 2, 0, 0, 0), (.iload 4, 2, 0, 0, 0), (.iconst 2, 1, 2, 0, 0), (.irem, 1, 0, 0, 0), (.istore 6, 2, 0, 0, 0), (.aload_n 0, 1, 0, 0, 0), (.iload_n 1, 1, 0, 0, 0), (.iload_n 1, 1, 0, 0, 0), (.iconst 1, 1, 1, 0, 0), (.iload 5, 2, 0, 0, 0), (.isub, 1, 0, 0, 0), (.iload_n 2, 1, 0, 0, 0), (.iload 6, 2, 0, 0, 0), (.iload_n 3, 1, 0, 0, 0)], some (.invokevirtual 249, 3, 185, 7, 3)) := rfl
theorem bl_X4_two_81 : blk bX4_two 81 = some ([(.aload_n 0, 1, 0, 0, 0), (.iload_n 1, 1, 0, 0, 0), (.iload_n 1, 1, 0, 0, 0), (.iload 5, 2, 0, 0, 0), (.iload_n 2, 1, 0, 0, 0), (.iload 6, 2, 0, 0, 0), (.iload_n 3, 1, 0, 0, 0)], some (.invokevirtual 249, 3, 185, 7, 3)) := rfl
theorem bl_X4_two_93 : blk bX4_two 93 = some ([], some (.if_icmp .gt 41, 3, 0, 0, 0)) := rfl
theorem bl_X4_two_96 : blk bX4_two 96 = some ([(.aload_n 0, 1, 0, 0, 0), (.iload_n 2, 1, 0, 0, 0), (.iload_n 1, 1, 0, 0, 0), (.iload 5, 2, 0, 0, 0), (.iload_n 2, 1, 0, 0, 0), (.iconst 1, 1, 1, 0, 0), (.iload 6, 2, 0, 0, 0), (.isub, 1, 0, 0, 0), (.iload_n 3, 1, 0, 0, 0)], some (.invokevirtual 249, 3, 185, 7, 3)) := rfl
theorem bl_X4_two_110 : blk bX4_two 110 = some ([(.aload_n 0, 1, 0, 0, 0), (.iload_n 2, 1, 0, 0, 0), (.iload_n 1, 1, 0, 0, 0), (.iload 5, 2, 0, 0, 0), (.iload_n 2, 1, 0, 0, 0), (.iload 6, 2, 0, 0, 0), (.iload_n 3, 1, 0, 0, 0)], some (.invokevirtual 249, 3, 185, 7, 3)) := rfl
theorem bl_X4_two_122 : blk bX4_two 122 = some ([], some (.if_icmp .gt 12, 3, 0, 0, 0)) := rfl
theorem bl_X4_two_125 : blk bX4_two 125 = some ([(.bipush 10, 2, 10, 0, 0), (.iload 5, 2, 0, 0, 0), (.imul, 1, 0, 0, 0), (.iload 6, 2, 0, 0, 0), (.iadd, 1, 0, 0, 0)], some (.ireturn, 1, 0, 0, 0)) := rfl
theorem bl_X4_two_134 : blk bX4_two 134 = some ([(.iinc 4 1, 3, 1, 0, 0)], some (.goto (-88), 3, 0, 0, 0)) := rfl
theorem bl_X4_two_140 : blk bX4_two 140 = some ([(.bipush (-4), 2, 4, 1, 0)], some (.ireturn, 1, 0, 0, 0)) := rfl
theorem bl_X4_gcd_0 : blk bX4_gcd 0 = some ([(.lload_n 0, 1, 0, 0, 0), (.lstore 4, 2, 0, 0, 0), (.lload_n 2, 1, 0, 0, 0), (.lstore 6, 2, 0, 0, 0)], none) := rfl
theorem bl_X4_gcd_6 : blk bX4_gcd 6 = some ([(.lload 6, 2, 0, 0, 0), (.lconst 0, 1, 0, 0, 0), (.lcmp, 1, 0, 0, 0)], some (.ifCond .eq 21, 3, 0, 0, 0)) := rfl
theorem bl_X4_gcd_13 : blk bX4_gcd 13 = some ([(.lload 4, 2, 0, 0, 0), (.lload 6, 2, 0, 0, 0), (.lrem, 1, 0, 0, 0), (.lstore 8, 2, 0, 0, 0), (.lload 6, 2, 0, 0, 0), (.lstore 4, 2, 0, 0, 0), (.lload 8, 2, 0, 0, 0), (.lstore 6, 2, 0, 0, 0)], some (.goto (-22), 3, 0, 0, 0)) := rfl
theorem bl_X4_gcd_31 : blk bX4_gcd 31 = some ([(.lload 4, 2, 0, 0, 0)], some (.lreturn, 1, 0, 0, 0)) := rfl
theorem bl_X4_partOf_0 : blk bX4_partOf 0 = some ([(.lload_n 0, 1, 0, 0, 0), (.lconst 0, 1, 0, 0, 0), (.lcmp, 1, 0, 0, 0)], some (.ifCond .ne 7, 3, 0, 0, 0)) := rfl
theorem bl_X4_partOf_6 : blk bX4_partOf 6 = some ([(.iload 4, 2, 0, 0, 0), (.i2l, 1, 0, 0, 0)], some (.lreturn, 1, 0, 0, 0)) := rfl
theorem bl_X4_partOf_10 : blk bX4_partOf 10 = some ([(.iload 4, 2, 0, 0, 0)], some (.ifCond .ne 7, 3, 0, 0, 0)) := rfl
theorem bl_X4_partOf_15 : blk bX4_partOf 15 = some ([(.lload_n 0, 1, 0, 0, 0)], some (.goto 4, 3, 0, 0, 0)) := rfl
theorem bl_X4_partOf_19 : blk bX4_partOf 19 = some ([(.lload_n 2, 1, 0, 0, 0)], none) := rfl
theorem bl_X4_partOf_20 : blk bX4_partOf 20 = some ([(.lload_n 0, 1, 0, 0, 0), (.lload_n 2, 1, 0, 0, 0)], some (.invokestatic 253, 3, 187, 2, 0)) := rfl
theorem bl_X4_partOf_25 : blk bX4_partOf 25 = some ([(.ldiv, 1, 0, 0, 0)], some (.lreturn, 1, 0, 0, 0)) := rfl
theorem bl_X4_rain_0 : blk bX4_rain 0 = some ([(.aload_n 0, 1, 0, 0, 0), (.iload_n 1, 1, 0, 0, 0)], some (.invokevirtual 47, 3, 110, 2, 3)) := rfl
theorem bl_X4_rain_5 : blk bX4_rain 5 = some ([], some (.ifCond .eq 33, 3, 0, 0, 0)) := rfl
theorem bl_X4_rain_8 : blk bX4_rain 8 = some ([(.iload_n 2, 1, 0, 0, 0), (.iconst 0, 1, 0, 0, 0), (.bipush 7, 2, 7, 0, 0)], some (.invokestatic 43, 3, 105, 3, 0)) := rfl
theorem bl_X4_rain_15 : blk bX4_rain 15 = some ([], some (.ifCond .eq 23, 3, 0, 0, 0)) := rfl
theorem bl_X4_rain_18 : blk bX4_rain 18 = some ([(.iload_n 3, 1, 0, 0, 0), (.iconst 2, 1, 2, 0, 0), (.bipush 20, 2, 20, 0, 0)], some (.invokestatic 43, 3, 105, 3, 0)) := rfl
theorem bl_X4_rain_25 : blk bX4_rain 25 = some ([], some (.ifCond .eq 13, 3, 0, 0, 0)) := rfl
theorem bl_X4_rain_28 : blk bX4_rain 28 = some ([(.iload 4, 2, 0, 0, 0), (.iconst 0, 1, 0, 0, 0), (.iconst 1, 1, 1, 0, 0)], some (.invokestatic 43, 3, 105, 3, 0)) := rfl
theorem bl_X4_rain_35 : blk bX4_rain 35 = some ([], some (.ifCond .ne 7, 3, 0, 0, 0)) := rfl
theorem bl_X4_rain_38 : blk bX4_rain 38 = some ([(.ldc2_w 257, 3, 1000000001, 0, 0)], some (.lreturn, 1, 0, 0, 0)) := rfl
theorem bl_X4_rain_42 : blk bX4_rain 42 = some ([(.lconst 0, 1, 0, 0, 0), (.lstore 5, 2, 0, 0, 0), (.lconst 1, 1, 1, 0, 0), (.lstore 7, 2, 0, 0, 0), (.iconst 0, 1, 0, 0, 0), (.istore 9, 2, 0, 0, 0)], none) := rfl
theorem bl_X4_rain_51 : blk bX4_rain 51 = some ([(.iload 9, 2, 0, 0, 0), (.iload_n 2, 1, 0, 0, 0)], some (.if_icmp .ge 16, 3, 0, 0, 0)) := rfl
theorem bl_X4_rain_57 : blk bX4_rain 57 = some ([(.lload 7, 2, 0, 0, 0), (.iload_n 3, 1, 0, 0, 0), (.i2l, 1, 0, 0, 0), (.lmul, 1, 0, 0, 0), (.lstore 7, 2, 0, 0, 0), (.iinc 9 1, 3, 1, 0, 0)], some (.goto (-16), 3, 0, 0, 0)) := rfl
theorem bl_X4_rain_70 : blk bX4_rain 70 = some ([(.iconst 0, 1, 0, 0, 0), (.istore 9, 2, 0, 0, 0)], none) := rfl
theorem bl_X4_rain_73 : blk bX4_rain 73 = some ([(.iload 9, 2, 0, 0, 0), (.iconst 1, 1, 1, 0, 0), (.iload_n 2, 1, 0, 0, 0), (.ishl, 1, 0, 0, 0)], some (.if_icmp .ge 111, 3, 0, 0, 0)) := rfl
theorem bl_X4_rain_81 : blk bX4_rain 81 = some ([(.lconst 1, 1, 1, 0, 0), (.lstore 10, 2, 0, 0, 0), (.aload_n 0, 1, 0, 0, 0), (.getfield 9, 3, 3, 0, 0), (.aload_n 0, 1, 0, 0, 0), (.getfield 13, 3, 3, 1, 0)], some (.invokestatic 177, 3, 108, 2, 0)) := rfl
theorem bl_X4_rain_95 : blk bX4_rain 95 = some ([(.iconst 0, 1, 0, 0, 0), (.istore 12, 2, 0, 0, 0)], none) := rfl
theorem bl_X4_rain_98 : blk bX4_rain 98 = some ([(.iload 12, 2, 0, 0, 0), (.iload_n 2, 1, 0, 0, 0)], some (.if_icmp .ge 60, 3, 0, 0, 0)) := rfl
theorem bl_X4_rain_104 : blk bX4_rain 104 = some ([(.lload 10, 2, 0, 0, 0), (.iload 9, 2, 0, 0, 0), (.iload 12, 2, 0, 0, 0)], some (.invokestatic 84, 3, 115, 2, 0)) := rfl
theorem bl_X4_rain_113 : blk bX4_rain 113 = some ([], some (.ifCond .eq 7, 3, 0, 0, 0)) := rfl
theorem bl_X4_rain_116 : blk bX4_rain 116 = some ([(.lconst 1, 1, 1, 0, 0)], some (.goto 7, 3, 0, 0, 0)) := rfl
theorem bl_X4_rain_120 : blk bX4_rain 120 = some ([(.iload_n 3, 1, 0, 0, 0), (.iconst 1, 1, 1, 0, 0), (.isub, 1, 0, 0, 0), (.i2l, 1, 0, 0, 0)], none) := rfl
theorem bl_X4_rain_124 : blk bX4_rain 124 = some ([(.lmul, 1, 0, 0, 0), (.lstore 10, 2, 0, 0, 0), (.aload_n 0, 1, 0, 0, 0), (.getfield 13, 3, 3, 1, 0), (.iconst 5, 1, 5, 0, 0), (.iload 9, 2, 0, 0, 0), (.iload 12, 2, 0, 0, 0)], some (.invokestatic 84, 3, 115, 2, 0)) := rfl
theorem bl_X4_rain_139 : blk bX4_rain 139 = some ([], some (.ifCond .eq 7, 3, 0, 0, 0)) := rfl
theorem bl_X4_rain_142 : blk bX4_rain 142 = some ([(.iconst 1, 1, 1, 0, 0)], some (.goto 4, 3, 0, 0, 0)) := rfl
theorem bl_X4_rain_146 : blk bX4_rain 146 = some ([(.iconst 0, 1, 0, 0, 0)], none) := rfl
theorem bl_X4_rain_147 : blk bX4_rain 147 = some ([(.iastore, 1, 0, 0, 0), (.aload_n 0, 1, 0, 0, 0), (.getfield 13, 3, 3, 1, 0)], some (.invokestatic 132, 3, 137, 1, 0)) := rfl
theorem bl_X4_rain_155 : blk bX4_rain 155 = some ([(.iinc 12 1, 3, 1, 0, 0)], some (.goto (-60), 3, 0, 0, 0)) := rfl
theorem bl_X4_rain_161 : blk bX4_rain 161 = some ([(.lload 5, 2, 0, 0, 0), (.aload_n 0, 1, 0, 0, 0), (.getfield 13, 3, 3, 1, 0), (.iload_n 1, 1, 0, 0, 0)], some (.invokestatic 78, 3, 114, 2, 0)) := rfl
theorem bl_X4_rain_171 : blk bX4_rain 171 = some ([], some (.ifCond .eq 8, 3, 0, 0, 0)) := rfl
theorem bl_X4_rain_174 : blk bX4_rain 174 = some ([(.lload 10, 2, 0, 0, 0)], some (.goto 4, 3, 0, 0, 0)) := rfl
theorem bl_X4_rain_179 : blk bX4_rain 179 = some ([(.lconst 0, 1, 0, 0, 0)], none) := rfl
theorem bl_X4_rain_180 : blk bX4_rain 180 = some ([(.ladd, 1, 0, 0, 0), (.lstore 5, 2, 0, 0, 0), (.iinc 9 1, 3, 1, 0, 0)], some (.goto (-113), 3, 0, 0, 0)) := rfl
theorem bl_X4_rain_189 : blk bX4_rain 189 = some ([(.lload 5, 2, 0, 0, 0), (.lload 7, 2, 0, 0, 0), (.iload 4, 2, 0, 0, 0)], some (.invokestatic 259, 3, 188, 3, 0)) := rfl
theorem bl_X4_rain_198 : blk bX4_rain 198 = some ([], some (.lreturn, 1, 0, 0, 0)) := rfl
theorem bl_X4_share_0 : blk bX4_share 0 = some ([(.iload_n 1, 1, 0, 0, 0)], some (.invokestatic 153, 3, 113, 1, 0)) := rfl
theorem bl_X4_share_4 : blk bX4_share 4 = some ([], some (.ifCond .eq 50, 3, 0, 0, 0)) := rfl
theorem bl_X4_share_7 : blk bX4_share 7 = some ([(.iload_n 2, 1, 0, 0, 0), (.iconst 0, 1, 0, 0, 0), (.iconst 1, 1, 1, 0, 0)], some (.invokestatic 43, 3, 105, 3, 0)) := rfl
theorem bl_X4_share_13 : blk bX4_share 13 = some ([], some (.ifCond .eq 41, 3, 0, 0, 0)) := rfl
theorem bl_X4_share_16 : blk bX4_share 16 = some ([(.aload_n 0, 1, 0, 0, 0), (.getfield 9, 3, 3, 0, 0), (.aload_n 0, 1, 0, 0, 0), (.getfield 9, 3, 3, 0, 0), (.iload_n 1, 1, 0, 0, 0)], some (.invokestatic 114, 3, 134, 2, 0)) := rfl
theorem bl_X4_share_28 : blk bX4_share 28 = some ([], some (.invokestatic 204, 3, 135, 2, 0)) := rfl
theorem bl_X4_share_31 : blk bX4_share 31 = some ([(.i2l, 1, 0, 0, 0), (.aload_n 0, 1, 0, 0, 0), (.getfield 9, 3, 3, 0, 0), (.aload_n 0, 1, 0, 0, 0), (.getfield 9, 3, 3, 0, 0)], some (.invokestatic 193, 3, 133, 1, 0)) := rfl
theorem bl_X4_share_43 : blk bX4_share 43 = some ([], some (.invokestatic 204, 3, 135, 2, 0)) := rfl
theorem bl_X4_share_46 : blk bX4_share 46 = some ([(.i2l, 1, 0, 0, 0), (.iload_n 2, 1, 0, 0, 0)], some (.invokestatic 259, 3, 188, 3, 0)) := rfl
theorem bl_X4_share_51 : blk bX4_share 51 = some ([], some (.goto 6, 3, 0, 0, 0)) := rfl
theorem bl_X4_share_54 : blk bX4_share 54 = some ([(.ldc2_w 257, 3, 1000000001, 0, 0)], none) := rfl
theorem bl_X4_share_57 : blk bX4_share 57 = some ([], some (.lreturn, 1, 0, 0, 0)) := rfl
theorem bl_X4_forged_0 : blk bX4_forged 0 = some ([(.aload_n 0, 1, 0, 0, 0), (.iload_n 1, 1, 0, 0, 0), (.iconst (-1), 1, 1, 1, 0)], some (.invokevirtual 170, 3, 146, 3, 3)) := rfl
theorem bl_X4_forged_6 : blk bX4_forged 6 = some ([(.istore_n 2, 1, 0, 0, 0), (.iload_n 2, 1, 0, 0, 0)], some (.ifCond .eq 5, 3, 0, 0, 0)) := rfl
theorem bl_X4_forged_11 : blk bX4_forged 11 = some ([(.iload_n 2, 1, 0, 0, 0)], some (.ireturn, 1, 0, 0, 0)) := rfl
theorem bl_X4_forged_13 : blk bX4_forged 13 = some ([(.iconst 0, 1, 0, 0, 0), (.istore_n 3, 1, 0, 0, 0)], none) := rfl
theorem bl_X4_forged_15 : blk bX4_forged 15 = some ([(.iload_n 3, 1, 0, 0, 0), (.aload_n 0, 1, 0, 0, 0), (.getfield 37, 3, 3, 14, 0), (.iload_n 1, 1, 0, 0, 0), (.iaload, 1, 0, 0, 0)], some (.if_icmp .ge 41, 3, 0, 0, 0)) := rfl
theorem bl_X4_forged_25 : blk bX4_forged 25 = some ([(.aload_n 0, 1, 0, 0, 0), (.iload_n 3, 1, 0, 0, 0)], some (.invokevirtual 47, 3, 110, 2, 3)) := rfl
theorem bl_X4_forged_30 : blk bX4_forged 30 = some ([], some (.ifCond .eq 25, 3, 0, 0, 0)) := rfl
theorem bl_X4_forged_33 : blk bX4_forged 33 = some ([(.aload_n 0, 1, 0, 0, 0), (.getfield 40, 3, 3, 15, 0), (.bipush 100, 2, 100, 0, 0), (.iload_n 1, 1, 0, 0, 0), (.imul, 1, 0, 0, 0), (.iload_n 3, 1, 0, 0, 0), (.iadd, 1, 0, 0, 0), (.iaload, 1, 0, 0, 0), (.aload_n 0, 1, 0, 0, 0), (.getfield 9, 3, 3, 0, 0), (.iload_n 3, 1, 0, 0, 0)], some (.invokestatic 237, 3, 181, 2, 0)) := rfl
theorem bl_X4_forged_52 : blk bX4_forged 52 = some ([], some (.if_icmp .eq 5, 3, 0, 0, 0)) := rfl
theorem bl_X4_forged_55 : blk bX4_forged 55 = some ([(.iload_n 3, 1, 0, 0, 0)], some (.ireturn, 1, 0, 0, 0)) := rfl
theorem bl_X4_forged_57 : blk bX4_forged 57 = some ([(.iinc 3 1, 3, 1, 0, 0)], some (.goto (-45), 3, 0, 0, 0)) := rfl
theorem bl_X4_forged_63 : blk bX4_forged 63 = some ([(.bipush (-4), 2, 4, 1, 0)], some (.ireturn, 1, 0, 0, 0)) := rfl
theorem bl_X4_judge_0 : blk bX4_judge 0 = some ([(.aload_n 0, 1, 0, 0, 0), (.iload_n 1, 1, 0, 0, 0), (.iconst (-1), 1, 1, 1, 0)], some (.invokevirtual 170, 3, 146, 3, 3)) := rfl
theorem bl_X4_judge_6 : blk bX4_judge 6 = some ([(.istore_n 2, 1, 0, 0, 0), (.iload_n 2, 1, 0, 0, 0)], some (.ifCond .eq 5, 3, 0, 0, 0)) := rfl
theorem bl_X4_judge_11 : blk bX4_judge 11 = some ([(.iload_n 2, 1, 0, 0, 0)], some (.ireturn, 1, 0, 0, 0)) := rfl
theorem bl_X4_judge_13 : blk bX4_judge 13 = some ([(.aload_n 0, 1, 0, 0, 0), (.getfield 9, 3, 3, 0, 0), (.aload_n 0, 1, 0, 0, 0), (.getfield 13, 3, 3, 1, 0)], some (.invokestatic 177, 3, 108, 2, 0)) := rfl
theorem bl_X4_judge_24 : blk bX4_judge 24 = some ([(.iconst 0, 1, 0, 0, 0), (.istore_n 3, 1, 0, 0, 0)], none) := rfl
theorem bl_X4_judge_26 : blk bX4_judge 26 = some ([(.iload_n 3, 1, 0, 0, 0), (.aload_n 0, 1, 0, 0, 0), (.getfield 37, 3, 3, 14, 0), (.iload_n 1, 1, 0, 0, 0), (.iaload, 1, 0, 0, 0)], some (.if_icmp .ge 37, 3, 0, 0, 0)) := rfl
theorem bl_X4_judge_36 : blk bX4_judge 36 = some ([(.aload_n 0, 1, 0, 0, 0), (.iload_n 1, 1, 0, 0, 0), (.iload_n 3, 1, 0, 0, 0), (.aload_n 0, 1, 0, 0, 0), (.getfield 13, 3, 3, 1, 0)], some (.invokestatic 193, 3, 133, 1, 0)) := rfl
theorem bl_X4_judge_46 : blk bX4_judge 46 = some ([], some (.invokestatic 123, 3, 116, 1, 0)) := rfl
theorem bl_X4_judge_49 : blk bX4_judge 49 = some ([], some (.invokevirtual 240, 3, 180, 4, 3)) := rfl
theorem bl_X4_judge_52 : blk bX4_judge 52 = some ([], some (.ifCond .ne 5, 3, 0, 0, 0)) := rfl
theorem bl_X4_judge_55 : blk bX4_judge 55 = some ([(.iload_n 3, 1, 0, 0, 0)], some (.ireturn, 1, 0, 0, 0)) := rfl
theorem bl_X4_judge_57 : blk bX4_judge 57 = some ([(.aload_n 0, 1, 0, 0, 0), (.getfield 13, 3, 3, 1, 0)], some (.invokestatic 132, 3, 137, 1, 0)) := rfl
theorem bl_X4_judge_64 : blk bX4_judge 64 = some ([(.iinc 3 1, 3, 1, 0, 0)], some (.goto (-41), 3, 0, 0, 0)) := rfl
theorem bl_X4_judge_70 : blk bX4_judge 70 = some ([(.bipush (-4), 2, 4, 1, 0)], some (.ireturn, 1, 0, 0, 0)) := rfl
theorem bl_X4_drawn_0 : blk bX4_drawn 0 = some ([(.aload_n 0, 1, 0, 0, 0), (.aload_n 0, 1, 0, 0, 0), (.getfield 263, 3, 3, 9, 0), (.ldc_w 266, 3, 1103515245, 0, 0), (.imul, 1, 0, 0, 0), (.sipush 12345, 3, 12345, 0, 0), (.iadd, 1, 0, 0, 0), (.putfield 263, 3, 3, 9, 0), (.aload_n 0, 1, 0, 0, 0), (.getfield 263, 3, 3, 9, 0), (.ldc_w 267, 3, 2147483647, 0, 0), (.iand, 1, 0, 0, 0), (.ldc_w 268, 3, 65536, 0, 0), (.idiv, 1, 0, 0, 0), (.iload_n 1, 1, 0, 0, 0), (.irem, 1, 0, 0, 0)], some (.ireturn, 1, 0, 0, 0)) := rfl
theorem bl_X4_setsUp_0 : blk bX4_setsUp 0 = some ([(.iconst 0, 1, 0, 0, 0), (.istore_n 1, 1, 0, 0, 0)], none) := rfl
theorem bl_X4_setsUp_2 : blk bX4_setsUp 2 = some ([(.iload_n 1, 1, 0, 0, 0), (.aload_n 0, 1, 0, 0, 0), (.getfield 9, 3, 3, 0, 0), (.iconst 0, 1, 0, 0, 0), (.iaload, 1, 0, 0, 0)], some (.if_icmp .ge 21, 3, 0, 0, 0)) := rfl
theorem bl_X4_setsUp_12 : blk bX4_setsUp 12 = some ([(.aload_n 0, 1, 0, 0, 0), (.getfield 13, 3, 3, 1, 0), (.iload_n 1, 1, 0, 0, 0), (.iconst 3, 1, 3, 0, 0)], some (.invokestatic 51, 3, 109, 2, 0)) := rfl
theorem bl_X4_setsUp_21 : blk bX4_setsUp 21 = some ([(.bipush (-4), 2, 4, 1, 0), (.iastore, 1, 0, 0, 0), (.iinc 1 1, 3, 1, 0, 0)], some (.goto (-25), 3, 0, 0, 0)) := rfl
theorem bl_X4_setsUp_30 : blk bX4_setsUp 30 = some ([(.iconst 0, 1, 0, 0, 0), (.istore_n 1, 1, 0, 0, 0)], none) := rfl
theorem bl_X4_setsUp_32 : blk bX4_setsUp 32 = some ([(.iload_n 1, 1, 0, 0, 0), (.aload_n 0, 1, 0, 0, 0), (.getfield 9, 3, 3, 0, 0), (.iconst 0, 1, 0, 0, 0), (.iaload, 1, 0, 0, 0)], some (.if_icmp .ge 48, 3, 0, 0, 0)) := rfl
theorem bl_X4_setsUp_42 : blk bX4_setsUp 42 = some ([(.aload_n 0, 1, 0, 0, 0), (.bipush 36, 2, 36, 0, 0)], some (.invokevirtual 269, 3, 193, 2, 3)) := rfl
theorem bl_X4_setsUp_48 : blk bX4_setsUp 48 = some ([(.istore_n 2, 1, 0, 0, 0)], none) := rfl
theorem bl_X4_setsUp_49 : blk bX4_setsUp 49 = some ([(.aload_n 0, 1, 0, 0, 0), (.getfield 13, 3, 3, 1, 0), (.iload_n 2, 1, 0, 0, 0)], some (.invokestatic 55, 3, 117, 2, 0)) := rfl
theorem bl_X4_setsUp_57 : blk bX4_setsUp 57 = some ([], some (.ifCond .lt 13, 3, 0, 0, 0)) := rfl
theorem bl_X4_setsUp_60 : blk bX4_setsUp 60 = some ([(.iload_n 2, 1, 0, 0, 0), (.iconst 1, 1, 1, 0, 0), (.iadd, 1, 0, 0, 0), (.bipush 36, 2, 36, 0, 0), (.irem, 1, 0, 0, 0), (.istore_n 2, 1, 0, 0, 0)], some (.goto (-18), 3, 0, 0, 0)) := rfl
theorem bl_X4_setsUp_70 : blk bX4_setsUp 70 = some ([(.aload_n 0, 1, 0, 0, 0), (.getfield 13, 3, 3, 1, 0), (.iload_n 1, 1, 0, 0, 0), (.iconst 3, 1, 3, 0, 0)], some (.invokestatic 51, 3, 109, 2, 0)) := rfl
theorem bl_X4_setsUp_79 : blk bX4_setsUp 79 = some ([(.iload_n 2, 1, 0, 0, 0), (.iastore, 1, 0, 0, 0), (.iinc 1 1, 3, 1, 0, 0)], some (.goto (-52), 3, 0, 0, 0)) := rfl
theorem bl_X4_setsUp_87 : blk bX4_setsUp 87 = some ([], some (.return_, 1, 0, 0, 0)) := rfl
theorem bl_X4_games_0 : blk bX4_games 0 = some ([(.iload_n 1, 1, 0, 0, 0), (.iconst 1, 1, 1, 0, 0), (.bipush 20, 2, 20, 0, 0)], some (.invokestatic 43, 3, 105, 3, 0)) := rfl
theorem bl_X4_games_7 : blk bX4_games 7 = some ([], some (.ifCond .eq 12, 3, 0, 0, 0)) := rfl
theorem bl_X4_games_10 : blk bX4_games 10 = some ([(.iload_n 3, 1, 0, 0, 0), (.iconst 0, 1, 0, 0, 0), (.iconst 1, 1, 1, 0, 0)], some (.invokestatic 43, 3, 105, 3, 0)) := rfl
theorem bl_X4_games_16 : blk bX4_games 16 = some ([], some (.ifCond .ne 5, 3, 0, 0, 0)) := rfl
theorem bl_X4_games_19 : blk bX4_games 19 = some ([(.iconst (-1), 1, 1, 1, 0)], some (.ireturn, 1, 0, 0, 0)) := rfl
theorem bl_X4_games_21 : blk bX4_games 21 = some ([(.aload_n 0, 1, 0, 0, 0), (.iload_n 2, 1, 0, 0, 0), (.putfield 263, 3, 3, 9, 0), (.iconst 0, 1, 0, 0, 0), (.istore 4, 2, 0, 0, 0), (.iconst 0, 1, 0, 0, 0), (.istore 5, 2, 0, 0, 0)], none) := rfl
theorem bl_X4_games_32 : blk bX4_games 32 = some ([(.iload 5, 2, 0, 0, 0), (.iload_n 1, 1, 0, 0, 0)], some (.if_icmp .ge 68, 3, 0, 0, 0)) := rfl
theorem bl_X4_games_38 : blk bX4_games 38 = some ([(.aload_n 0, 1, 0, 0, 0), (.getfield 9, 3, 3, 0, 0), (.aload_n 0, 1, 0, 0, 0), (.getfield 13, 3, 3, 1, 0)], some (.invokestatic 177, 3, 108, 2, 0)) := rfl
theorem bl_X4_games_49 : blk bX4_games 49 = some ([(.aload_n 0, 1, 0, 0, 0)], some (.invokevirtual 272, 3, 194, 1, 3)) := rfl
theorem bl_X4_games_53 : blk bX4_games 53 = some ([(.aload_n 0, 1, 0, 0, 0), (.getfield 13, 3, 3, 1, 0), (.bipush 16, 2, 16, 0, 0)], some (.invokestatic 166, 3, 138, 2, 0)) := rfl
theorem bl_X4_games_62 : blk bX4_games 62 = some ([(.iload 4, 2, 0, 0, 0), (.iload_n 3, 1, 0, 0, 0)], some (.ifCond .ne 16, 3, 0, 0, 0)) := rfl
theorem bl_X4_games_68 : blk bX4_games 68 = some ([(.aload_n 0, 1, 0, 0, 0), (.getfield 13, 3, 3, 1, 0)], some (.invokestatic 193, 3, 133, 1, 0)) := rfl
theorem bl_X4_games_75 : blk bX4_games 75 = some ([], some (.invokestatic 123, 3, 116, 1, 0)) := rfl
theorem bl_X4_games_78 : blk bX4_games 78 = some ([], some (.goto 16, 3, 0, 0, 0)) := rfl
theorem bl_X4_games_81 : blk bX4_games 81 = some ([(.aload_n 0, 1, 0, 0, 0), (.getfield 13, 3, 3, 1, 0), (.iconst 3, 1, 3, 0, 0), (.iaload, 1, 0, 0, 0), (.aload_n 0, 1, 0, 0, 0), (.getfield 9, 3, 3, 0, 0), (.iconst 3, 1, 3, 0, 0), (.iaload, 1, 0, 0, 0), (.isub, 1, 0, 0, 0)], none) := rfl
theorem bl_X4_games_94 : blk bX4_games 94 = some ([(.iadd, 1, 0, 0, 0), (.istore 4, 2, 0, 0, 0), (.iinc 5 1, 3, 1, 0, 0)], some (.goto (-68), 3, 0, 0, 0)) := rfl
theorem bl_X4_games_103 : blk bX4_games 103 = some ([(.iload 4, 2, 0, 0, 0)], some (.ireturn, 1, 0, 0, 0)) := rfl
theorem bl_X4_image_0 : blk bX4_image 0 = some ([(.aload_n 0, 1, 0, 0, 0), (.getfield 9, 3, 3, 0, 0), (.aload_n 0, 1, 0, 0, 0), (.getfield 16, 3, 3, 2, 0)], some (.invokestatic 177, 3, 108, 2, 0)) := rfl
theorem bl_X4_image_11 : blk bX4_image 11 = some ([(.aload_n 0, 1, 0, 0, 0), (.iconst 1, 1, 1, 0, 0), (.putfield 275, 3, 3, 4, 0), (.aload_n 0, 1, 0, 0, 0), (.getfield 9, 3, 3, 0, 0), (.iconst 1, 1, 1, 0, 0), (.iaload, 1, 0, 0, 0)], some (.ireturn, 1, 0, 0, 0)) := rfl
theorem bl_X4_restore_0 : blk bX4_restore 0 = some ([(.aload_n 0, 1, 0, 0, 0), (.getfield 275, 3, 3, 4, 0)], some (.ifCond .ne 6, 3, 0, 0, 0)) := rfl
theorem bl_X4_restore_7 : blk bX4_restore 7 = some ([(.bipush (-3), 2, 3, 1, 0)], some (.ireturn, 1, 0, 0, 0)) := rfl
theorem bl_X4_restore_10 : blk bX4_restore 10 = some ([(.aload_n 0, 1, 0, 0, 0), (.getfield 16, 3, 3, 2, 0), (.aload_n 0, 1, 0, 0, 0), (.getfield 9, 3, 3, 0, 0)], some (.invokestatic 177, 3, 108, 2, 0)) := rfl
theorem bl_X4_restore_21 : blk bX4_restore 21 = some ([(.aload_n 0, 1, 0, 0, 0), (.getfield 9, 3, 3, 0, 0), (.iconst 1, 1, 1, 0, 0), (.iaload, 1, 0, 0, 0)], some (.ireturn, 1, 0, 0, 0)) := rfl
theorem bl_X4_count_0 : blk bX4_count 0 = some ([(.iload_n 1, 1, 0, 0, 0), (.iconst 0, 1, 0, 0, 0), (.iconst 3, 1, 3, 0, 0)], some (.invokestatic 43, 3, 105, 3, 0)) := rfl
theorem bl_X4_count_6 : blk bX4_count 6 = some ([], some (.ifCond .eq 12, 3, 0, 0, 0)) := rfl
theorem bl_X4_count_9 : blk bX4_count 9 = some ([(.aload_n 0, 1, 0, 0, 0), (.getfield 9, 3, 3, 0, 0), (.iload_n 1, 1, 0, 0, 0), (.iaload, 1, 0, 0, 0)], some (.goto 19, 3, 0, 0, 0)) := rfl
theorem bl_X4_count_18 : blk bX4_count 18 = some ([(.iload_n 1, 1, 0, 0, 0), (.iconst 4, 1, 4, 0, 0)], some (.if_icmp .ne 13, 3, 0, 0, 0)) := rfl
theorem bl_X4_count_23 : blk bX4_count 23 = some ([(.aload_n 0, 1, 0, 0, 0), (.getfield 9, 3, 3, 0, 0)], some (.invokestatic 193, 3, 133, 1, 0)) := rfl
theorem bl_X4_count_30 : blk bX4_count 30 = some ([], some (.goto 4, 3, 0, 0, 0)) := rfl
theorem bl_X4_count_33 : blk bX4_count 33 = some ([(.iconst (-1), 1, 1, 1, 0)], none) := rfl
theorem bl_X4_count_34 : blk bX4_count 34 = some ([], some (.ireturn, 1, 0, 0, 0)) := rfl
theorem bl_X4_thrown_0 : blk bX4_thrown 0 = some ([(.aload_n 0, 1, 0, 0, 0), (.getfield 279, 3, 3, 16, 0)], some (.ireturn, 1, 0, 0, 0)) := rfl
theorem bl_X4_keep_0 : blk bX4_keep 0 = some ([(.iload_n 1, 1, 0, 0, 0)], some (.invokestatic 246, 3, 145, 1, 0)) := rfl
theorem bl_X4_keep_4 : blk bX4_keep 4 = some ([], some (.ifCond .eq 38, 3, 0, 0, 0)) := rfl
theorem bl_X4_keep_7 : blk bX4_keep 7 = some ([(.iload_n 2, 1, 0, 0, 0), (.iconst 0, 1, 0, 0, 0), (.iconst 1, 1, 1, 0, 0)], some (.invokestatic 43, 3, 105, 3, 0)) := rfl
theorem bl_X4_keep_13 : blk bX4_keep 13 = some ([], some (.ifCond .eq 29, 3, 0, 0, 0)) := rfl
theorem bl_X4_keep_16 : blk bX4_keep 16 = some ([(.iload_n 2, 1, 0, 0, 0), (.iconst 1, 1, 1, 0, 0)], some (.if_icmp .ne 26, 3, 0, 0, 0)) := rfl
theorem bl_X4_keep_21 : blk bX4_keep 21 = some ([(.iload_n 3, 1, 0, 0, 0), (.iconst 0, 1, 0, 0, 0), (.bipush 7, 2, 7, 0, 0)], some (.invokestatic 43, 3, 105, 3, 0)) := rfl
theorem bl_X4_keep_28 : blk bX4_keep 28 = some ([], some (.ifCond .eq 14, 3, 0, 0, 0)) := rfl
theorem bl_X4_keep_31 : blk bX4_keep 31 = some ([(.iload 4, 2, 0, 0, 0), (.iconst 0, 1, 0, 0, 0), (.bipush 9, 2, 9, 0, 0)], some (.invokestatic 43, 3, 105, 3, 0)) := rfl
theorem bl_X4_keep_39 : blk bX4_keep 39 = some ([], some (.ifCond .ne 5, 3, 0, 0, 0)) := rfl
theorem bl_X4_keep_42 : blk bX4_keep 42 = some ([(.iconst (-1), 1, 1, 1, 0)], some (.ireturn, 1, 0, 0, 0)) := rfl
theorem bl_X4_keep_44 : blk bX4_keep 44 = some ([(.aload_n 0, 1, 0, 0, 0), (.getfield 25, 3, 3, 10, 0), (.iload_n 1, 1, 0, 0, 0), (.iload_n 2, 1, 0, 0, 0), (.iastore, 1, 0, 0, 0), (.aload_n 0, 1, 0, 0, 0), (.getfield 28, 3, 3, 11, 0), (.iload_n 1, 1, 0, 0, 0), (.iload_n 3, 1, 0, 0, 0), (.iastore, 1, 0, 0, 0), (.aload_n 0, 1, 0, 0, 0), (.getfield 31, 3, 3, 12, 0), (.iload_n 1, 1, 0, 0, 0), (.iload 4, 2, 0, 0, 0), (.iastore, 1, 0, 0, 0), (.iconst 0, 1, 0, 0, 0)], some (.ireturn, 1, 0, 0, 0)) := rfl
theorem bl_X4_row_0 : blk bX4_row 0 = some ([(.iload_n 1, 1, 0, 0, 0)], some (.invokestatic 246, 3, 145, 1, 0)) := rfl
theorem bl_X4_row_4 : blk bX4_row 4 = some ([], some (.ifCond .eq 18, 3, 0, 0, 0)) := rfl
theorem bl_X4_row_7 : blk bX4_row 7 = some ([(.iload_n 2, 1, 0, 0, 0), (.iconst 0, 1, 0, 0, 0), (.iconst 2, 1, 2, 0, 0)], some (.invokestatic 43, 3, 105, 3, 0)) := rfl
theorem bl_X4_row_13 : blk bX4_row 13 = some ([], some (.ifCond .eq 9, 3, 0, 0, 0)) := rfl
theorem bl_X4_row_16 : blk bX4_row 16 = some ([(.iload_n 3, 1, 0, 0, 0), (.bipush 100, 2, 100, 0, 0)], some (.if_icmp .le 5, 3, 0, 0, 0)) := rfl
theorem bl_X4_row_22 : blk bX4_row 22 = some ([(.iconst (-1), 1, 1, 1, 0)], some (.ireturn, 1, 0, 0, 0)) := rfl
theorem bl_X4_row_24 : blk bX4_row 24 = some ([(.iload_n 3, 1, 0, 0, 0)], some (.ifCond .ge 6, 3, 0, 0, 0)) := rfl
theorem bl_X4_row_28 : blk bX4_row 28 = some ([(.bipush (-14), 2, 14, 1, 0)], some (.ireturn, 1, 0, 0, 0)) := rfl
theorem bl_X4_row_31 : blk bX4_row 31 = some ([(.aload_n 0, 1, 0, 0, 0), (.getfield 25, 3, 3, 10, 0), (.iload_n 1, 1, 0, 0, 0), (.iconst 2, 1, 2, 0, 0), (.iastore, 1, 0, 0, 0), (.aload_n 0, 1, 0, 0, 0), (.getfield 34, 3, 3, 13, 0), (.iload_n 1, 1, 0, 0, 0), (.iload_n 2, 1, 0, 0, 0), (.iastore, 1, 0, 0, 0), (.aload_n 0, 1, 0, 0, 0), (.getfield 37, 3, 3, 14, 0), (.iload_n 1, 1, 0, 0, 0), (.iload_n 3, 1, 0, 0, 0), (.iastore, 1, 0, 0, 0), (.iconst 0, 1, 0, 0, 0), (.istore 4, 2, 0, 0, 0)], none) := rfl
theorem bl_X4_row_55 : blk bX4_row 55 = some ([(.iload 4, 2, 0, 0, 0), (.bipush 100, 2, 100, 0, 0)], some (.if_icmp .ge 22, 3, 0, 0, 0)) := rfl
theorem bl_X4_row_62 : blk bX4_row 62 = some ([(.aload_n 0, 1, 0, 0, 0), (.getfield 40, 3, 3, 15, 0), (.bipush 100, 2, 100, 0, 0), (.iload_n 1, 1, 0, 0, 0), (.imul, 1, 0, 0, 0), (.iload 4, 2, 0, 0, 0), (.iadd, 1, 0, 0, 0), (.iconst 0, 1, 0, 0, 0), (.iastore, 1, 0, 0, 0), (.iinc 4 1, 3, 1, 0, 0)], some (.goto (-23), 3, 0, 0, 0)) := rfl
theorem bl_X4_row_81 : blk bX4_row 81 = some ([(.iconst 0, 1, 0, 0, 0)], some (.ireturn, 1, 0, 0, 0)) := rfl
theorem bl_X4_put_0 : blk bX4_put 0 = some ([(.aload_n 0, 1, 0, 0, 0), (.iload_n 1, 1, 0, 0, 0), (.iconst (-1), 1, 1, 1, 0)], some (.invokevirtual 170, 3, 146, 3, 3)) := rfl
theorem bl_X4_put_6 : blk bX4_put 6 = some ([(.istore 4, 2, 0, 0, 0), (.iload 4, 2, 0, 0, 0)], some (.ifCond .eq 6, 3, 0, 0, 0)) := rfl
theorem bl_X4_put_13 : blk bX4_put 13 = some ([(.iload 4, 2, 0, 0, 0)], some (.ireturn, 1, 0, 0, 0)) := rfl
theorem bl_X4_put_16 : blk bX4_put 16 = some ([(.iload_n 2, 1, 0, 0, 0), (.iconst 0, 1, 0, 0, 0), (.aload_n 0, 1, 0, 0, 0), (.getfield 37, 3, 3, 14, 0), (.iload_n 1, 1, 0, 0, 0), (.iaload, 1, 0, 0, 0), (.iconst 1, 1, 1, 0, 0), (.isub, 1, 0, 0, 0)], some (.invokestatic 43, 3, 105, 3, 0)) := rfl
theorem bl_X4_put_29 : blk bX4_put 29 = some ([], some (.ifCond .ne 6, 3, 0, 0, 0)) := rfl
theorem bl_X4_put_32 : blk bX4_put 32 = some ([(.bipush (-13), 2, 13, 1, 0)], some (.ireturn, 1, 0, 0, 0)) := rfl
theorem bl_X4_put_35 : blk bX4_put 35 = some ([(.aload_n 0, 1, 0, 0, 0), (.getfield 40, 3, 3, 15, 0), (.bipush 100, 2, 100, 0, 0), (.iload_n 1, 1, 0, 0, 0), (.imul, 1, 0, 0, 0), (.iload_n 2, 1, 0, 0, 0), (.iadd, 1, 0, 0, 0), (.aload_n 0, 1, 0, 0, 0), (.getfield 34, 3, 3, 13, 0), (.iload_n 1, 1, 0, 0, 0), (.iaload, 1, 0, 0, 0)], some (.ifCond .ne 8, 3, 0, 0, 0)) := rfl
theorem bl_X4_put_54 : blk bX4_put 54 = some ([(.iload_n 3, 1, 0, 0, 0), (.i2b, 1, 0, 0, 0)], some (.goto 19, 3, 0, 0, 0)) := rfl
theorem bl_X4_put_59 : blk bX4_put 59 = some ([(.aload_n 0, 1, 0, 0, 0), (.getfield 34, 3, 3, 13, 0), (.iload_n 1, 1, 0, 0, 0), (.iaload, 1, 0, 0, 0), (.iconst 1, 1, 1, 0, 0)], some (.if_icmp .ne 8, 3, 0, 0, 0)) := rfl
theorem bl_X4_put_69 : blk bX4_put 69 = some ([(.iload_n 3, 1, 0, 0, 0), (.i2s, 1, 0, 0, 0)], some (.goto 4, 3, 0, 0, 0)) := rfl
theorem bl_X4_put_74 : blk bX4_put 74 = some ([(.iload_n 3, 1, 0, 0, 0)], none) := rfl
theorem bl_X4_put_75 : blk bX4_put 75 = some ([(.iastore, 1, 0, 0, 0), (.iconst 0, 1, 0, 0, 0)], some (.ireturn, 1, 0, 0, 0)) := rfl
theorem bl_X4_element_0 : blk bX4_element 0 = some ([(.aload_n 0, 1, 0, 0, 0), (.iload_n 1, 1, 0, 0, 0)], some (.invokestatic 246, 3, 145, 1, 0)) := rfl
theorem bl_X4_element_5 : blk bX4_element 5 = some ([], some (.ifCond .ne 7, 3, 0, 0, 0)) := rfl
theorem bl_X4_element_8 : blk bX4_element 8 = some ([(.iconst 1, 1, 1, 0, 0)], some (.goto 34, 3, 0, 0, 0)) := rfl
theorem bl_X4_element_12 : blk bX4_element 12 = some ([(.aload_n 0, 1, 0, 0, 0), (.getfield 25, 3, 3, 10, 0), (.iload_n 1, 1, 0, 0, 0), (.iaload, 1, 0, 0, 0), (.iconst 2, 1, 2, 0, 0)], some (.if_icmp .ne 19, 3, 0, 0, 0)) := rfl
theorem bl_X4_element_22 : blk bX4_element 22 = some ([(.iload_n 2, 1, 0, 0, 0), (.iconst 0, 1, 0, 0, 0), (.aload_n 0, 1, 0, 0, 0), (.getfield 37, 3, 3, 14, 0), (.iload_n 1, 1, 0, 0, 0), (.iaload, 1, 0, 0, 0), (.iconst 1, 1, 1, 0, 0), (.isub, 1, 0, 0, 0)], some (.invokestatic 43, 3, 105, 3, 0)) := rfl
theorem bl_X4_element_35 : blk bX4_element 35 = some ([], some (.ifCond .ne 7, 3, 0, 0, 0)) := rfl
theorem bl_X4_element_38 : blk bX4_element 38 = some ([(.iconst 2, 1, 2, 0, 0)], some (.goto 4, 3, 0, 0, 0)) := rfl
theorem bl_X4_element_42 : blk bX4_element 42 = some ([(.iconst 0, 1, 0, 0, 0)], none) := rfl
theorem bl_X4_element_43 : blk bX4_element 43 = some ([(.putfield 279, 3, 3, 16, 0), (.aload_n 0, 1, 0, 0, 0), (.getfield 279, 3, 3, 16, 0)], some (.ifCond .ne 18, 3, 0, 0, 0)) := rfl
theorem bl_X4_element_53 : blk bX4_element 53 = some ([(.aload_n 0, 1, 0, 0, 0), (.getfield 40, 3, 3, 15, 0), (.bipush 100, 2, 100, 0, 0), (.iload_n 1, 1, 0, 0, 0), (.imul, 1, 0, 0, 0), (.iload_n 2, 1, 0, 0, 0), (.iadd, 1, 0, 0, 0), (.iaload, 1, 0, 0, 0), (.i2l, 1, 0, 0, 0)], some (.goto 4, 3, 0, 0, 0)) := rfl
theorem bl_X4_element_68 : blk bX4_element 68 = some ([(.lconst 0, 1, 0, 0, 0)], none) := rfl
theorem bl_X4_element_69 : blk bX4_element 69 = some ([], some (.lreturn, 1, 0, 0, 0)) := rfl
theorem bl_X4_copy_0 : blk bX4_copy 0 = some ([(.iload_n 1, 1, 0, 0, 0)], some (.invokestatic 246, 3, 145, 1, 0)) := rfl
theorem bl_X4_copy_4 : blk bX4_copy 4 = some ([], some (.ifCond .eq 10, 3, 0, 0, 0)) := rfl
theorem bl_X4_copy_7 : blk bX4_copy 7 = some ([(.iload_n 3, 1, 0, 0, 0)], some (.invokestatic 246, 3, 145, 1, 0)) := rfl
theorem bl_X4_copy_11 : blk bX4_copy 11 = some ([], some (.ifCond .ne 5, 3, 0, 0, 0)) := rfl
theorem bl_X4_copy_14 : blk bX4_copy 14 = some ([(.iconst (-1), 1, 1, 1, 0)], some (.ireturn, 1, 0, 0, 0)) := rfl
theorem bl_X4_copy_16 : blk bX4_copy 16 = some ([(.aload_n 0, 1, 0, 0, 0), (.getfield 25, 3, 3, 10, 0), (.iload_n 1, 1, 0, 0, 0), (.iaload, 1, 0, 0, 0)], some (.ifCond .eq 12, 3, 0, 0, 0)) := rfl
theorem bl_X4_copy_25 : blk bX4_copy 25 = some ([(.aload_n 0, 1, 0, 0, 0), (.getfield 25, 3, 3, 10, 0), (.iload_n 3, 1, 0, 0, 0), (.iaload, 1, 0, 0, 0)], some (.ifCond .ne 6, 3, 0, 0, 0)) := rfl
theorem bl_X4_copy_34 : blk bX4_copy 34 = some ([(.bipush (-11), 2, 11, 1, 0)], some (.ireturn, 1, 0, 0, 0)) := rfl
theorem bl_X4_copy_37 : blk bX4_copy 37 = some ([(.aload_n 0, 1, 0, 0, 0), (.getfield 25, 3, 3, 10, 0), (.iload_n 1, 1, 0, 0, 0), (.iaload, 1, 0, 0, 0), (.iconst 2, 1, 2, 0, 0)], some (.if_icmp .ne 28, 3, 0, 0, 0)) := rfl
theorem bl_X4_copy_47 : blk bX4_copy 47 = some ([(.aload_n 0, 1, 0, 0, 0), (.getfield 25, 3, 3, 10, 0), (.iload_n 3, 1, 0, 0, 0), (.iaload, 1, 0, 0, 0), (.iconst 2, 1, 2, 0, 0)], some (.if_icmp .ne 18, 3, 0, 0, 0)) := rfl
theorem bl_X4_copy_57 : blk bX4_copy 57 = some ([(.aload_n 0, 1, 0, 0, 0), (.getfield 34, 3, 3, 13, 0), (.iload_n 1, 1, 0, 0, 0), (.iaload, 1, 0, 0, 0), (.aload_n 0, 1, 0, 0, 0), (.getfield 34, 3, 3, 13, 0), (.iload_n 3, 1, 0, 0, 0), (.iaload, 1, 0, 0, 0)], some (.if_icmp .eq 6, 3, 0, 0, 0)) := rfl
theorem bl_X4_copy_72 : blk bX4_copy 72 = some ([(.bipush (-12), 2, 12, 1, 0)], some (.ireturn, 1, 0, 0, 0)) := rfl
theorem bl_X4_copy_75 : blk bX4_copy 75 = some ([(.iload 5, 2, 0, 0, 0)], some (.ifCond .lt 39, 3, 0, 0, 0)) := rfl
theorem bl_X4_copy_80 : blk bX4_copy 80 = some ([(.iload_n 2, 1, 0, 0, 0)], some (.ifCond .lt 35, 3, 0, 0, 0)) := rfl
theorem bl_X4_copy_84 : blk bX4_copy 84 = some ([(.iload 4, 2, 0, 0, 0)], some (.ifCond .lt 30, 3, 0, 0, 0)) := rfl
theorem bl_X4_copy_89 : blk bX4_copy 89 = some ([(.iload 5, 2, 0, 0, 0), (.aload_n 0, 1, 0, 0, 0), (.getfield 37, 3, 3, 14, 0), (.iload_n 1, 1, 0, 0, 0), (.iaload, 1, 0, 0, 0), (.iload_n 2, 1, 0, 0, 0), (.isub, 1, 0, 0, 0)], some (.if_icmp .gt 17, 3, 0, 0, 0)) := rfl
theorem bl_X4_copy_102 : blk bX4_copy 102 = some ([(.iload 5, 2, 0, 0, 0), (.aload_n 0, 1, 0, 0, 0), (.getfield 37, 3, 3, 14, 0), (.iload_n 3, 1, 0, 0, 0), (.iaload, 1, 0, 0, 0), (.iload 4, 2, 0, 0, 0), (.isub, 1, 0, 0, 0)], some (.if_icmp .le 6, 3, 0, 0, 0)) := rfl
theorem bl_X4_copy_116 : blk bX4_copy 116 = some ([(.bipush (-13), 2, 13, 1, 0)], some (.ireturn, 1, 0, 0, 0)) := rfl
theorem bl_X4_copy_119 : blk bX4_copy 119 = some ([(.iconst 0, 1, 0, 0, 0), (.istore 6, 2, 0, 0, 0)], none) := rfl
theorem bl_X4_copy_122 : blk bX4_copy 122 = some ([(.iload 6, 2, 0, 0, 0), (.iload 5, 2, 0, 0, 0)], some (.if_icmp .ge 58, 3, 0, 0, 0)) := rfl
theorem bl_X4_copy_129 : blk bX4_copy 129 = some ([(.iload_n 2, 1, 0, 0, 0), (.iload 4, 2, 0, 0, 0)], some (.if_icmp .le 8, 3, 0, 0, 0)) := rfl
theorem bl_X4_copy_135 : blk bX4_copy 135 = some ([(.iload 6, 2, 0, 0, 0)], some (.goto 10, 3, 0, 0, 0)) := rfl
theorem bl_X4_copy_140 : blk bX4_copy 140 = some ([(.iload 5, 2, 0, 0, 0), (.iconst 1, 1, 1, 0, 0), (.isub, 1, 0, 0, 0), (.iload 6, 2, 0, 0, 0), (.isub, 1, 0, 0, 0)], none) := rfl
theorem bl_X4_copy_147 : blk bX4_copy 147 = some ([(.istore 7, 2, 0, 0, 0), (.aload_n 0, 1, 0, 0, 0), (.getfield 40, 3, 3, 15, 0), (.bipush 100, 2, 100, 0, 0), (.iload_n 3, 1, 0, 0, 0), (.imul, 1, 0, 0, 0), (.iload 4, 2, 0, 0, 0), (.iadd, 1, 0, 0, 0), (.iload 7, 2, 0, 0, 0), (.iadd, 1, 0, 0, 0), (.aload_n 0, 1, 0, 0, 0), (.getfield 40, 3, 3, 15, 0), (.bipush 100, 2, 100, 0, 0), (.iload_n 1, 1, 0, 0, 0), (.imul, 1, 0, 0, 0), (.iload_n 2, 1, 0, 0, 0), (.iadd, 1, 0, 0, 0), (.iload 7, 2, 0, 0, 0), (.iadd, 1, 0, 0, 0), (.iaload, 1, 0, 0, 0), (.iastore, 1, 0, 0, 0), (.iinc 6 1, 3, 1, 0, 0)], some (.goto (-59), 3, 0, 0, 0)) := rfl
theorem bl_X4_copy_184 : blk bX4_copy 184 = some ([(.iload 5, 2, 0, 0, 0)], some (.ireturn, 1, 0, 0, 0)) := rfl
theorem bl_X4_costBy_0 : blk bX4_costBy 0 = some ([(.iload_n 0, 1, 0, 0, 0)], some (.tableswitch 55 1 6 #[39, 41, 45, 47, 53, 41], 39, 0, 0, 0)) := rfl
theorem bl_X4_costBy_40 : blk bX4_costBy 40 = some ([(.iconst 3, 1, 3, 0, 0)], some (.ireturn, 1, 0, 0, 0)) := rfl
theorem bl_X4_costBy_42 : blk bX4_costBy 42 = some ([(.iconst 1, 1, 1, 0, 0), (.iload_n 1, 1, 0, 0, 0), (.iadd, 1, 0, 0, 0)], some (.ireturn, 1, 0, 0, 0)) := rfl
theorem bl_X4_costBy_46 : blk bX4_costBy 46 = some ([(.iconst 2, 1, 2, 0, 0)], some (.ireturn, 1, 0, 0, 0)) := rfl
theorem bl_X4_costBy_48 : blk bX4_costBy 48 = some ([(.iconst 2, 1, 2, 0, 0), (.iconst 1, 1, 1, 0, 0), (.iload_n 1, 1, 0, 0, 0), (.iadd, 1, 0, 0, 0), (.imul, 1, 0, 0, 0)], some (.ireturn, 1, 0, 0, 0)) := rfl
theorem bl_X4_costBy_54 : blk bX4_costBy 54 = some ([(.iconst 0, 1, 0, 0, 0)], some (.ireturn, 1, 0, 0, 0)) := rfl
theorem bl_X4_costBy_56 : blk bX4_costBy 56 = some ([(.iconst 1, 1, 1, 0, 0)], some (.ireturn, 1, 0, 0, 0)) := rfl
theorem bl_X4_cost_0 : blk bX4_cost 0 = some ([(.aload_n 0, 1, 0, 0, 0), (.iload_n 1, 1, 0, 0, 0)], some (.invokevirtual 187, 3, 151, 2, 3)) := rfl
theorem bl_X4_cost_5 : blk bX4_cost 5 = some ([(.istore_n 2, 1, 0, 0, 0), (.iload_n 2, 1, 0, 0, 0)], some (.ifCond .eq 7, 3, 0, 0, 0)) := rfl
theorem bl_X4_cost_10 : blk bX4_cost 10 = some ([(.iload_n 2, 1, 0, 0, 0)], some (.goto 18, 3, 0, 0, 0)) := rfl
theorem bl_X4_cost_14 : blk bX4_cost 14 = some ([(.aload_n 0, 1, 0, 0, 0), (.getfield 28, 3, 3, 11, 0), (.iload_n 1, 1, 0, 0, 0), (.iaload, 1, 0, 0, 0), (.aload_n 0, 1, 0, 0, 0), (.getfield 31, 3, 3, 12, 0), (.iload_n 1, 1, 0, 0, 0), (.iaload, 1, 0, 0, 0)], some (.invokestatic 282, 3, 205, 2, 0)) := rfl
theorem bl_X4_cost_29 : blk bX4_cost 29 = some ([], some (.ireturn, 1, 0, 0, 0)) := rfl
theorem bl_X4_toss_0 : blk bX4_toss 0 = some ([(.aload_n 0, 1, 0, 0, 0), (.iload_n 1, 1, 0, 0, 0)], some (.invokevirtual 187, 3, 151, 2, 3)) := rfl
theorem bl_X4_toss_5 : blk bX4_toss 5 = some ([(.istore_n 2, 1, 0, 0, 0), (.iload_n 2, 1, 0, 0, 0)], some (.ifCond .eq 5, 3, 0, 0, 0)) := rfl
theorem bl_X4_toss_10 : blk bX4_toss 10 = some ([(.iload_n 2, 1, 0, 0, 0)], some (.ireturn, 1, 0, 0, 0)) := rfl
theorem bl_X4_toss_12 : blk bX4_toss 12 = some ([(.aload_n 0, 1, 0, 0, 0), (.getfield 28, 3, 3, 11, 0), (.iload_n 1, 1, 0, 0, 0), (.iaload, 1, 0, 0, 0), (.istore_n 3, 1, 0, 0, 0), (.aload_n 0, 1, 0, 0, 0), (.getfield 31, 3, 3, 12, 0), (.iload_n 1, 1, 0, 0, 0), (.iaload, 1, 0, 0, 0), (.istore 4, 2, 0, 0, 0), (.iload_n 3, 1, 0, 0, 0), (.iconst 5, 1, 5, 0, 0)], some (.if_icmp .eq 19, 3, 0, 0, 0)) := rfl
theorem bl_X4_toss_32 : blk bX4_toss 32 = some ([(.iload_n 3, 1, 0, 0, 0), (.iconst 3, 1, 3, 0, 0)], some (.if_icmp .eq 14, 3, 0, 0, 0)) := rfl
theorem bl_X4_toss_37 : blk bX4_toss 37 = some ([(.iload_n 3, 1, 0, 0, 0), (.bipush 7, 2, 7, 0, 0)], some (.if_icmp .eq 8, 3, 0, 0, 0)) := rfl
theorem bl_X4_toss_43 : blk bX4_toss 43 = some ([(.iload 4, 2, 0, 0, 0)], some (.ifCond .ne 6, 3, 0, 0, 0)) := rfl
theorem bl_X4_toss_48 : blk bX4_toss 48 = some ([(.bipush (-15), 2, 15, 1, 0)], some (.ireturn, 1, 0, 0, 0)) := rfl
theorem bl_X4_toss_51 : blk bX4_toss 51 = some ([(.iload_n 3, 1, 0, 0, 0), (.bipush 6, 2, 6, 0, 0)], some (.if_icmp .ne 16, 3, 0, 0, 0)) := rfl
theorem bl_X4_toss_57 : blk bX4_toss 57 = some ([(.sipush 200, 3, 200, 0, 0), (.iload_n 3, 1, 0, 0, 0), (.iload 4, 2, 0, 0, 0)], some (.invokestatic 282, 3, 205, 2, 0)) := rfl
theorem bl_X4_toss_66 : blk bX4_toss 66 = some ([(.iadd, 1, 0, 0, 0)], some (.goto 23, 3, 0, 0, 0)) := rfl
theorem bl_X4_toss_70 : blk bX4_toss 70 = some ([(.iload_n 3, 1, 0, 0, 0), (.iconst 2, 1, 2, 0, 0)], some (.if_icmp .eq 8, 3, 0, 0, 0)) := rfl
theorem bl_X4_toss_75 : blk bX4_toss 75 = some ([(.iload_n 3, 1, 0, 0, 0), (.iconst 4, 1, 4, 0, 0)], some (.if_icmp .ne 11, 3, 0, 0, 0)) := rfl
theorem bl_X4_toss_80 : blk bX4_toss 80 = some ([(.bipush 100, 2, 100, 0, 0), (.iload 4, 2, 0, 0, 0), (.iadd, 1, 0, 0, 0)], some (.goto 5, 3, 0, 0, 0)) := rfl
theorem bl_X4_toss_88 : blk bX4_toss 88 = some ([(.iload 4, 2, 0, 0, 0)], none) := rfl
theorem bl_X4_toss_90 : blk bX4_toss 90 = some ([], some (.ireturn, 1, 0, 0, 0)) := rfl

