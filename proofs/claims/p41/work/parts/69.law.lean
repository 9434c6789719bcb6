/-! THE LAW'S CASES -/
theorem bl_L_law_13 : blk bL_law 13 = some ([(.aload_n 1, 1, 0, 0, 0), (.aload_n 2, 1, 0, 0, 0), (.aload_n 0, 1, 0, 0, 0), (.iconst 0, 1, 0, 0, 0)], some (.invokestatic 96, 3, 92, 4, 0)) := rfl
theorem bl_L_law_20 : blk bL_law 20 = some ([], some (.ifCond .ne 5, 3, 0, 0, 0)) := rfl
theorem bl_L_law_23 : blk bL_law 23 = some ([(.iconst 0, 1, 0, 0, 0)], some (.ireturn, 1, 1, 0, 0)) := rfl
theorem bl_L_law_25 : blk bL_law 25 = some ([(.bipush 11, 2, 11, 0, 0), (.istore_n 3, 1, 0, 0, 0)], none) := rfl
theorem bl_L_law_28 : blk bL_law 28 = some ([(.iload_n 3, 1, 0, 0, 0), (.aload_n 0, 1, 0, 0, 0), (.arraylength, 1, 0, 0, 0)], some (.if_icmp .ge 1314, 3, 0, 0, 0)) := rfl
theorem bl_L_law_34 : blk bL_law 34 = some ([(.iload_n 3, 1, 0, 0, 0), (.bipush 40, 2, 40, 0, 0)], some (.if_icmp .ge 1308, 3, 0, 0, 0)) := rfl
theorem bl_L_law_40 : blk bL_law 40 = some ([(.aload_n 0, 1, 0, 0, 0), (.iload_n 3, 1, 0, 0, 0)], some (.invokestatic 58, 3, 77, 2, 0)) := rfl
theorem bl_L_law_45 : blk bL_law 45 = some ([(.istore 4, 2, 0, 0, 0), (.aload_n 1, 1, 0, 0, 0)], some (.invokestatic 100, 3, 93, 1, 0)) := rfl
theorem bl_L_law_51 : blk bL_law 51 = some ([(.lstore 5, 2, 0, 0, 0), (.aload_n 1, 1, 0, 0, 0), (.iconst 0, 1, 0, 0, 0)], some (.invokevirtual 89, 3, 74, 2, 2)) := rfl
theorem bl_L_law_58 : blk bL_law 58 = some ([(.istore 7, 2, 0, 0, 0), (.aload_n 1, 1, 0, 0, 0), (.iconst 4, 1, 4, 0, 0)], some (.invokevirtual 89, 3, 74, 2, 2)) := rfl
theorem bl_L_law_65 : blk bL_law 65 = some ([(.istore 8, 2, 0, 0, 0), (.iconst 0, 1, 0, 0, 0), (.istore 9, 2, 0, 0, 0), (.iconst 0, 1, 0, 0, 0), (.istore 10, 2, 0, 0, 0)], none) := rfl
theorem bl_L_law_73 : blk bL_law 73 = some ([(.iload 10, 2, 0, 0, 0), (.bipush 36, 2, 36, 0, 0)], some (.if_icmp .ge 65, 3, 0, 0, 0)) := rfl
theorem bl_L_law_80 : blk bL_law 80 = some ([(.aload_n 1, 1, 0, 0, 0), (.iload 10, 2, 0, 0, 0)], some (.invokevirtual 104, 3, 53, 2, 2)) := rfl
theorem bl_L_law_86 : blk bL_law 86 = some ([(.istore 11, 2, 0, 0, 0), (.iload 11, 2, 0, 0, 0)], some (.ifCond .lt 28, 3, 0, 0, 0)) := rfl
theorem bl_L_law_93 : blk bL_law 93 = some ([(.aload_n 1, 1, 0, 0, 0), (.iload 11, 2, 0, 0, 0), (.iconst 3, 1, 3, 0, 0)], some (.invokevirtual 92, 3, 52, 3, 2)) := rfl
theorem bl_L_law_100 : blk bL_law 100 = some ([(.iload 10, 2, 0, 0, 0)], some (.if_icmp .ne 14, 3, 0, 0, 0)) := rfl
theorem bl_L_law_105 : blk bL_law 105 = some ([(.iload 9, 2, 0, 0, 0), (.iload 11, 2, 0, 0, 0), (.ishr, 1, 0, 0, 0), (.iconst 1, 1, 1, 0, 0), (.iand, 1, 0, 0, 0), (.iconst 1, 1, 1, 0, 0)], some (.if_icmp .ne 5, 3, 0, 0, 0)) := rfl
theorem bl_L_law_116 : blk bL_law 116 = some ([(.iconst 0, 1, 0, 0, 0)], some (.ireturn, 1, 1, 0, 0)) := rfl
theorem bl_L_law_118 : blk bL_law 118 = some ([(.iload 9, 2, 0, 0, 0), (.iload 11, 2, 0, 0, 0)], some (.ifCond .ge 7, 3, 0, 0, 0)) := rfl
theorem bl_L_law_125 : blk bL_law 125 = some ([(.iconst 0, 1, 0, 0, 0)], some (.goto 7, 3, 0, 0, 0)) := rfl
theorem bl_L_law_129 : blk bL_law 129 = some ([(.iconst 1, 1, 1, 0, 0), (.iload 11, 2, 0, 0, 0), (.ishl, 1, 0, 0, 0)], none) := rfl
theorem bl_L_law_133 : blk bL_law 133 = some ([(.ior, 1, 0, 0, 0), (.istore 9, 2, 0, 0, 0), (.iinc 10 1, 3, 1, 0, 0)], some (.goto (-66), 3, 0, 0, 0)) := rfl
theorem bl_L_law_142 : blk bL_law 142 = some ([(.aload_n 1, 1, 0, 0, 0), (.iconst 0, 1, 0, 0, 0), (.iconst 3, 1, 3, 0, 0)], some (.invokevirtual 106, 3, 70, 3, 2)) := rfl
theorem bl_L_law_148 : blk bL_law 148 = some ([(.aload_n 1, 1, 0, 0, 0), (.iconst 1, 1, 1, 0, 0), (.iconst 3, 1, 3, 0, 0)], some (.invokevirtual 106, 3, 70, 3, 2)) := rfl
theorem bl_L_law_154 : blk bL_law 154 = some ([(.iadd, 1, 0, 0, 0), (.istore 10, 2, 0, 0, 0), (.iload 9, 2, 0, 0, 0), (.iload 8, 2, 0, 0, 0)], some (.if_icmp .ne 102, 3, 0, 0, 0)) := rfl
theorem bl_L_law_164 : blk bL_law 164 = some ([(.aload_n 1, 1, 0, 0, 0), (.iconst 0, 1, 0, 0, 0)], some (.invokevirtual 109, 3, 71, 2, 2)) := rfl
theorem bl_L_law_169 : blk bL_law 169 = some ([(.bipush 36, 2, 36, 0, 0), (.iload 8, 2, 0, 0, 0)], some (.invokestatic 45, 3, 87, 1, 0)) := rfl
theorem bl_L_law_176 : blk bL_law 176 = some ([(.isub, 1, 0, 0, 0)], some (.if_icmp .ne 86, 3, 0, 0, 0)) := rfl
theorem bl_L_law_180 : blk bL_law 180 = some ([(.iload 10, 2, 0, 0, 0), (.iload 8, 2, 0, 0, 0)], some (.invokestatic 45, 3, 87, 1, 0)) := rfl
theorem bl_L_law_187 : blk bL_law 187 = some ([], some (.if_icmp .ne 76, 3, 0, 0, 0)) := rfl
theorem bl_L_law_190 : blk bL_law 190 = some ([(.aload_n 1, 1, 0, 0, 0), (.iconst 0, 1, 0, 0, 0), (.iconst 0, 1, 0, 0, 0)], some (.invokevirtual 106, 3, 70, 3, 2)) := rfl
theorem bl_L_law_196 : blk bL_law 196 = some ([(.aload_n 1, 1, 0, 0, 0), (.iconst 0, 1, 0, 0, 0), (.iconst 3, 1, 3, 0, 0)], some (.invokevirtual 106, 3, 70, 3, 2)) := rfl
theorem bl_L_law_202 : blk bL_law 202 = some ([], some (.if_icmp .gt 61, 3, 0, 0, 0)) := rfl
theorem bl_L_law_205 : blk bL_law 205 = some ([(.aload_n 1, 1, 0, 0, 0), (.iconst 1, 1, 1, 0, 0), (.iconst 0, 1, 0, 0, 0)], some (.invokevirtual 106, 3, 70, 3, 2)) := rfl
theorem bl_L_law_211 : blk bL_law 211 = some ([], some (.ifCond .ne 7, 3, 0, 0, 0)) := rfl
theorem bl_L_law_214 : blk bL_law 214 = some ([(.iconst 1, 1, 1, 0, 0)], some (.goto 4, 3, 0, 0, 0)) := rfl
theorem bl_L_law_218 : blk bL_law 218 = some ([(.iconst 0, 1, 0, 0, 0)], none) := rfl
theorem bl_L_law_219 : blk bL_law 219 = some ([(.aload_n 1, 1, 0, 0, 0), (.iconst 1, 1, 1, 0, 0), (.iconst 3, 1, 3, 0, 0)], some (.invokevirtual 106, 3, 70, 3, 2)) := rfl
theorem bl_L_law_225 : blk bL_law 225 = some ([], some (.ifCond .ne 7, 3, 0, 0, 0)) := rfl
theorem bl_L_law_228 : blk bL_law 228 = some ([(.iconst 1, 1, 1, 0, 0)], some (.goto 4, 3, 0, 0, 0)) := rfl
theorem bl_L_law_232 : blk bL_law 232 = some ([(.iconst 0, 1, 0, 0, 0)], none) := rfl
theorem bl_L_law_233 : blk bL_law 233 = some ([], some (.if_icmp .ne 30, 3, 0, 0, 0)) := rfl
theorem bl_L_law_236 : blk bL_law 236 = some ([(.aload_n 1, 1, 0, 0, 0), (.iconst 0, 1, 0, 0, 0)], some (.invokevirtual 112, 3, 66, 2, 2)) := rfl
theorem bl_L_law_241 : blk bL_law 241 = some ([(.aload_n 1, 1, 0, 0, 0), (.iconst 1, 1, 1, 0, 0)], some (.invokevirtual 112, 3, 66, 2, 2)) := rfl
theorem bl_L_law_246 : blk bL_law 246 = some ([(.iand, 1, 0, 0, 0)], some (.ifCond .ne 16, 3, 0, 0, 0)) := rfl
theorem bl_L_law_250 : blk bL_law 250 = some ([(.aload_n 1, 1, 0, 0, 0), (.iconst 2, 1, 2, 0, 0)], some (.invokevirtual 109, 3, 71, 2, 2)) := rfl
theorem bl_L_law_255 : blk bL_law 255 = some ([(.iload 8, 2, 0, 0, 0), (.iconst (-1), 1, 1, 1, 0), (.ixor, 1, 0, 0, 0), (.iand, 1, 0, 0, 0)], some (.ifCond .eq 5, 3, 0, 0, 0)) := rfl
theorem bl_L_law_263 : blk bL_law 263 = some ([(.iconst 0, 1, 0, 0, 0)], some (.ireturn, 1, 1, 0, 0)) := rfl
theorem bl_L_law_265 : blk bL_law 265 = some ([(.iload 7, 2, 0, 0, 0)], some (.ifCond .ne 7, 3, 0, 0, 0)) := rfl
theorem bl_L_law_270 : blk bL_law 270 = some ([(.iconst 0, 1, 0, 0, 0)], some (.goto 13, 3, 0, 0, 0)) := rfl
theorem bl_L_law_274 : blk bL_law 274 = some ([(.iload 4, 2, 0, 0, 0), (.iconst 3, 1, 3, 0, 0), (.ishr, 1, 0, 0, 0), (.bipush 15, 2, 15, 0, 0), (.iand, 1, 0, 0, 0), (.iload 7, 2, 0, 0, 0), (.irem, 1, 0, 0, 0)], none) := rfl
theorem bl_L_law_284 : blk bL_law 284 = some ([(.istore 11, 2, 0, 0, 0), (.iload 4, 2, 0, 0, 0), (.bipush 7, 2, 7, 0, 0), (.ishr, 1, 0, 0, 0), (.bipush 63, 2, 63, 0, 0), (.iand, 1, 0, 0, 0), (.bipush 36, 2, 36, 0, 0), (.irem, 1, 0, 0, 0), (.istore 12, 2, 0, 0, 0), (.iload 4, 2, 0, 0, 0), (.bipush 7, 2, 7, 0, 0), (.iand, 1, 0, 0, 0)], some (.tableswitch 875 0 6 #[44, 44, 44, 411, 525, 600, 726], 44, 0, 0, 0)) := rfl
theorem bl_L_law_348 : blk bL_law 348 = some ([(.aload_n 1, 1, 0, 0, 0), (.iconst 0, 1, 0, 0, 0)], some (.invokevirtual 115, 3, 64, 2, 2)) := rfl
theorem bl_L_law_353 : blk bL_law 353 = some ([(.istore 13, 2, 0, 0, 0), (.aload_n 1, 1, 0, 0, 0), (.iconst 1, 1, 1, 0, 0)], some (.invokevirtual 115, 3, 64, 2, 2)) := rfl
theorem bl_L_law_360 : blk bL_law 360 = some ([(.istore 14, 2, 0, 0, 0), (.aload_n 1, 1, 0, 0, 0), (.iconst 2, 1, 2, 0, 0)], some (.invokevirtual 115, 3, 64, 2, 2)) := rfl
theorem bl_L_law_367 : blk bL_law 367 = some ([(.istore 15, 2, 0, 0, 0), (.aload_n 1, 1, 0, 0, 0), (.iconst 2, 1, 2, 0, 0)], some (.invokevirtual 89, 3, 74, 2, 2)) := rfl
theorem bl_L_law_374 : blk bL_law 374 = some ([(.istore 16, 2, 0, 0, 0), (.aload_n 1, 1, 0, 0, 0), (.iconst 3, 1, 3, 0, 0)], some (.invokevirtual 89, 3, 74, 2, 2)) := rfl
theorem bl_L_law_381 : blk bL_law 381 = some ([(.istore 17, 2, 0, 0, 0), (.aload_n 1, 1, 0, 0, 0), (.iconst 1, 1, 1, 0, 0)], some (.invokevirtual 89, 3, 74, 2, 2)) := rfl
theorem bl_L_law_388 : blk bL_law 388 = some ([(.istore 18, 2, 0, 0, 0), (.aload_n 1, 1, 0, 0, 0), (.iload 16, 2, 0, 0, 0), (.iconst 3, 1, 3, 0, 0)], some (.invokevirtual 106, 3, 70, 3, 2)) := rfl
theorem bl_L_law_397 : blk bL_law 397 = some ([(.istore 19, 2, 0, 0, 0), (.iload 13, 2, 0, 0, 0)], some (.ifCond .ge 8, 3, 0, 0, 0)) := rfl
theorem bl_L_law_404 : blk bL_law 404 = some ([(.bipush (-4), 2, 4, 1, 0)], some (.goto 9, 3, 0, 0, 0)) := rfl
theorem bl_L_law_409 : blk bL_law 409 = some ([(.aload_n 1, 1, 0, 0, 0), (.iload 14, 2, 0, 0, 0)], some (.invokevirtual 104, 3, 53, 2, 2)) := rfl
theorem bl_L_law_415 : blk bL_law 415 = some ([(.istore 20, 2, 0, 0, 0), (.iload 7, 2, 0, 0, 0)], some (.ifCond .ne 7, 3, 0, 0, 0)) := rfl
theorem bl_L_law_422 : blk bL_law 422 = some ([(.iconst 0, 1, 0, 0, 0)], some (.goto 10, 3, 0, 0, 0)) := rfl
theorem bl_L_law_426 : blk bL_law 426 = some ([(.aload_n 1, 1, 0, 0, 0), (.iload 11, 2, 0, 0, 0), (.iconst 3, 1, 3, 0, 0)], some (.invokevirtual 92, 3, 52, 3, 2)) := rfl
theorem bl_L_law_433 : blk bL_law 433 = some ([(.istore 21, 2, 0, 0, 0), (.aload_n 1, 1, 0, 0, 0), (.iconst 1, 1, 1, 0, 0)], some (.invokevirtual 80, 3, 58, 2, 2)) := rfl
theorem bl_L_law_440 : blk bL_law 440 = some ([(.istore 22, 2, 0, 0, 0), (.iload 18, 2, 0, 0, 0), (.sipush 999, 3, 999, 0, 0)], some (.if_icmp .ne 22, 3, 0, 0, 0)) := rfl
theorem bl_L_law_450 : blk bL_law 450 = some ([(.iload 22, 2, 0, 0, 0), (.bipush (-3), 2, 3, 1, 0)], some (.if_icmp .ne 13, 3, 0, 0, 0)) := rfl
theorem bl_L_law_457 : blk bL_law 457 = some ([(.aload_n 1, 1, 0, 0, 0)], some (.invokestatic 100, 3, 93, 1, 0)) := rfl
theorem bl_L_law_461 : blk bL_law 461 = some ([(.lload 5, 2, 0, 0, 0), (.lcmp, 1, 0, 0, 0)], some (.ifCond .eq 204, 3, 0, 0, 0)) := rfl
theorem bl_L_law_467 : blk bL_law 467 = some ([(.iconst 0, 1, 0, 0, 0)], some (.ireturn, 1, 1, 0, 0)) := rfl
theorem bl_L_law_469 : blk bL_law 469 = some ([(.iload 13, 2, 0, 0, 0)], some (.ifCond .ge 70, 3, 0, 0, 0)) := rfl
theorem bl_L_law_474 : blk bL_law 474 = some ([(.iload 14, 2, 0, 0, 0), (.bipush (-4), 2, 4, 1, 0)], some (.if_icmp .ne 61, 3, 0, 0, 0)) := rfl
theorem bl_L_law_481 : blk bL_law 481 = some ([(.iload 15, 2, 0, 0, 0)], some (.ifCond .ne 56, 3, 0, 0, 0)) := rfl
theorem bl_L_law_486 : blk bL_law 486 = some ([(.aload_n 1, 1, 0, 0, 0), (.iconst 4, 1, 4, 0, 0)], some (.invokevirtual 89, 3, 74, 2, 2)) := rfl
theorem bl_L_law_491 : blk bL_law 491 = some ([(.iload 8, 2, 0, 0, 0)], some (.if_icmp .ne 46, 3, 0, 0, 0)) := rfl
theorem bl_L_law_496 : blk bL_law 496 = some ([(.aload_n 1, 1, 0, 0, 0), (.iconst 3, 1, 3, 0, 0)], some (.invokevirtual 89, 3, 74, 2, 2)) := rfl
theorem bl_L_law_501 : blk bL_law 501 = some ([(.iload 17, 2, 0, 0, 0), (.sipush 9999, 3, 9999, 0, 0)], some (.if_icmp .ge 10, 3, 0, 0, 0)) := rfl
theorem bl_L_law_509 : blk bL_law 509 = some ([(.iload 17, 2, 0, 0, 0), (.iconst 1, 1, 1, 0, 0), (.iadd, 1, 0, 0, 0)], some (.goto 6, 3, 0, 0, 0)) := rfl
theorem bl_L_law_516 : blk bL_law 516 = some ([(.sipush 9999, 3, 9999, 0, 0)], none) := rfl
theorem bl_L_law_519 : blk bL_law 519 = some ([], some (.if_icmp .ne 20, 3, 0, 0, 0)) := rfl
theorem bl_L_law_522 : blk bL_law 522 = some ([(.iload 7, 2, 0, 0, 0)], some (.ifCond .le 144, 3, 0, 0, 0)) := rfl
theorem bl_L_law_527 : blk bL_law 527 = some ([(.aload_n 1, 1, 0, 0, 0), (.iload 11, 2, 0, 0, 0), (.iconst 3, 1, 3, 0, 0)], some (.invokevirtual 92, 3, 52, 3, 2)) := rfl
theorem bl_L_law_534 : blk bL_law 534 = some ([(.iload 21, 2, 0, 0, 0)], some (.if_icmp .eq 132, 3, 0, 0, 0)) := rfl
theorem bl_L_law_539 : blk bL_law 539 = some ([(.iconst 0, 1, 0, 0, 0)], some (.ireturn, 1, 1, 0, 0)) := rfl
theorem bl_L_law_541 : blk bL_law 541 = some ([(.iconst 2, 1, 2, 0, 0), (.iload 15, 2, 0, 0, 0), (.imul, 1, 0, 0, 0), (.iload 19, 2, 0, 0, 0)], some (.if_icmp .le 119, 3, 0, 0, 0)) := rfl
theorem bl_L_law_550 : blk bL_law 550 = some ([(.aload_n 1, 1, 0, 0, 0), (.iload 13, 2, 0, 0, 0), (.iconst 2, 1, 2, 0, 0)], some (.invokevirtual 92, 3, 52, 3, 2)) := rfl
theorem bl_L_law_557 : blk bL_law 557 = some ([(.iload 16, 2, 0, 0, 0)], some (.if_icmp .ne 107, 3, 0, 0, 0)) := rfl
theorem bl_L_law_562 : blk bL_law 562 = some ([(.aload_n 1, 1, 0, 0, 0), (.iload 13, 2, 0, 0, 0), (.iconst 3, 1, 3, 0, 0)], some (.invokevirtual 92, 3, 52, 3, 2)) := rfl
theorem bl_L_law_569 : blk bL_law 569 = some ([(.iload 14, 2, 0, 0, 0)], some (.if_icmp .ne 95, 3, 0, 0, 0)) := rfl
theorem bl_L_law_574 : blk bL_law 574 = some ([(.aload_n 1, 1, 0, 0, 0), (.iconst 3, 1, 3, 0, 0)], some (.invokevirtual 89, 3, 74, 2, 2)) := rfl
theorem bl_L_law_579 : blk bL_law 579 = some ([(.iload 17, 2, 0, 0, 0)], some (.if_icmp .ne 85, 3, 0, 0, 0)) := rfl
theorem bl_L_law_584 : blk bL_law 584 = some ([(.iload 20, 2, 0, 0, 0)], some (.ifCond .lt 27, 3, 0, 0, 0)) := rfl
theorem bl_L_law_589 : blk bL_law 589 = some ([(.aload_n 1, 1, 0, 0, 0), (.iload 20, 2, 0, 0, 0), (.iconst 2, 1, 2, 0, 0)], some (.invokevirtual 92, 3, 52, 3, 2)) := rfl
theorem bl_L_law_596 : blk bL_law 596 = some ([(.iload 16, 2, 0, 0, 0)], some (.if_icmp .eq 68, 3, 0, 0, 0)) := rfl
theorem bl_L_law_601 : blk bL_law 601 = some ([(.aload_n 1, 1, 0, 0, 0), (.iload 20, 2, 0, 0, 0), (.iconst 3, 1, 3, 0, 0)], some (.invokevirtual 92, 3, 52, 3, 2)) := rfl
theorem bl_L_law_608 : blk bL_law 608 = some ([(.bipush (-4), 2, 4, 1, 0)], some (.if_icmp .ne 56, 3, 0, 0, 0)) := rfl
theorem bl_L_law_613 : blk bL_law 613 = some ([(.aload_n 1, 1, 0, 0, 0), (.iconst 4, 1, 4, 0, 0)], some (.invokevirtual 89, 3, 74, 2, 2)) := rfl
theorem bl_L_law_618 : blk bL_law 618 = some ([(.iload 20, 2, 0, 0, 0)], some (.ifCond .ge 8, 3, 0, 0, 0)) := rfl
theorem bl_L_law_623 : blk bL_law 623 = some ([(.iload 8, 2, 0, 0, 0)], some (.goto 12, 3, 0, 0, 0)) := rfl
theorem bl_L_law_628 : blk bL_law 628 = some ([(.iload 8, 2, 0, 0, 0), (.iconst 1, 1, 1, 0, 0), (.iload 20, 2, 0, 0, 0), (.ishl, 1, 0, 0, 0), (.iconst (-1), 1, 1, 1, 0), (.ixor, 1, 0, 0, 0), (.iand, 1, 0, 0, 0)], none) := rfl
theorem bl_L_law_637 : blk bL_law 637 = some ([], some (.if_icmp .ne 29, 3, 0, 0, 0)) := rfl
theorem bl_L_law_640 : blk bL_law 640 = some ([(.iload 11, 2, 0, 0, 0), (.iload 13, 2, 0, 0, 0)], some (.if_icmp .eq 24, 3, 0, 0, 0)) := rfl
theorem bl_L_law_647 : blk bL_law 647 = some ([(.iload 11, 2, 0, 0, 0), (.iload 20, 2, 0, 0, 0)], some (.if_icmp .eq 17, 3, 0, 0, 0)) := rfl
theorem bl_L_law_654 : blk bL_law 654 = some ([(.aload_n 1, 1, 0, 0, 0), (.iload 11, 2, 0, 0, 0), (.iconst 3, 1, 3, 0, 0)], some (.invokevirtual 92, 3, 52, 3, 2)) := rfl
theorem bl_L_law_661 : blk bL_law 661 = some ([(.iload 21, 2, 0, 0, 0)], some (.if_icmp .eq 5, 3, 0, 0, 0)) := rfl
theorem bl_L_law_666 : blk bL_law 666 = some ([(.iconst 0, 1, 0, 0, 0)], some (.ireturn, 1, 1, 0, 0)) := rfl
theorem bl_L_law_668 : blk bL_law 668 = some ([(.iload 18, 2, 0, 0, 0), (.sipush 999, 3, 999, 0, 0)], some (.if_icmp .ge 666, 3, 0, 0, 0)) := rfl
theorem bl_L_law_676 : blk bL_law 676 = some ([(.iload 22, 2, 0, 0, 0), (.aload_n 1, 1, 0, 0, 0), (.iconst 4, 1, 4, 0, 0)], some (.invokevirtual 89, 3, 74, 2, 2)) := rfl
theorem bl_L_law_683 : blk bL_law 683 = some ([], some (.invokestatic 45, 3, 87, 1, 0)) := rfl
theorem bl_L_law_686 : blk bL_law 686 = some ([], some (.if_icmp .ne 27, 3, 0, 0, 0)) := rfl
theorem bl_L_law_689 : blk bL_law 689 = some ([(.aload_n 1, 1, 0, 0, 0), (.iconst 1, 1, 1, 0, 0)], some (.invokevirtual 89, 3, 74, 2, 2)) := rfl
theorem bl_L_law_694 : blk bL_law 694 = some ([(.iload 18, 2, 0, 0, 0), (.iconst 1, 1, 1, 0, 0), (.iadd, 1, 0, 0, 0)], some (.if_icmp .ne 15, 3, 0, 0, 0)) := rfl
theorem bl_L_law_701 : blk bL_law 701 = some ([(.aload_n 1, 1, 0, 0, 0), (.iconst 2, 1, 2, 0, 0)], some (.invokevirtual 89, 3, 74, 2, 2)) := rfl
theorem bl_L_law_706 : blk bL_law 706 = some ([(.iconst 1, 1, 1, 0, 0), (.iload 16, 2, 0, 0, 0), (.isub, 1, 0, 0, 0)], some (.if_icmp .eq 629, 3, 0, 0, 0)) := rfl
theorem bl_L_law_713 : blk bL_law 713 = some ([(.iconst 0, 1, 0, 0, 0)], some (.ireturn, 1, 1, 0, 0)) := rfl
theorem bl_L_law_715 : blk bL_law 715 = some ([(.aload_n 1, 1, 0, 0, 0), (.iload 12, 2, 0, 0, 0)], some (.invokevirtual 104, 3, 53, 2, 2)) := rfl
theorem bl_L_law_721 : blk bL_law 721 = some ([(.istore 13, 2, 0, 0, 0), (.iload 7, 2, 0, 0, 0)], some (.ifCond .ne 7, 3, 0, 0, 0)) := rfl
theorem bl_L_law_728 : blk bL_law 728 = some ([(.iconst 0, 1, 0, 0, 0)], some (.goto 10, 3, 0, 0, 0)) := rfl
theorem bl_L_law_732 : blk bL_law 732 = some ([(.aload_n 1, 1, 0, 0, 0), (.iload 11, 2, 0, 0, 0), (.iconst 3, 1, 3, 0, 0)], some (.invokevirtual 92, 3, 52, 3, 2)) := rfl
theorem bl_L_law_739 : blk bL_law 739 = some ([(.istore 14, 2, 0, 0, 0), (.aload_n 1, 1, 0, 0, 0), (.iload 11, 2, 0, 0, 0), (.iload 12, 2, 0, 0, 0)], some (.invokevirtual 118, 3, 55, 3, 2)) := rfl
theorem bl_L_law_749 : blk bL_law 749 = some ([(.istore 15, 2, 0, 0, 0), (.iload 7, 2, 0, 0, 0)], some (.ifCond .le 19, 3, 0, 0, 0)) := rfl
theorem bl_L_law_756 : blk bL_law 756 = some ([(.iload 13, 2, 0, 0, 0)], some (.ifCond .lt 10, 3, 0, 0, 0)) := rfl
theorem bl_L_law_761 : blk bL_law 761 = some ([(.iload 13, 2, 0, 0, 0), (.iload 11, 2, 0, 0, 0)], some (.if_icmp .ne 7, 3, 0, 0, 0)) := rfl
theorem bl_L_law_768 : blk bL_law 768 = some ([(.iconst 1, 1, 1, 0, 0)], some (.goto 4, 3, 0, 0, 0)) := rfl
theorem bl_L_law_772 : blk bL_law 772 = some ([(.iconst 0, 1, 0, 0, 0)], none) := rfl
theorem bl_L_law_773 : blk bL_law 773 = some ([(.istore 16, 2, 0, 0, 0), (.iload 16, 2, 0, 0, 0)], some (.ifCond .eq 24, 3, 0, 0, 0)) := rfl
theorem bl_L_law_780 : blk bL_law 780 = some ([(.iload 15, 2, 0, 0, 0), (.iload 14, 2, 0, 0, 0)], some (.if_icmp .ne 43, 3, 0, 0, 0)) := rfl
theorem bl_L_law_787 : blk bL_law 787 = some ([(.aload_n 1, 1, 0, 0, 0), (.iload 12, 2, 0, 0, 0)], some (.invokevirtual 104, 3, 53, 2, 2)) := rfl
theorem bl_L_law_793 : blk bL_law 793 = some ([(.iload 11, 2, 0, 0, 0)], some (.if_icmp .eq 544, 3, 0, 0, 0)) := rfl
theorem bl_L_law_798 : blk bL_law 798 = some ([], some (.goto 29, 3, 0, 0, 0)) := rfl
theorem bl_L_law_801 : blk bL_law 801 = some ([(.iload 15, 2, 0, 0, 0), (.iload 7, 2, 0, 0, 0)], some (.ifCond .ne 7, 3, 0, 0, 0)) := rfl
theorem bl_L_law_808 : blk bL_law 808 = some ([(.iconst (-1), 1, 1, 1, 0)], some (.goto 5, 3, 0, 0, 0)) := rfl
theorem bl_L_law_812 : blk bL_law 812 = some ([(.bipush (-3), 2, 3, 1, 0)], none) := rfl
theorem bl_L_law_814 : blk bL_law 814 = some ([], some (.if_icmp .ne 13, 3, 0, 0, 0)) := rfl
theorem bl_L_law_817 : blk bL_law 817 = some ([(.aload_n 1, 1, 0, 0, 0)], some (.invokestatic 100, 3, 93, 1, 0)) := rfl
theorem bl_L_law_821 : blk bL_law 821 = some ([(.lload 5, 2, 0, 0, 0), (.lcmp, 1, 0, 0, 0)], some (.ifCond .eq 515, 3, 0, 0, 0)) := rfl
theorem bl_L_law_827 : blk bL_law 827 = some ([(.iconst 0, 1, 0, 0, 0)], some (.ireturn, 1, 1, 0, 0)) := rfl
theorem bl_L_law_829 : blk bL_law 829 = some ([(.aload_n 1, 1, 0, 0, 0)], some (.invokevirtual 121, 3, 72, 1, 2)) := rfl
theorem bl_L_law_833 : blk bL_law 833 = some ([(.istore 13, 2, 0, 0, 0), (.aload_n 1, 1, 0, 0, 0), (.bipush 9, 2, 9, 0, 0)], some (.invokevirtual 80, 3, 58, 2, 2)) := rfl
theorem bl_L_law_841 : blk bL_law 841 = some ([(.aload_n 1, 1, 0, 0, 0), (.iload 11, 2, 0, 0, 0), (.iload 12, 2, 0, 0, 0)], some (.invokevirtual 118, 3, 55, 3, 2)) := rfl
theorem bl_L_law_849 : blk bL_law 849 = some ([(.iadd, 1, 0, 0, 0), (.aload_n 1, 1, 0, 0, 0), (.iload 11, 2, 0, 0, 0)], some (.invokevirtual 70, 3, 56, 2, 2)) := rfl
theorem bl_L_law_856 : blk bL_law 856 = some ([(.iadd, 1, 0, 0, 0), (.aload_n 1, 1, 0, 0, 0), (.iconst 1, 1, 1, 0, 0)], some (.invokevirtual 73, 3, 57, 2, 2)) := rfl
theorem bl_L_law_862 : blk bL_law 862 = some ([(.iadd, 1, 0, 0, 0), (.aload_n 1, 1, 0, 0, 0), (.iconst 1, 1, 1, 0, 0), (.iconst 1, 1, 1, 0, 0), (.iconst 4, 1, 4, 0, 0), (.iconst 2, 1, 2, 0, 0)], some (.invokevirtual 61, 3, 75, 5, 2)) := rfl
theorem bl_L_law_871 : blk bL_law 871 = some ([(.iadd, 1, 0, 0, 0), (.aload_n 1, 1, 0, 0, 0), (.iconst 1, 1, 1, 0, 0), (.iconst 0, 1, 0, 0, 0), (.iload 12, 2, 0, 0, 0)], some (.invokevirtual 67, 3, 54, 4, 2)) := rfl
theorem bl_L_law_880 : blk bL_law 880 = some ([(.iadd, 1, 0, 0, 0), (.istore 14, 2, 0, 0, 0), (.aload_n 1, 1, 0, 0, 0)], some (.invokevirtual 125, 3, 73, 1, 2)) := rfl
theorem bl_L_law_887 : blk bL_law 887 = some ([(.iload 13, 2, 0, 0, 0)], some (.if_icmp .ne 13, 3, 0, 0, 0)) := rfl
theorem bl_L_law_892 : blk bL_law 892 = some ([(.aload_n 1, 1, 0, 0, 0)], some (.invokestatic 100, 3, 93, 1, 0)) := rfl
theorem bl_L_law_896 : blk bL_law 896 = some ([(.lload 5, 2, 0, 0, 0), (.lcmp, 1, 0, 0, 0)], some (.ifCond .eq 440, 3, 0, 0, 0)) := rfl
theorem bl_L_law_902 : blk bL_law 902 = some ([(.iconst 0, 1, 0, 0, 0)], some (.ireturn, 1, 1, 0, 0)) := rfl
theorem bl_L_law_904 : blk bL_law 904 = some ([(.aload_n 1, 1, 0, 0, 0), (.bipush 10, 2, 10, 0, 0), (.iconst 0, 1, 0, 0, 0)], some (.invokevirtual 92, 3, 52, 3, 2)) := rfl
theorem bl_L_law_911 : blk bL_law 911 = some ([(.aload_n 1, 1, 0, 0, 0), (.iconst 0, 1, 0, 0, 0)], some (.invokevirtual 80, 3, 58, 2, 2)) := rfl
theorem bl_L_law_916 : blk bL_law 916 = some ([(.iadd, 1, 0, 0, 0), (.aload_n 1, 1, 0, 0, 0), (.iconst 2, 1, 2, 0, 0)], some (.invokevirtual 73, 3, 57, 2, 2)) := rfl
theorem bl_L_law_922 : blk bL_law 922 = some ([(.iadd, 1, 0, 0, 0), (.aload_n 1, 1, 0, 0, 0), (.iconst 3, 1, 3, 0, 0)], some (.invokevirtual 115, 3, 64, 2, 2)) := rfl
theorem bl_L_law_928 : blk bL_law 928 = some ([(.iadd, 1, 0, 0, 0), (.aload_n 1, 1, 0, 0, 0), (.iconst 3, 1, 3, 0, 0)], some (.invokevirtual 109, 3, 71, 2, 2)) := rfl
theorem bl_L_law_934 : blk bL_law 934 = some ([(.iadd, 1, 0, 0, 0), (.aload_n 1, 1, 0, 0, 0), (.bipush 9, 2, 9, 0, 0)], some (.invokevirtual 128, 3, 51, 2, 2)) := rfl
theorem bl_L_law_941 : blk bL_law 941 = some ([(.iadd, 1, 0, 0, 0), (.istore 13, 2, 0, 0, 0), (.aload_n 1, 1, 0, 0, 0), (.bipush 20, 2, 20, 0, 0), (.iconst 0, 1, 0, 0, 0)], some (.invokevirtual 131, 3, 60, 3, 2)) := rfl
theorem bl_L_law_951 : blk bL_law 951 = some ([(.aload_n 1, 1, 0, 0, 0)], some (.invokevirtual 134, 3, 63, 1, 2)) := rfl
theorem bl_L_law_955 : blk bL_law 955 = some ([(.iadd, 1, 0, 0, 0), (.aload_n 1, 1, 0, 0, 0), (.iconst 3, 1, 3, 0, 0)], some (.invokevirtual 137, 3, 69, 2, 2)) := rfl
theorem bl_L_law_961 : blk bL_law 961 = some ([(.iadd, 1, 0, 0, 0), (.aload_n 1, 1, 0, 0, 0), (.iconst (-1), 1, 1, 1, 0)], some (.invokevirtual 140, 3, 62, 2, 2)) := rfl
theorem bl_L_law_967 : blk bL_law 967 = some ([(.iadd, 1, 0, 0, 0), (.istore 14, 2, 0, 0, 0), (.iload 13, 2, 0, 0, 0), (.bipush (-6), 2, 6, 1, 0)], some (.if_icmp .ne 54, 3, 0, 0, 0)) := rfl
theorem bl_L_law_977 : blk bL_law 977 = some ([(.aload_n 1, 1, 0, 0, 0)], some (.invokestatic 100, 3, 93, 1, 0)) := rfl
theorem bl_L_law_981 : blk bL_law 981 = some ([(.lload 5, 2, 0, 0, 0), (.lcmp, 1, 0, 0, 0)], some (.ifCond .ne 44, 3, 0, 0, 0)) := rfl
theorem bl_L_law_987 : blk bL_law 987 = some ([(.aload_n 1, 1, 0, 0, 0), (.iconst 0, 1, 0, 0, 0), (.iconst 0, 1, 0, 0, 0)], some (.invokevirtual 131, 3, 60, 3, 2)) := rfl
theorem bl_L_law_993 : blk bL_law 993 = some ([(.iload 8, 2, 0, 0, 0)], some (.if_icmp .ne 33, 3, 0, 0, 0)) := rfl
theorem bl_L_law_998 : blk bL_law 998 = some ([(.aload_n 1, 1, 0, 0, 0), (.bipush 20, 2, 20, 0, 0), (.iconst 0, 1, 0, 0, 0)], some (.invokevirtual 131, 3, 60, 3, 2)) := rfl
theorem bl_L_law_1005 : blk bL_law 1005 = some ([(.iload 8, 2, 0, 0, 0), (.iconst (-1), 1, 1, 1, 0), (.ixor, 1, 0, 0, 0), (.iand, 1, 0, 0, 0)], some (.ifCond .ne 18, 3, 0, 0, 0)) := rfl
theorem bl_L_law_1013 : blk bL_law 1013 = some ([(.aload_n 1, 1, 0, 0, 0), (.bipush 20, 2, 20, 0, 0), (.iconst 1, 1, 1, 0, 0)], some (.invokevirtual 131, 3, 60, 3, 2)) := rfl
theorem bl_L_law_1020 : blk bL_law 1020 = some ([(.aload_n 1, 1, 0, 0, 0), (.iconst 3, 1, 3, 0, 0)], some (.invokevirtual 89, 3, 74, 2, 2)) := rfl
theorem bl_L_law_1025 : blk bL_law 1025 = some ([], some (.if_icmp .ge 314, 3, 0, 0, 0)) := rfl
theorem bl_L_law_1028 : blk bL_law 1028 = some ([(.iconst 0, 1, 0, 0, 0)], some (.ireturn, 1, 1, 0, 0)) := rfl
theorem bl_L_law_1030 : blk bL_law 1030 = some ([(.iload 7, 2, 0, 0, 0)], some (.ifCond .le 307, 3, 0, 0, 0)) := rfl
theorem bl_L_law_1035 : blk bL_law 1035 = some ([(.iload 8, 2, 0, 0, 0), (.iload 11, 2, 0, 0, 0), (.ishr, 1, 0, 0, 0), (.iconst 1, 1, 1, 0, 0), (.iand, 1, 0, 0, 0), (.iconst 1, 1, 1, 0, 0)], some (.if_icmp .ne 7, 3, 0, 0, 0)) := rfl
theorem bl_L_law_1046 : blk bL_law 1046 = some ([(.iconst 1, 1, 1, 0, 0)], some (.goto 4, 3, 0, 0, 0)) := rfl
theorem bl_L_law_1050 : blk bL_law 1050 = some ([(.iconst 0, 1, 0, 0, 0)], none) := rfl
theorem bl_L_law_1051 : blk bL_law 1051 = some ([(.istore 13, 2, 0, 0, 0), (.aload_n 1, 1, 0, 0, 0), (.iload 11, 2, 0, 0, 0), (.iconst 3, 1, 3, 0, 0)], some (.invokevirtual 92, 3, 52, 3, 2)) := rfl
theorem bl_L_law_1060 : blk bL_law 1060 = some ([(.istore 14, 2, 0, 0, 0), (.aload_n 1, 1, 0, 0, 0), (.iload 11, 2, 0, 0, 0), (.iconst 5, 1, 5, 0, 0)], some (.invokevirtual 92, 3, 52, 3, 2)) := rfl
theorem bl_L_law_1069 : blk bL_law 1069 = some ([(.istore 15, 2, 0, 0, 0), (.aload_n 1, 1, 0, 0, 0), (.iload 11, 2, 0, 0, 0), (.iconst 2, 1, 2, 0, 0)], some (.invokevirtual 92, 3, 52, 3, 2)) := rfl
theorem bl_L_law_1078 : blk bL_law 1078 = some ([(.istore 16, 2, 0, 0, 0), (.aload_n 1, 1, 0, 0, 0), (.iload 16, 2, 0, 0, 0), (.iconst 1, 1, 1, 0, 0)], some (.invokevirtual 106, 3, 70, 3, 2)) := rfl
theorem bl_L_law_1087 : blk bL_law 1087 = some ([(.istore 17, 2, 0, 0, 0), (.aload_n 1, 1, 0, 0, 0), (.iload 11, 2, 0, 0, 0)], some (.invokevirtual 70, 3, 56, 2, 2)) := rfl
theorem bl_L_law_1095 : blk bL_law 1095 = some ([(.iload 13, 2, 0, 0, 0)], some (.ifCond .eq 8, 3, 0, 0, 0)) := rfl
theorem bl_L_law_1100 : blk bL_law 1100 = some ([(.iload 14, 2, 0, 0, 0)], some (.goto 5, 3, 0, 0, 0)) := rfl
theorem bl_L_law_1105 : blk bL_law 1105 = some ([(.bipush (-3), 2, 3, 1, 0)], none) := rfl
theorem bl_L_law_1107 : blk bL_law 1107 = some ([], some (.if_icmp .ne 67, 3, 0, 0, 0)) := rfl
theorem bl_L_law_1110 : blk bL_law 1110 = some ([(.aload_n 1, 1, 0, 0, 0), (.iload 11, 2, 0, 0, 0)], some (.invokevirtual 140, 3, 62, 2, 2)) := rfl
theorem bl_L_law_1116 : blk bL_law 1116 = some ([], some (.ifCond .ne 58, 3, 0, 0, 0)) := rfl
theorem bl_L_law_1119 : blk bL_law 1119 = some ([(.aload_n 1, 1, 0, 0, 0), (.iload 16, 2, 0, 0, 0), (.iconst 1, 1, 1, 0, 0)], some (.invokevirtual 106, 3, 70, 3, 2)) := rfl
theorem bl_L_law_1126 : blk bL_law 1126 = some ([(.iload 13, 2, 0, 0, 0)], some (.ifCond .eq 11, 3, 0, 0, 0)) := rfl
theorem bl_L_law_1131 : blk bL_law 1131 = some ([(.iload 17, 2, 0, 0, 0), (.iload 15, 2, 0, 0, 0), (.isub, 1, 0, 0, 0)], some (.goto 5, 3, 0, 0, 0)) := rfl
theorem bl_L_law_1139 : blk bL_law 1139 = some ([(.iload 17, 2, 0, 0, 0)], none) := rfl
theorem bl_L_law_1141 : blk bL_law 1141 = some ([], some (.if_icmp .ne 33, 3, 0, 0, 0)) := rfl
theorem bl_L_law_1144 : blk bL_law 1144 = some ([(.aload_n 1, 1, 0, 0, 0), (.iconst 4, 1, 4, 0, 0)], some (.invokevirtual 89, 3, 74, 2, 2)) := rfl
theorem bl_L_law_1149 : blk bL_law 1149 = some ([(.iload 8, 2, 0, 0, 0), (.iconst 1, 1, 1, 0, 0), (.iload 11, 2, 0, 0, 0), (.ishl, 1, 0, 0, 0), (.iconst (-1), 1, 1, 1, 0), (.ixor, 1, 0, 0, 0), (.iand, 1, 0, 0, 0)], some (.if_icmp .ne 16, 3, 0, 0, 0)) := rfl
theorem bl_L_law_1161 : blk bL_law 1161 = some ([(.aload_n 1, 1, 0, 0, 0), (.iload 11, 2, 0, 0, 0), (.bipush 6, 2, 6, 0, 0)], some (.invokevirtual 92, 3, 52, 3, 2)) := rfl
theorem bl_L_law_1169 : blk bL_law 1169 = some ([(.bipush (-4), 2, 4, 1, 0)], some (.if_icmp .eq 5, 3, 0, 0, 0)) := rfl
theorem bl_L_law_1174 : blk bL_law 1174 = some ([(.iconst 0, 1, 0, 0, 0)], some (.ireturn, 1, 1, 0, 0)) := rfl
theorem bl_L_law_1176 : blk bL_law 1176 = some ([], some (.goto 163, 3, 0, 0, 0)) := rfl
theorem bl_L_law_1179 : blk bL_law 1179 = some ([(.iload 7, 2, 0, 0, 0)], some (.ifCond .le 158, 3, 0, 0, 0)) := rfl
theorem bl_L_law_1184 : blk bL_law 1184 = some ([(.iload 8, 2, 0, 0, 0), (.iload 11, 2, 0, 0, 0), (.ishr, 1, 0, 0, 0), (.iconst 1, 1, 1, 0, 0), (.iand, 1, 0, 0, 0), (.iconst 1, 1, 1, 0, 0)], some (.if_icmp .ne 147, 3, 0, 0, 0)) := rfl
theorem bl_L_law_1195 : blk bL_law 1195 = some ([(.aload_n 1, 1, 0, 0, 0), (.iload 11, 2, 0, 0, 0)], some (.invokevirtual 143, 3, 65, 2, 2)) := rfl
theorem bl_L_law_1201 : blk bL_law 1201 = some ([(.istore 13, 2, 0, 0, 0), (.aload_n 1, 1, 0, 0, 0), (.iload 11, 2, 0, 0, 0), (.iconst 3, 1, 3, 0, 0), (.iconst 0, 1, 0, 0, 0)], some (.invokevirtual 145, 3, 68, 4, 2)) := rfl
theorem bl_L_law_1211 : blk bL_law 1211 = some ([(.istore 14, 2, 0, 0, 0), (.aload_n 1, 1, 0, 0, 0), (.iload 11, 2, 0, 0, 0), (.iconst 3, 1, 3, 0, 0), (.iconst 1, 1, 1, 0, 0)], some (.invokevirtual 145, 3, 68, 4, 2)) := rfl
theorem bl_L_law_1221 : blk bL_law 1221 = some ([(.istore 15, 2, 0, 0, 0), (.aload_n 1, 1, 0, 0, 0), (.iload 11, 2, 0, 0, 0), (.iconst 2, 1, 2, 0, 0)], some (.invokevirtual 92, 3, 52, 3, 2)) := rfl
theorem bl_L_law_1230 : blk bL_law 1230 = some ([(.istore 16, 2, 0, 0, 0), (.iload 13, 2, 0, 0, 0), (.iload 11, 2, 0, 0, 0), (.ishr, 1, 0, 0, 0), (.iconst 1, 1, 1, 0, 0), (.iand, 1, 0, 0, 0)], some (.ifCond .eq 98, 3, 0, 0, 0)) := rfl
theorem bl_L_law_1242 : blk bL_law 1242 = some ([(.iload 13, 2, 0, 0, 0), (.iload 8, 2, 0, 0, 0), (.iconst (-1), 1, 1, 1, 0), (.ixor, 1, 0, 0, 0), (.iand, 1, 0, 0, 0)], some (.ifCond .ne 88, 3, 0, 0, 0)) := rfl
theorem bl_L_law_1252 : blk bL_law 1252 = some ([(.aload_n 1, 1, 0, 0, 0), (.iload 14, 2, 0, 0, 0)], some (.invokevirtual 104, 3, 53, 2, 2)) := rfl
theorem bl_L_law_1258 : blk bL_law 1258 = some ([], some (.ifCond .lt 14, 3, 0, 0, 0)) := rfl
theorem bl_L_law_1261 : blk bL_law 1261 = some ([(.aload_n 1, 1, 0, 0, 0), (.iload 14, 2, 0, 0, 0)], some (.invokevirtual 104, 3, 53, 2, 2)) := rfl
theorem bl_L_law_1267 : blk bL_law 1267 = some ([(.iload 11, 2, 0, 0, 0)], some (.if_icmp .ne 68, 3, 0, 0, 0)) := rfl
theorem bl_L_law_1272 : blk bL_law 1272 = some ([(.aload_n 1, 1, 0, 0, 0), (.iconst 3, 1, 3, 0, 0), (.iconst 2, 1, 2, 0, 0), (.iload 16, 2, 0, 0, 0), (.iadd, 1, 0, 0, 0)], some (.invokevirtual 131, 3, 60, 3, 2)) := rfl
theorem bl_L_law_1281 : blk bL_law 1281 = some ([(.aload_n 1, 1, 0, 0, 0), (.iconst 3, 1, 3, 0, 0), (.iconst 3, 1, 3, 0, 0), (.iload 16, 2, 0, 0, 0), (.isub, 1, 0, 0, 0)], some (.invokevirtual 131, 3, 60, 3, 2)) := rfl
theorem bl_L_law_1290 : blk bL_law 1290 = some ([(.isub, 1, 0, 0, 0), (.bipush 100, 2, 100, 0, 0), (.iadd, 1, 0, 0, 0), (.iload 15, 2, 0, 0, 0)], some (.if_icmp .gt 41, 3, 0, 0, 0)) := rfl
theorem bl_L_law_1299 : blk bL_law 1299 = some ([(.aload_n 1, 1, 0, 0, 0), (.iload 11, 2, 0, 0, 0), (.iload 14, 2, 0, 0, 0)], some (.invokevirtual 118, 3, 55, 3, 2)) := rfl
theorem bl_L_law_1307 : blk bL_law 1307 = some ([], some (.ifCond .lt 30, 3, 0, 0, 0)) := rfl
theorem bl_L_law_1310 : blk bL_law 1310 = some ([(.aload_n 1, 1, 0, 0, 0), (.iconst 3, 1, 3, 0, 0), (.iconst 2, 1, 2, 0, 0), (.iload 16, 2, 0, 0, 0), (.iadd, 1, 0, 0, 0)], some (.invokevirtual 131, 3, 60, 3, 2)) := rfl
theorem bl_L_law_1319 : blk bL_law 1319 = some ([(.aload_n 1, 1, 0, 0, 0), (.iconst 3, 1, 3, 0, 0), (.iconst 3, 1, 3, 0, 0), (.iload 16, 2, 0, 0, 0), (.isub, 1, 0, 0, 0)], some (.invokevirtual 131, 3, 60, 3, 2)) := rfl
theorem bl_L_law_1328 : blk bL_law 1328 = some ([(.isub, 1, 0, 0, 0), (.bipush 100, 2, 100, 0, 0), (.iadd, 1, 0, 0, 0), (.iload 15, 2, 0, 0, 0)], some (.if_icmp .eq 5, 3, 0, 0, 0)) := rfl
theorem bl_L_law_1337 : blk bL_law 1337 = some ([(.iconst 0, 1, 0, 0, 0)], some (.ireturn, 1, 1, 0, 0)) := rfl
theorem bl_L_law_1339 : blk bL_law 1339 = some ([(.iinc 3 1, 3, 1, 0, 0)], some (.goto (-1314), 3, 0, 0, 0)) := rfl
theorem bl_L_law_1345 : blk bL_law 1345 = some ([(.iconst 1, 1, 1, 0, 0)], some (.ireturn, 1, 1, 0, 0)) := rfl
section IWS
variable {h h1 h2 : Mem} {G Gi G' : Bd} {T : Int} {S S' : Sv}
theorem CW.jx (H : CW h G T Gi S) (F : JX h h1) : CW h1 G T Gi S :=
  ⟨H.1.jx F (by omega), (F 2 0 2 (by omega)).trans H.2.1, fun e => (H.2.2.1 e).jx F (by omega), H.2.2.2.fr (fun t b k ht => F t b k (by omega))⟩
theorem RW.jy (H : RW h G T Gi S) (F : JY h h1) : RW h1 G T Gi S :=
  ⟨H.1.jy F (by omega), (F 3 0 4 (by omega)).trans H.2.1, fun e => (H.2.2.1 e).jy F (by omega), H.2.2.2.fr (fun t b k ht => F t b k (by omega))⟩
theorem CW.chg (H : CW h G T Gi S) (R : RC h1 0 G') (F : ∀ t b k : Nat, ¬ ((t = 0 ∨ (4 ≤ t ∧ t ≤ 8)) ∧ (b = 0 ∨ b = 2)) → hI h1 t b k = hI h t b k) : CW h1 G' T Gi S :=
  ⟨R, (F 2 0 2 (by omega)).trans H.2.1, fun e => (H.2.2.1 e).eqs (fun t k ht => F t 1 k (by omega)), H.2.2.2.fr (fun t b k ht => F t b k (by omega))⟩
theorem RW.chg (H : RW h G T Gi S) (R : RR h1 0 G' no0 0) (F : FrG h h1) : RW h1 G' T Gi S :=
  ⟨R, (F 3 0 4 (by omega)).trans H.2.1, fun e => (H.2.2.1 e).eqs (fun k => F 12 2 k (by omega)), H.2.2.2.fr (fun t b k ht => F t b k (by omega))⟩
theorem CW.shf (H : CW h G T Gi S) (R : SC h1 S') (F : FrS h h1) : CW h1 G T Gi S' :=
  ⟨H.1.eqs (fun t k ht => F t 0 k (by omega)), (F 2 0 2 (by omega)).trans H.2.1, fun e => (H.2.2.1 e).eqs (fun t k ht => F t 1 k (by omega)), R⟩
theorem RW.shf (H : RW h G T Gi S) (R : SR h1 S') (F : FrT h h1) : RW h1 G T Gi S' :=
  ⟨H.1.eqs (fun k => F 12 0 k (by omega)), (F 3 0 4 (by omega)).trans H.2.1, fun e => (H.2.2.1 e).eqs (fun k => F 12 2 k (by omega)), R⟩
end IWS
theorem rn_ok {c : Int → Int} {n : Int} (n0 : 0 ≤ n) : ∀ (f : Nat) (V : Bd) (i : Int), 0 ≤ i → WB c n (-4) i (-4) → n - i ≤ (f : Int) → OKB V → dy V ≤ 999 → (rn c n f V i).1 = 0 → OKB (rn c n f V i).2 ∧ dy (rn c n f V i).2 ≤ 999
  | 0, V, i, _, _, _, hO, hd, _ => ⟨hO, hd⟩
  | f + 1, V, i, i0, hB, hf, hO, hd, he => by
    rw [rn] at he ⊢
    by_cases hi : n ≤ i
    · rw [if_pos hi]; exact ⟨hO, hd⟩
    · rw [if_neg hi] at he ⊢
      obtain ⟨s1, s2, s3, s4⟩ := WB_st n0 i0 (by omega) hB
      have g := @nd_R (c i)
      by_cases ok : okTx c V i
      · rw [ifp_p ok] at he ⊢
        obtain ⟨o1, o2⟩ := vT_ok (n := n) hO hd ok ⟨s1, s2, s3⟩
        exact rn_ok n0 f _ _ (by omega) s4 (by omega) o1 o2 he
      · rw [ifp_n ok] at he
        have he : -2000 - i = 0 := he
        omega
section OKs
variable {G G' Gi : Bd} {S : Sv} {v T : Int}
theorem ok_stands (hO : OKB G) (hd : dy G ≤ 999) {p q : Int} (e : oStands G p q = (v, G')) : OKB G' ∧ dy G' ≤ 999 := by
  unfold oStands at e
  split at e
  · rename_i c
    split at e
    · rename_i c2
      cases e
      exact ⟨OKB_mov hO c.2.1 (by omega) (fun _ => c2), hd⟩
    · cases e; exact ⟨hO, hd⟩
  · cases e; exact ⟨hO, hd⟩
theorem ok_takes (hO : OKB G) (hd : dy G ≤ 999) {p : Int} (e : oTakes G p = (v, G')) : OKB G' ∧ dy G' ≤ 999 := by
  unfold oTakes at e
  split at e
  · split at e
    · cases e; exact ⟨OKB_off hO p, hd⟩
    · cases e; exact ⟨hO, hd⟩
  · cases e; exact ⟨hO, hd⟩
theorem ok_turn (hO : OKB G) (hd : dy G ≤ 999) {s : Int} (e : oTurn G s = (v, G')) : OKB G' ∧ dy G' ≤ 999 := by
  unfold oTurn at e
  split at e
  · rename_i c; cases e; exact ⟨OKB_sett hO c, hd⟩
  · cases e; exact ⟨hO, hd⟩
theorem ok_days (hO : OKB G) (hd : dy G ≤ 999) {n : Int} (e : oDays G n = (v, G')) : OKB G' ∧ dy G' ≤ 999 := by
  unfold oDays at e
  split at e
  · rename_i c
    split at e
    · rename_i c2
      cases e
      have g := DN_f (M := no0) hO n (by omega)
      exact ⟨g.1, by rw [g.2.2.1]; exact c2⟩
    · cases e; exact ⟨hO, hd⟩
  · cases e; exact ⟨hO, hd⟩
theorem ok_comes (hO : OKB G) (hd : dy G ≤ 999) (hK : OKS S) {x s q : Int} (e : oComes G S x s q = (v, G')) : OKB G' ∧ dy G' ≤ 999 := by
  unfold oComes at e
  split at e
  · cases e; exact ⟨hO, hd⟩
  · rename_i c1
    split at e
    · cases e; exact ⟨hO, hd⟩
    · rename_i c2
      split at e
      · cases e; exact ⟨hO, hd⟩
      · rename_i c3
        split at e
        · rename_i c4
          cases e
          have c1 := Classical.not_not.mp c1
          have c2 := Classical.not_not.mp c2
          have h1 : ho S x = 1 := by unfold rfu at c2; omega
          have g := (hK x c1.1.1 c1.1.2).2.1 h1
          exact ⟨OKB_addp hO (by omega) g.1 g.2 c1.2.1 c1.2.2.1 c1.2.2.2 c4, hd⟩
        · cases e; exact ⟨hO, hd⟩
theorem ok_game (hO : OKB G) (hd : dy G ≤ 999) (hK : OKS S) {x : Int} (e : oGame G S x = (v, G')) : OKB G' ∧ dy G' ≤ 999 := by
  unfold oGame at e
  split at e
  · cases e; exact ⟨hO, hd⟩
  · rename_i c1
    split at e
    · cases e; exact ⟨hO, hd⟩
    · split at e
      · cases e; exact ⟨hO, hd⟩
      · rename_i c2 c3
        split at e
        · rename_i c4
          cases e
          have c1 := Classical.not_not.mp c1
          have c3 := Classical.not_not.mp c3
          have h1 : (0 ≤ x ∧ x < 8) ∧ ho S x = 2 := by unfold rfu at c1; omega
          have g := (hK x h1.1.1 h1.1.2).2.2 h1.2
          refine rn_ok (by omega) 101 G 0 (by omega) ⟨101, by omega, ?_⟩ (by omega) hO hd c4
          unfold wbS at c3
          split at c3
          · omega
          · exact c3.symm
        · cases e; exact ⟨hO, hd⟩
end OKs
theorem pair_inj {α : Type} {a b : Int} {x y : α} (h : (a, x) = (b, y)) : a = b ∧ x = y := by cases h; exact ⟨rfl, rfl⟩
section LAWC
variable {e N : Nat} {Stop : Nat → Lc → List AV → Mem → Prop} {Rt : Option AV → Mem → Prop} {h : Mem} {i : Int} {u5 u6 u7 : Option AV}
theorem t_ic_same {CL : Nat → List AV → Mem → (Option AV → Mem → Prop) → Prop} {L : Nat} {K : Nat → Lc → List AV → Mem → Prop} {o : Int} {pc l a b c : Nat} {ls : Lc} {st : List AV} {x : Int32} (q1 : Nat) (h1 : tgt pc o = q1) (k : K q1 ls st h) : wB CL L K Rt (some (.if_icmp .eq o, l, a, b, c)) [] pc ls (ai x :: ai x :: st) h := by
  subst h1
  exact ⟨fun _ => k, fun z => absurd rfl z⟩
theorem t_lc_same {CL : Nat → List AV → Mem → (Option AV → Mem → Prop) → Prop} {L : Nat} {K : Nat → Lc → List AV → Mem → Prop} {o : Int} {pc p2 l a b c l2 a2 b2 c2 : Nat} {ls : Lc} {st : List AV} {x : Int64} (q1 : Nat) (h2 : pc + l2 = p2) (h1 : tgt p2 o = q1) (k : K q1 ls st h) : wB CL L K Rt (some (.ifCond .eq o, l, a, b, c)) [(.lcmp, l2, a2, b2, c2)] pc ls (al x :: al x :: st) h := by
  subst h2
  refine i_lcmp ?_
  rw [lcm_e rfl]
  subst h1
  exact ⟨fun _ => k, fun z => absurd rfl z⟩
end LAWC


