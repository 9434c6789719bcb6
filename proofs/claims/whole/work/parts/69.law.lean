/-! THE LAW'S CASES -/
theorem bl_L_law_23 : blk bL_law 23 = some ([(.iload 4, 2, 0, 0, 0), (.aload_n 0, 1, 0, 0, 0), (.arraylength, 1, 0, 0, 0), (.bipush 6, 2, 6, 0, 0), (.isub, 1, 0, 0, 0)], some (.if_icmp .gt 1538, 3, 0, 0, 0)) := rfl
theorem bl_L_law_33 : blk bL_law 33 = some ([(.aload_n 0, 1, 0, 0, 0), (.iload 4, 2, 0, 0, 0), (.iaload, 1, 0, 0, 0), (.bipush 63, 2, 63, 0, 0), (.iand, 1, 0, 0, 0)], some (.tableswitch 1522 0 37 #[168, 193, 230, 255, 304, 341, 366, 391, 416, 453, 490, 515, 528, 553, 578, 603, 652, 677, 714, 751, 776, 825, 874, 923, 985, 1023, 1048, 1073, 1122, 1135, 1148, 1173, 1234, 1283, 1332, 1399, 1472, 1497], 168, 0, 0, 0)) := rfl
theorem bl_L_law_208 : blk bL_law 208 = some ([(.aload_n 1, 1, 0, 0, 0), (.aload_n 0, 1, 0, 0, 0), (.iload 4, 2, 0, 0, 0), (.iconst 1, 1, 1, 0, 0), (.iadd, 1, 0, 0, 0), (.iaload, 1, 0, 0, 0)], some (.invokevirtual 21, 3, 60, 2, 2)) := rfl
theorem bl_L_law_218 : blk bL_law 218 = some ([(.aload_n 2, 1, 0, 0, 0), (.aload_n 0, 1, 0, 0, 0), (.iload 4, 2, 0, 0, 0), (.iconst 1, 1, 1, 0, 0), (.iadd, 1, 0, 0, 0), (.iaload, 1, 0, 0, 0)], some (.invokevirtual 25, 3, 147, 2, 3)) := rfl
theorem bl_L_law_228 : blk bL_law 228 = some ([], some (.if_icmp .eq 1334, 3, 0, 0, 0)) := rfl
theorem bl_L_law_231 : blk bL_law 231 = some ([(.iconst 0, 1, 0, 0, 0)], some (.ireturn, 1, 1, 0, 0)) := rfl
theorem bl_L_law_233 : blk bL_law 233 = some ([(.aload_n 1, 1, 0, 0, 0), (.aload_n 0, 1, 0, 0, 0), (.iload 4, 2, 0, 0, 0), (.iconst 1, 1, 1, 0, 0), (.iadd, 1, 0, 0, 0), (.iaload, 1, 0, 0, 0), (.aload_n 0, 1, 0, 0, 0), (.iload 4, 2, 0, 0, 0), (.iconst 2, 1, 2, 0, 0), (.iadd, 1, 0, 0, 0), (.iaload, 1, 0, 0, 0)], some (.invokevirtual 26, 3, 61, 3, 2)) := rfl
theorem bl_L_law_249 : blk bL_law 249 = some ([(.aload_n 2, 1, 0, 0, 0), (.aload_n 0, 1, 0, 0, 0), (.iload 4, 2, 0, 0, 0), (.iconst 1, 1, 1, 0, 0), (.iadd, 1, 0, 0, 0), (.iaload, 1, 0, 0, 0), (.aload_n 0, 1, 0, 0, 0), (.iload 4, 2, 0, 0, 0), (.iconst 2, 1, 2, 0, 0), (.iadd, 1, 0, 0, 0), (.iaload, 1, 0, 0, 0)], some (.invokevirtual 30, 3, 149, 3, 3)) := rfl
theorem bl_L_law_265 : blk bL_law 265 = some ([], some (.if_icmp .eq 1297, 3, 0, 0, 0)) := rfl
theorem bl_L_law_268 : blk bL_law 268 = some ([(.iconst 0, 1, 0, 0, 0)], some (.ireturn, 1, 1, 0, 0)) := rfl
theorem bl_L_law_270 : blk bL_law 270 = some ([(.aload_n 1, 1, 0, 0, 0), (.aload_n 0, 1, 0, 0, 0), (.iload 4, 2, 0, 0, 0), (.iconst 1, 1, 1, 0, 0), (.iadd, 1, 0, 0, 0), (.iaload, 1, 0, 0, 0)], some (.invokevirtual 31, 3, 62, 2, 2)) := rfl
theorem bl_L_law_280 : blk bL_law 280 = some ([(.aload_n 2, 1, 0, 0, 0), (.aload_n 0, 1, 0, 0, 0), (.iload 4, 2, 0, 0, 0), (.iconst 1, 1, 1, 0, 0), (.iadd, 1, 0, 0, 0), (.iaload, 1, 0, 0, 0)], some (.invokevirtual 34, 3, 150, 2, 3)) := rfl
theorem bl_L_law_290 : blk bL_law 290 = some ([], some (.if_icmp .eq 1272, 3, 0, 0, 0)) := rfl
theorem bl_L_law_293 : blk bL_law 293 = some ([(.iconst 0, 1, 0, 0, 0)], some (.ireturn, 1, 1, 0, 0)) := rfl
theorem bl_L_law_295 : blk bL_law 295 = some ([(.aload_n 1, 1, 0, 0, 0), (.aload_n 0, 1, 0, 0, 0), (.iload 4, 2, 0, 0, 0), (.iconst 1, 1, 1, 0, 0), (.iadd, 1, 0, 0, 0), (.iaload, 1, 0, 0, 0), (.aload_n 0, 1, 0, 0, 0), (.iload 4, 2, 0, 0, 0), (.iconst 2, 1, 2, 0, 0), (.iadd, 1, 0, 0, 0), (.iaload, 1, 0, 0, 0), (.aload_n 0, 1, 0, 0, 0), (.iload 4, 2, 0, 0, 0), (.iconst 3, 1, 3, 0, 0), (.iadd, 1, 0, 0, 0), (.iaload, 1, 0, 0, 0)], some (.invokevirtual 35, 3, 63, 4, 2)) := rfl
theorem bl_L_law_317 : blk bL_law 317 = some ([(.aload_n 2, 1, 0, 0, 0), (.aload_n 0, 1, 0, 0, 0), (.iload 4, 2, 0, 0, 0), (.iconst 1, 1, 1, 0, 0), (.iadd, 1, 0, 0, 0), (.iaload, 1, 0, 0, 0), (.aload_n 0, 1, 0, 0, 0), (.iload 4, 2, 0, 0, 0), (.iconst 2, 1, 2, 0, 0), (.iadd, 1, 0, 0, 0), (.iaload, 1, 0, 0, 0), (.aload_n 0, 1, 0, 0, 0), (.iload 4, 2, 0, 0, 0), (.iconst 3, 1, 3, 0, 0), (.iadd, 1, 0, 0, 0), (.iaload, 1, 0, 0, 0)], some (.invokevirtual 39, 3, 152, 4, 3)) := rfl
theorem bl_L_law_339 : blk bL_law 339 = some ([], some (.if_icmp .eq 1223, 3, 0, 0, 0)) := rfl
theorem bl_L_law_342 : blk bL_law 342 = some ([(.iconst 0, 1, 0, 0, 0)], some (.ireturn, 1, 1, 0, 0)) := rfl
theorem bl_L_law_344 : blk bL_law 344 = some ([(.aload_n 1, 1, 0, 0, 0), (.aload_n 0, 1, 0, 0, 0), (.iload 4, 2, 0, 0, 0), (.iconst 1, 1, 1, 0, 0), (.iadd, 1, 0, 0, 0), (.iaload, 1, 0, 0, 0), (.aload_n 0, 1, 0, 0, 0), (.iload 4, 2, 0, 0, 0), (.iconst 2, 1, 2, 0, 0), (.iadd, 1, 0, 0, 0), (.iaload, 1, 0, 0, 0)], some (.invokevirtual 40, 3, 64, 3, 2)) := rfl
theorem bl_L_law_360 : blk bL_law 360 = some ([(.aload_n 2, 1, 0, 0, 0), (.aload_n 0, 1, 0, 0, 0), (.iload 4, 2, 0, 0, 0), (.iconst 1, 1, 1, 0, 0), (.iadd, 1, 0, 0, 0), (.iaload, 1, 0, 0, 0), (.aload_n 0, 1, 0, 0, 0), (.iload 4, 2, 0, 0, 0), (.iconst 2, 1, 2, 0, 0), (.iadd, 1, 0, 0, 0), (.iaload, 1, 0, 0, 0)], some (.invokevirtual 43, 3, 154, 3, 3)) := rfl
theorem bl_L_law_376 : blk bL_law 376 = some ([], some (.if_icmp .eq 1186, 3, 0, 0, 0)) := rfl
theorem bl_L_law_379 : blk bL_law 379 = some ([(.iconst 0, 1, 0, 0, 0)], some (.ireturn, 1, 1, 0, 0)) := rfl
theorem bl_L_law_381 : blk bL_law 381 = some ([(.aload_n 1, 1, 0, 0, 0), (.aload_n 0, 1, 0, 0, 0), (.iload 4, 2, 0, 0, 0), (.iconst 1, 1, 1, 0, 0), (.iadd, 1, 0, 0, 0), (.iaload, 1, 0, 0, 0)], some (.invokevirtual 44, 3, 65, 2, 2)) := rfl
theorem bl_L_law_391 : blk bL_law 391 = some ([(.aload_n 2, 1, 0, 0, 0), (.aload_n 0, 1, 0, 0, 0), (.iload 4, 2, 0, 0, 0), (.iconst 1, 1, 1, 0, 0), (.iadd, 1, 0, 0, 0), (.iaload, 1, 0, 0, 0)], some (.invokevirtual 47, 3, 155, 2, 3)) := rfl
theorem bl_L_law_401 : blk bL_law 401 = some ([], some (.if_icmp .eq 1161, 3, 0, 0, 0)) := rfl
theorem bl_L_law_404 : blk bL_law 404 = some ([(.iconst 0, 1, 0, 0, 0)], some (.ireturn, 1, 1, 0, 0)) := rfl
theorem bl_L_law_406 : blk bL_law 406 = some ([(.aload_n 1, 1, 0, 0, 0), (.aload_n 0, 1, 0, 0, 0), (.iload 4, 2, 0, 0, 0), (.iconst 1, 1, 1, 0, 0), (.iadd, 1, 0, 0, 0), (.iaload, 1, 0, 0, 0)], some (.invokevirtual 48, 3, 66, 2, 2)) := rfl
theorem bl_L_law_416 : blk bL_law 416 = some ([(.aload_n 2, 1, 0, 0, 0), (.aload_n 0, 1, 0, 0, 0), (.iload 4, 2, 0, 0, 0), (.iconst 1, 1, 1, 0, 0), (.iadd, 1, 0, 0, 0), (.iaload, 1, 0, 0, 0)], some (.invokevirtual 51, 3, 156, 2, 3)) := rfl
theorem bl_L_law_426 : blk bL_law 426 = some ([], some (.if_icmp .eq 1136, 3, 0, 0, 0)) := rfl
theorem bl_L_law_429 : blk bL_law 429 = some ([(.iconst 0, 1, 0, 0, 0)], some (.ireturn, 1, 1, 0, 0)) := rfl
theorem bl_L_law_431 : blk bL_law 431 = some ([(.aload_n 1, 1, 0, 0, 0), (.aload_n 0, 1, 0, 0, 0), (.iload 4, 2, 0, 0, 0), (.iconst 1, 1, 1, 0, 0), (.iadd, 1, 0, 0, 0), (.iaload, 1, 0, 0, 0)], some (.invokevirtual 52, 3, 67, 2, 2)) := rfl
theorem bl_L_law_441 : blk bL_law 441 = some ([(.aload_n 2, 1, 0, 0, 0), (.aload_n 0, 1, 0, 0, 0), (.iload 4, 2, 0, 0, 0), (.iconst 1, 1, 1, 0, 0), (.iadd, 1, 0, 0, 0), (.iaload, 1, 0, 0, 0)], some (.invokevirtual 55, 3, 157, 2, 3)) := rfl
theorem bl_L_law_451 : blk bL_law 451 = some ([], some (.if_icmp .eq 1111, 3, 0, 0, 0)) := rfl
theorem bl_L_law_454 : blk bL_law 454 = some ([(.iconst 0, 1, 0, 0, 0)], some (.ireturn, 1, 1, 0, 0)) := rfl
theorem bl_L_law_456 : blk bL_law 456 = some ([(.aload_n 1, 1, 0, 0, 0), (.aload_n 0, 1, 0, 0, 0), (.iload 4, 2, 0, 0, 0), (.iconst 1, 1, 1, 0, 0), (.iadd, 1, 0, 0, 0), (.iaload, 1, 0, 0, 0), (.aload_n 0, 1, 0, 0, 0), (.iload 4, 2, 0, 0, 0), (.iconst 2, 1, 2, 0, 0), (.iadd, 1, 0, 0, 0), (.iaload, 1, 0, 0, 0)], some (.invokevirtual 56, 3, 69, 3, 2)) := rfl
theorem bl_L_law_472 : blk bL_law 472 = some ([(.aload_n 2, 1, 0, 0, 0), (.aload_n 0, 1, 0, 0, 0), (.iload 4, 2, 0, 0, 0), (.iconst 1, 1, 1, 0, 0), (.iadd, 1, 0, 0, 0), (.iaload, 1, 0, 0, 0), (.aload_n 0, 1, 0, 0, 0), (.iload 4, 2, 0, 0, 0), (.iconst 2, 1, 2, 0, 0), (.iadd, 1, 0, 0, 0), (.iaload, 1, 0, 0, 0)], some (.invokevirtual 59, 3, 160, 3, 3)) := rfl
theorem bl_L_law_488 : blk bL_law 488 = some ([], some (.if_icmp .eq 1074, 3, 0, 0, 0)) := rfl
theorem bl_L_law_491 : blk bL_law 491 = some ([(.iconst 0, 1, 0, 0, 0)], some (.ireturn, 1, 1, 0, 0)) := rfl
theorem bl_L_law_493 : blk bL_law 493 = some ([(.aload_n 1, 1, 0, 0, 0), (.aload_n 0, 1, 0, 0, 0), (.iload 4, 2, 0, 0, 0), (.iconst 1, 1, 1, 0, 0), (.iadd, 1, 0, 0, 0), (.iaload, 1, 0, 0, 0), (.aload_n 0, 1, 0, 0, 0), (.iload 4, 2, 0, 0, 0), (.iconst 2, 1, 2, 0, 0), (.iadd, 1, 0, 0, 0), (.iaload, 1, 0, 0, 0)], some (.invokevirtual 60, 3, 70, 3, 2)) := rfl
theorem bl_L_law_509 : blk bL_law 509 = some ([(.aload_n 2, 1, 0, 0, 0), (.aload_n 0, 1, 0, 0, 0), (.iload 4, 2, 0, 0, 0), (.iconst 1, 1, 1, 0, 0), (.iadd, 1, 0, 0, 0), (.iaload, 1, 0, 0, 0), (.aload_n 0, 1, 0, 0, 0), (.iload 4, 2, 0, 0, 0), (.iconst 2, 1, 2, 0, 0), (.iadd, 1, 0, 0, 0), (.iaload, 1, 0, 0, 0)], some (.invokevirtual 63, 3, 161, 3, 3)) := rfl
theorem bl_L_law_525 : blk bL_law 525 = some ([], some (.if_icmp .eq 1037, 3, 0, 0, 0)) := rfl
theorem bl_L_law_528 : blk bL_law 528 = some ([(.iconst 0, 1, 0, 0, 0)], some (.ireturn, 1, 1, 0, 0)) := rfl
theorem bl_L_law_530 : blk bL_law 530 = some ([(.aload_n 1, 1, 0, 0, 0), (.aload_n 0, 1, 0, 0, 0), (.iload 4, 2, 0, 0, 0), (.iconst 1, 1, 1, 0, 0), (.iadd, 1, 0, 0, 0), (.iaload, 1, 0, 0, 0)], some (.invokevirtual 64, 3, 72, 2, 2)) := rfl
theorem bl_L_law_540 : blk bL_law 540 = some ([(.aload_n 2, 1, 0, 0, 0), (.aload_n 0, 1, 0, 0, 0), (.iload 4, 2, 0, 0, 0), (.iconst 1, 1, 1, 0, 0), (.iadd, 1, 0, 0, 0), (.iaload, 1, 0, 0, 0)], some (.invokevirtual 67, 3, 164, 2, 3)) := rfl
theorem bl_L_law_550 : blk bL_law 550 = some ([], some (.if_icmp .eq 1012, 3, 0, 0, 0)) := rfl
theorem bl_L_law_553 : blk bL_law 553 = some ([(.iconst 0, 1, 0, 0, 0)], some (.ireturn, 1, 1, 0, 0)) := rfl
theorem bl_L_law_555 : blk bL_law 555 = some ([(.aload_n 1, 1, 0, 0, 0)], some (.invokevirtual 68, 3, 73, 1, 2)) := rfl
theorem bl_L_law_559 : blk bL_law 559 = some ([(.aload_n 2, 1, 0, 0, 0)], some (.invokevirtual 72, 3, 166, 1, 3)) := rfl
theorem bl_L_law_563 : blk bL_law 563 = some ([], some (.if_icmp .eq 999, 3, 0, 0, 0)) := rfl
theorem bl_L_law_566 : blk bL_law 566 = some ([(.iconst 0, 1, 0, 0, 0)], some (.ireturn, 1, 1, 0, 0)) := rfl
theorem bl_L_law_568 : blk bL_law 568 = some ([(.aload_n 1, 1, 0, 0, 0), (.aload_n 0, 1, 0, 0, 0), (.iload 4, 2, 0, 0, 0), (.iconst 1, 1, 1, 0, 0), (.iadd, 1, 0, 0, 0), (.iaload, 1, 0, 0, 0)], some (.invokevirtual 73, 3, 74, 2, 2)) := rfl
theorem bl_L_law_578 : blk bL_law 578 = some ([(.aload_n 2, 1, 0, 0, 0), (.aload_n 0, 1, 0, 0, 0), (.iload 4, 2, 0, 0, 0), (.iconst 1, 1, 1, 0, 0), (.iadd, 1, 0, 0, 0), (.iaload, 1, 0, 0, 0)], some (.invokevirtual 76, 3, 167, 2, 3)) := rfl
theorem bl_L_law_588 : blk bL_law 588 = some ([], some (.if_icmp .eq 974, 3, 0, 0, 0)) := rfl
theorem bl_L_law_591 : blk bL_law 591 = some ([(.iconst 0, 1, 0, 0, 0)], some (.ireturn, 1, 1, 0, 0)) := rfl
theorem bl_L_law_593 : blk bL_law 593 = some ([(.aload_n 1, 1, 0, 0, 0), (.aload_n 0, 1, 0, 0, 0), (.iload 4, 2, 0, 0, 0), (.iconst 1, 1, 1, 0, 0), (.iadd, 1, 0, 0, 0), (.iaload, 1, 0, 0, 0)], some (.invokevirtual 77, 3, 75, 2, 2)) := rfl
theorem bl_L_law_603 : blk bL_law 603 = some ([(.aload_n 2, 1, 0, 0, 0), (.aload_n 0, 1, 0, 0, 0), (.iload 4, 2, 0, 0, 0), (.iconst 1, 1, 1, 0, 0), (.iadd, 1, 0, 0, 0), (.iaload, 1, 0, 0, 0)], some (.invokevirtual 80, 3, 168, 2, 3)) := rfl
theorem bl_L_law_613 : blk bL_law 613 = some ([], some (.if_icmp .eq 949, 3, 0, 0, 0)) := rfl
theorem bl_L_law_616 : blk bL_law 616 = some ([(.iconst 0, 1, 0, 0, 0)], some (.ireturn, 1, 1, 0, 0)) := rfl
theorem bl_L_law_618 : blk bL_law 618 = some ([(.aload_n 1, 1, 0, 0, 0), (.aload_n 0, 1, 0, 0, 0), (.iload 4, 2, 0, 0, 0), (.iconst 1, 1, 1, 0, 0), (.iadd, 1, 0, 0, 0), (.iaload, 1, 0, 0, 0)], some (.invokevirtual 81, 3, 76, 2, 2)) := rfl
theorem bl_L_law_628 : blk bL_law 628 = some ([(.aload_n 2, 1, 0, 0, 0), (.aload_n 0, 1, 0, 0, 0), (.iload 4, 2, 0, 0, 0), (.iconst 1, 1, 1, 0, 0), (.iadd, 1, 0, 0, 0), (.iaload, 1, 0, 0, 0)], some (.invokevirtual 84, 3, 169, 2, 3)) := rfl
theorem bl_L_law_638 : blk bL_law 638 = some ([], some (.if_icmp .eq 924, 3, 0, 0, 0)) := rfl
theorem bl_L_law_641 : blk bL_law 641 = some ([(.iconst 0, 1, 0, 0, 0)], some (.ireturn, 1, 1, 0, 0)) := rfl
theorem bl_L_law_643 : blk bL_law 643 = some ([(.aload_n 1, 1, 0, 0, 0), (.aload_n 0, 1, 0, 0, 0), (.iload 4, 2, 0, 0, 0), (.iconst 1, 1, 1, 0, 0), (.iadd, 1, 0, 0, 0), (.iaload, 1, 0, 0, 0), (.aload_n 0, 1, 0, 0, 0), (.iload 4, 2, 0, 0, 0), (.iconst 2, 1, 2, 0, 0), (.iadd, 1, 0, 0, 0), (.iaload, 1, 0, 0, 0), (.aload_n 0, 1, 0, 0, 0), (.iload 4, 2, 0, 0, 0), (.iconst 3, 1, 3, 0, 0), (.iadd, 1, 0, 0, 0), (.iaload, 1, 0, 0, 0)], some (.invokevirtual 85, 3, 78, 4, 2)) := rfl
theorem bl_L_law_665 : blk bL_law 665 = some ([(.aload_n 2, 1, 0, 0, 0), (.aload_n 0, 1, 0, 0, 0), (.iload 4, 2, 0, 0, 0), (.iconst 1, 1, 1, 0, 0), (.iadd, 1, 0, 0, 0), (.iaload, 1, 0, 0, 0), (.aload_n 0, 1, 0, 0, 0), (.iload 4, 2, 0, 0, 0), (.iconst 2, 1, 2, 0, 0), (.iadd, 1, 0, 0, 0), (.iaload, 1, 0, 0, 0), (.aload_n 0, 1, 0, 0, 0), (.iload 4, 2, 0, 0, 0), (.iconst 3, 1, 3, 0, 0), (.iadd, 1, 0, 0, 0), (.iaload, 1, 0, 0, 0)], some (.invokevirtual 88, 3, 170, 4, 3)) := rfl
theorem bl_L_law_687 : blk bL_law 687 = some ([], some (.if_icmp .eq 875, 3, 0, 0, 0)) := rfl
theorem bl_L_law_690 : blk bL_law 690 = some ([(.iconst 0, 1, 0, 0, 0)], some (.ireturn, 1, 1, 0, 0)) := rfl
theorem bl_L_law_692 : blk bL_law 692 = some ([(.aload_n 1, 1, 0, 0, 0), (.aload_n 0, 1, 0, 0, 0), (.iload 4, 2, 0, 0, 0), (.iconst 1, 1, 1, 0, 0), (.iadd, 1, 0, 0, 0), (.iaload, 1, 0, 0, 0)], some (.invokevirtual 89, 3, 79, 2, 2)) := rfl
theorem bl_L_law_702 : blk bL_law 702 = some ([(.aload_n 2, 1, 0, 0, 0), (.aload_n 0, 1, 0, 0, 0), (.iload 4, 2, 0, 0, 0), (.iconst 1, 1, 1, 0, 0), (.iadd, 1, 0, 0, 0), (.iaload, 1, 0, 0, 0)], some (.invokevirtual 92, 3, 171, 2, 3)) := rfl
theorem bl_L_law_712 : blk bL_law 712 = some ([], some (.if_icmp .eq 850, 3, 0, 0, 0)) := rfl
theorem bl_L_law_715 : blk bL_law 715 = some ([(.iconst 0, 1, 0, 0, 0)], some (.ireturn, 1, 1, 0, 0)) := rfl
theorem bl_L_law_717 : blk bL_law 717 = some ([(.aload_n 1, 1, 0, 0, 0), (.aload_n 0, 1, 0, 0, 0), (.iload 4, 2, 0, 0, 0), (.iconst 1, 1, 1, 0, 0), (.iadd, 1, 0, 0, 0), (.iaload, 1, 0, 0, 0), (.aload_n 0, 1, 0, 0, 0), (.iload 4, 2, 0, 0, 0), (.iconst 2, 1, 2, 0, 0), (.iadd, 1, 0, 0, 0), (.iaload, 1, 0, 0, 0)], some (.invokevirtual 93, 3, 80, 3, 2)) := rfl
theorem bl_L_law_733 : blk bL_law 733 = some ([(.aload_n 2, 1, 0, 0, 0), (.aload_n 0, 1, 0, 0, 0), (.iload 4, 2, 0, 0, 0), (.iconst 1, 1, 1, 0, 0), (.iadd, 1, 0, 0, 0), (.iaload, 1, 0, 0, 0), (.aload_n 0, 1, 0, 0, 0), (.iload 4, 2, 0, 0, 0), (.iconst 2, 1, 2, 0, 0), (.iadd, 1, 0, 0, 0), (.iaload, 1, 0, 0, 0)], some (.invokevirtual 96, 3, 172, 3, 3)) := rfl
theorem bl_L_law_749 : blk bL_law 749 = some ([], some (.if_icmp .eq 813, 3, 0, 0, 0)) := rfl
theorem bl_L_law_752 : blk bL_law 752 = some ([(.iconst 0, 1, 0, 0, 0)], some (.ireturn, 1, 1, 0, 0)) := rfl
theorem bl_L_law_754 : blk bL_law 754 = some ([(.aload_n 1, 1, 0, 0, 0), (.aload_n 0, 1, 0, 0, 0), (.iload 4, 2, 0, 0, 0), (.iconst 1, 1, 1, 0, 0), (.iadd, 1, 0, 0, 0), (.iaload, 1, 0, 0, 0), (.aload_n 0, 1, 0, 0, 0), (.iload 4, 2, 0, 0, 0), (.iconst 2, 1, 2, 0, 0), (.iadd, 1, 0, 0, 0), (.iaload, 1, 0, 0, 0)], some (.invokevirtual 97, 3, 81, 3, 2)) := rfl
theorem bl_L_law_770 : blk bL_law 770 = some ([(.aload_n 2, 1, 0, 0, 0), (.aload_n 0, 1, 0, 0, 0), (.iload 4, 2, 0, 0, 0), (.iconst 1, 1, 1, 0, 0), (.iadd, 1, 0, 0, 0), (.iaload, 1, 0, 0, 0), (.aload_n 0, 1, 0, 0, 0), (.iload 4, 2, 0, 0, 0), (.iconst 2, 1, 2, 0, 0), (.iadd, 1, 0, 0, 0), (.iaload, 1, 0, 0, 0)], some (.invokevirtual 100, 3, 175, 3, 3)) := rfl
theorem bl_L_law_786 : blk bL_law 786 = some ([], some (.if_icmp .eq 776, 3, 0, 0, 0)) := rfl
theorem bl_L_law_789 : blk bL_law 789 = some ([(.iconst 0, 1, 0, 0, 0)], some (.ireturn, 1, 1, 0, 0)) := rfl
theorem bl_L_law_791 : blk bL_law 791 = some ([(.aload_n 1, 1, 0, 0, 0), (.aload_n 0, 1, 0, 0, 0), (.iload 4, 2, 0, 0, 0), (.iconst 1, 1, 1, 0, 0), (.iadd, 1, 0, 0, 0), (.iaload, 1, 0, 0, 0)], some (.invokevirtual 101, 3, 82, 2, 2)) := rfl
theorem bl_L_law_801 : blk bL_law 801 = some ([(.aload_n 2, 1, 0, 0, 0), (.aload_n 0, 1, 0, 0, 0), (.iload 4, 2, 0, 0, 0), (.iconst 1, 1, 1, 0, 0), (.iadd, 1, 0, 0, 0), (.iaload, 1, 0, 0, 0)], some (.invokevirtual 104, 3, 178, 2, 3)) := rfl
theorem bl_L_law_811 : blk bL_law 811 = some ([], some (.if_icmp .eq 751, 3, 0, 0, 0)) := rfl
theorem bl_L_law_814 : blk bL_law 814 = some ([(.iconst 0, 1, 0, 0, 0)], some (.ireturn, 1, 1, 0, 0)) := rfl
theorem bl_L_law_816 : blk bL_law 816 = some ([(.aload_n 1, 1, 0, 0, 0), (.aload_n 0, 1, 0, 0, 0), (.iload 4, 2, 0, 0, 0), (.iconst 1, 1, 1, 0, 0), (.iadd, 1, 0, 0, 0), (.iaload, 1, 0, 0, 0), (.aload_n 0, 1, 0, 0, 0), (.iload 4, 2, 0, 0, 0), (.iconst 2, 1, 2, 0, 0), (.iadd, 1, 0, 0, 0), (.iaload, 1, 0, 0, 0), (.aload_n 0, 1, 0, 0, 0), (.iload 4, 2, 0, 0, 0), (.iconst 3, 1, 3, 0, 0), (.iadd, 1, 0, 0, 0), (.iaload, 1, 0, 0, 0)], some (.invokevirtual 105, 3, 84, 4, 2)) := rfl
theorem bl_L_law_838 : blk bL_law 838 = some ([(.aload_n 2, 1, 0, 0, 0), (.aload_n 0, 1, 0, 0, 0), (.iload 4, 2, 0, 0, 0), (.iconst 1, 1, 1, 0, 0), (.iadd, 1, 0, 0, 0), (.iaload, 1, 0, 0, 0), (.aload_n 0, 1, 0, 0, 0), (.iload 4, 2, 0, 0, 0), (.iconst 2, 1, 2, 0, 0), (.iadd, 1, 0, 0, 0), (.iaload, 1, 0, 0, 0), (.aload_n 0, 1, 0, 0, 0), (.iload 4, 2, 0, 0, 0), (.iconst 3, 1, 3, 0, 0), (.iadd, 1, 0, 0, 0), (.iaload, 1, 0, 0, 0)], some (.invokevirtual 108, 3, 183, 4, 3)) := rfl
theorem bl_L_law_860 : blk bL_law 860 = some ([], some (.if_icmp .eq 702, 3, 0, 0, 0)) := rfl
theorem bl_L_law_863 : blk bL_law 863 = some ([(.iconst 0, 1, 0, 0, 0)], some (.ireturn, 1, 1, 0, 0)) := rfl
theorem bl_L_law_865 : blk bL_law 865 = some ([(.aload_n 1, 1, 0, 0, 0), (.aload_n 0, 1, 0, 0, 0), (.iload 4, 2, 0, 0, 0), (.iconst 1, 1, 1, 0, 0), (.iadd, 1, 0, 0, 0), (.iaload, 1, 0, 0, 0), (.aload_n 0, 1, 0, 0, 0), (.iload 4, 2, 0, 0, 0), (.iconst 2, 1, 2, 0, 0), (.iadd, 1, 0, 0, 0), (.iaload, 1, 0, 0, 0), (.aload_n 0, 1, 0, 0, 0), (.iload 4, 2, 0, 0, 0), (.iconst 3, 1, 3, 0, 0), (.iadd, 1, 0, 0, 0), (.iaload, 1, 0, 0, 0)], some (.invokevirtual 109, 3, 85, 4, 2)) := rfl
theorem bl_L_law_887 : blk bL_law 887 = some ([(.aload_n 2, 1, 0, 0, 0), (.aload_n 0, 1, 0, 0, 0), (.iload 4, 2, 0, 0, 0), (.iconst 1, 1, 1, 0, 0), (.iadd, 1, 0, 0, 0), (.iaload, 1, 0, 0, 0), (.aload_n 0, 1, 0, 0, 0), (.iload 4, 2, 0, 0, 0), (.iconst 2, 1, 2, 0, 0), (.iadd, 1, 0, 0, 0), (.iaload, 1, 0, 0, 0), (.aload_n 0, 1, 0, 0, 0), (.iload 4, 2, 0, 0, 0), (.iconst 3, 1, 3, 0, 0), (.iadd, 1, 0, 0, 0), (.iaload, 1, 0, 0, 0)], some (.invokevirtual 112, 3, 184, 4, 3)) := rfl
theorem bl_L_law_909 : blk bL_law 909 = some ([], some (.if_icmp .eq 653, 3, 0, 0, 0)) := rfl
theorem bl_L_law_912 : blk bL_law 912 = some ([(.iconst 0, 1, 0, 0, 0)], some (.ireturn, 1, 1, 0, 0)) := rfl
theorem bl_L_law_914 : blk bL_law 914 = some ([(.aload_n 1, 1, 0, 0, 0), (.aload_n 0, 1, 0, 0, 0), (.iload 4, 2, 0, 0, 0), (.iconst 1, 1, 1, 0, 0), (.iadd, 1, 0, 0, 0), (.iaload, 1, 0, 0, 0), (.aload_n 0, 1, 0, 0, 0), (.iload 4, 2, 0, 0, 0), (.iconst 2, 1, 2, 0, 0), (.iadd, 1, 0, 0, 0), (.iaload, 1, 0, 0, 0), (.aload_n 0, 1, 0, 0, 0), (.iload 4, 2, 0, 0, 0), (.iconst 3, 1, 3, 0, 0), (.iadd, 1, 0, 0, 0), (.iaload, 1, 0, 0, 0)], some (.invokevirtual 113, 3, 87, 4, 2)) := rfl
theorem bl_L_law_936 : blk bL_law 936 = some ([(.aload_n 2, 1, 0, 0, 0), (.aload_n 0, 1, 0, 0, 0), (.iload 4, 2, 0, 0, 0), (.iconst 1, 1, 1, 0, 0), (.iadd, 1, 0, 0, 0), (.iaload, 1, 0, 0, 0), (.aload_n 0, 1, 0, 0, 0), (.iload 4, 2, 0, 0, 0), (.iconst 2, 1, 2, 0, 0), (.iadd, 1, 0, 0, 0), (.iaload, 1, 0, 0, 0), (.aload_n 0, 1, 0, 0, 0), (.iload 4, 2, 0, 0, 0), (.iconst 3, 1, 3, 0, 0), (.iadd, 1, 0, 0, 0), (.iaload, 1, 0, 0, 0)], some (.invokevirtual 116, 3, 186, 4, 3)) := rfl
theorem bl_L_law_958 : blk bL_law 958 = some ([], some (.if_icmp .eq 604, 3, 0, 0, 0)) := rfl
theorem bl_L_law_961 : blk bL_law 961 = some ([(.iconst 0, 1, 0, 0, 0)], some (.ireturn, 1, 1, 0, 0)) := rfl
theorem bl_L_law_963 : blk bL_law 963 = some ([(.aload_n 1, 1, 0, 0, 0), (.aload_n 0, 1, 0, 0, 0), (.iload 4, 2, 0, 0, 0), (.iconst 1, 1, 1, 0, 0), (.iadd, 1, 0, 0, 0), (.iaload, 1, 0, 0, 0), (.aload_n 0, 1, 0, 0, 0), (.iload 4, 2, 0, 0, 0), (.iconst 2, 1, 2, 0, 0), (.iadd, 1, 0, 0, 0), (.iaload, 1, 0, 0, 0), (.aload_n 0, 1, 0, 0, 0), (.iload 4, 2, 0, 0, 0), (.iconst 3, 1, 3, 0, 0), (.iadd, 1, 0, 0, 0), (.iaload, 1, 0, 0, 0), (.aload_n 0, 1, 0, 0, 0), (.iload 4, 2, 0, 0, 0), (.iconst 4, 1, 4, 0, 0), (.iadd, 1, 0, 0, 0), (.iaload, 1, 0, 0, 0)], some (.invokevirtual 117, 3, 90, 5, 2)) := rfl
theorem bl_L_law_991 : blk bL_law 991 = some ([(.aload_n 2, 1, 0, 0, 0), (.aload_n 0, 1, 0, 0, 0), (.iload 4, 2, 0, 0, 0), (.iconst 1, 1, 1, 0, 0), (.iadd, 1, 0, 0, 0), (.iaload, 1, 0, 0, 0), (.aload_n 0, 1, 0, 0, 0), (.iload 4, 2, 0, 0, 0), (.iconst 2, 1, 2, 0, 0), (.iadd, 1, 0, 0, 0), (.iaload, 1, 0, 0, 0), (.aload_n 0, 1, 0, 0, 0), (.iload 4, 2, 0, 0, 0), (.iconst 3, 1, 3, 0, 0), (.iadd, 1, 0, 0, 0), (.iaload, 1, 0, 0, 0), (.aload_n 0, 1, 0, 0, 0), (.iload 4, 2, 0, 0, 0), (.iconst 4, 1, 4, 0, 0), (.iadd, 1, 0, 0, 0), (.iaload, 1, 0, 0, 0)], some (.invokevirtual 121, 3, 189, 5, 3)) := rfl
theorem bl_L_law_1019 : blk bL_law 1019 = some ([(.lcmp, 1, 0, 0, 0)], some (.ifCond .eq 542, 3, 0, 0, 0)) := rfl
theorem bl_L_law_1023 : blk bL_law 1023 = some ([(.iconst 0, 1, 0, 0, 0)], some (.ireturn, 1, 1, 0, 0)) := rfl
theorem bl_L_law_1025 : blk bL_law 1025 = some ([(.aload_n 1, 1, 0, 0, 0), (.aload_n 0, 1, 0, 0, 0), (.iload 4, 2, 0, 0, 0), (.iconst 1, 1, 1, 0, 0), (.iadd, 1, 0, 0, 0), (.iaload, 1, 0, 0, 0), (.aload_n 0, 1, 0, 0, 0), (.iload 4, 2, 0, 0, 0), (.iconst 2, 1, 2, 0, 0), (.iadd, 1, 0, 0, 0), (.iaload, 1, 0, 0, 0)], some (.invokevirtual 122, 3, 91, 3, 2)) := rfl
theorem bl_L_law_1041 : blk bL_law 1041 = some ([(.aload_n 2, 1, 0, 0, 0), (.aload_n 0, 1, 0, 0, 0), (.iload 4, 2, 0, 0, 0), (.iconst 1, 1, 1, 0, 0), (.iadd, 1, 0, 0, 0), (.iaload, 1, 0, 0, 0), (.aload_n 0, 1, 0, 0, 0), (.iload 4, 2, 0, 0, 0), (.iconst 2, 1, 2, 0, 0), (.iadd, 1, 0, 0, 0), (.iaload, 1, 0, 0, 0)], some (.invokevirtual 125, 3, 190, 3, 3)) := rfl
theorem bl_L_law_1057 : blk bL_law 1057 = some ([(.lcmp, 1, 0, 0, 0)], some (.ifCond .eq 504, 3, 0, 0, 0)) := rfl
theorem bl_L_law_1061 : blk bL_law 1061 = some ([(.iconst 0, 1, 0, 0, 0)], some (.ireturn, 1, 1, 0, 0)) := rfl
theorem bl_L_law_1063 : blk bL_law 1063 = some ([(.aload_n 1, 1, 0, 0, 0), (.aload_n 0, 1, 0, 0, 0), (.iload 4, 2, 0, 0, 0), (.iconst 1, 1, 1, 0, 0), (.iadd, 1, 0, 0, 0), (.iaload, 1, 0, 0, 0)], some (.invokevirtual 126, 3, 92, 2, 2)) := rfl
theorem bl_L_law_1073 : blk bL_law 1073 = some ([(.aload_n 2, 1, 0, 0, 0), (.aload_n 0, 1, 0, 0, 0), (.iload 4, 2, 0, 0, 0), (.iconst 1, 1, 1, 0, 0), (.iadd, 1, 0, 0, 0), (.iaload, 1, 0, 0, 0)], some (.invokevirtual 129, 3, 191, 2, 3)) := rfl
theorem bl_L_law_1083 : blk bL_law 1083 = some ([], some (.if_icmp .eq 479, 3, 0, 0, 0)) := rfl
theorem bl_L_law_1086 : blk bL_law 1086 = some ([(.iconst 0, 1, 0, 0, 0)], some (.ireturn, 1, 1, 0, 0)) := rfl
theorem bl_L_law_1088 : blk bL_law 1088 = some ([(.aload_n 1, 1, 0, 0, 0), (.aload_n 0, 1, 0, 0, 0), (.iload 4, 2, 0, 0, 0), (.iconst 1, 1, 1, 0, 0), (.iadd, 1, 0, 0, 0), (.iaload, 1, 0, 0, 0)], some (.invokevirtual 130, 3, 93, 2, 2)) := rfl
theorem bl_L_law_1098 : blk bL_law 1098 = some ([(.aload_n 2, 1, 0, 0, 0), (.aload_n 0, 1, 0, 0, 0), (.iload 4, 2, 0, 0, 0), (.iconst 1, 1, 1, 0, 0), (.iadd, 1, 0, 0, 0), (.iaload, 1, 0, 0, 0)], some (.invokevirtual 133, 3, 192, 2, 3)) := rfl
theorem bl_L_law_1108 : blk bL_law 1108 = some ([], some (.if_icmp .eq 454, 3, 0, 0, 0)) := rfl
theorem bl_L_law_1111 : blk bL_law 1111 = some ([(.iconst 0, 1, 0, 0, 0)], some (.ireturn, 1, 1, 0, 0)) := rfl
theorem bl_L_law_1113 : blk bL_law 1113 = some ([(.aload_n 1, 1, 0, 0, 0), (.aload_n 0, 1, 0, 0, 0), (.iload 4, 2, 0, 0, 0), (.iconst 1, 1, 1, 0, 0), (.iadd, 1, 0, 0, 0), (.iaload, 1, 0, 0, 0), (.aload_n 0, 1, 0, 0, 0), (.iload 4, 2, 0, 0, 0), (.iconst 2, 1, 2, 0, 0), (.iadd, 1, 0, 0, 0), (.iaload, 1, 0, 0, 0), (.aload_n 0, 1, 0, 0, 0), (.iload 4, 2, 0, 0, 0), (.iconst 3, 1, 3, 0, 0), (.iadd, 1, 0, 0, 0), (.iaload, 1, 0, 0, 0)], some (.invokevirtual 134, 3, 96, 4, 2)) := rfl
theorem bl_L_law_1135 : blk bL_law 1135 = some ([(.aload_n 2, 1, 0, 0, 0), (.aload_n 0, 1, 0, 0, 0), (.iload 4, 2, 0, 0, 0), (.iconst 1, 1, 1, 0, 0), (.iadd, 1, 0, 0, 0), (.iaload, 1, 0, 0, 0), (.aload_n 0, 1, 0, 0, 0), (.iload 4, 2, 0, 0, 0), (.iconst 2, 1, 2, 0, 0), (.iadd, 1, 0, 0, 0), (.iaload, 1, 0, 0, 0), (.aload_n 0, 1, 0, 0, 0), (.iload 4, 2, 0, 0, 0), (.iconst 3, 1, 3, 0, 0), (.iadd, 1, 0, 0, 0), (.iaload, 1, 0, 0, 0)], some (.invokevirtual 137, 3, 195, 4, 3)) := rfl
theorem bl_L_law_1157 : blk bL_law 1157 = some ([], some (.if_icmp .eq 405, 3, 0, 0, 0)) := rfl
theorem bl_L_law_1160 : blk bL_law 1160 = some ([(.iconst 0, 1, 0, 0, 0)], some (.ireturn, 1, 1, 0, 0)) := rfl
theorem bl_L_law_1162 : blk bL_law 1162 = some ([(.aload_n 1, 1, 0, 0, 0)], some (.invokevirtual 138, 3, 97, 1, 2)) := rfl
theorem bl_L_law_1166 : blk bL_law 1166 = some ([(.aload_n 2, 1, 0, 0, 0)], some (.invokevirtual 141, 3, 196, 1, 3)) := rfl
theorem bl_L_law_1170 : blk bL_law 1170 = some ([], some (.if_icmp .eq 392, 3, 0, 0, 0)) := rfl
theorem bl_L_law_1173 : blk bL_law 1173 = some ([(.iconst 0, 1, 0, 0, 0)], some (.ireturn, 1, 1, 0, 0)) := rfl
theorem bl_L_law_1175 : blk bL_law 1175 = some ([(.aload_n 1, 1, 0, 0, 0)], some (.invokevirtual 142, 3, 98, 1, 2)) := rfl
theorem bl_L_law_1179 : blk bL_law 1179 = some ([(.aload_n 2, 1, 0, 0, 0)], some (.invokevirtual 145, 3, 197, 1, 3)) := rfl
theorem bl_L_law_1183 : blk bL_law 1183 = some ([], some (.if_icmp .eq 379, 3, 0, 0, 0)) := rfl
theorem bl_L_law_1186 : blk bL_law 1186 = some ([(.iconst 0, 1, 0, 0, 0)], some (.ireturn, 1, 1, 0, 0)) := rfl
theorem bl_L_law_1188 : blk bL_law 1188 = some ([(.aload_n 1, 1, 0, 0, 0), (.aload_n 0, 1, 0, 0, 0), (.iload 4, 2, 0, 0, 0), (.iconst 1, 1, 1, 0, 0), (.iadd, 1, 0, 0, 0), (.iaload, 1, 0, 0, 0)], some (.invokevirtual 146, 3, 99, 2, 2)) := rfl
theorem bl_L_law_1198 : blk bL_law 1198 = some ([(.aload_n 2, 1, 0, 0, 0), (.aload_n 0, 1, 0, 0, 0), (.iload 4, 2, 0, 0, 0), (.iconst 1, 1, 1, 0, 0), (.iadd, 1, 0, 0, 0), (.iaload, 1, 0, 0, 0)], some (.invokevirtual 149, 3, 198, 2, 3)) := rfl
theorem bl_L_law_1208 : blk bL_law 1208 = some ([], some (.if_icmp .eq 354, 3, 0, 0, 0)) := rfl
theorem bl_L_law_1211 : blk bL_law 1211 = some ([(.iconst 0, 1, 0, 0, 0)], some (.ireturn, 1, 1, 0, 0)) := rfl
theorem bl_L_law_1213 : blk bL_law 1213 = some ([(.aload_n 1, 1, 0, 0, 0), (.aload_n 0, 1, 0, 0, 0), (.iload 4, 2, 0, 0, 0), (.iconst 1, 1, 1, 0, 0), (.iadd, 1, 0, 0, 0), (.iaload, 1, 0, 0, 0), (.aload_n 0, 1, 0, 0, 0), (.iload 4, 2, 0, 0, 0), (.iconst 2, 1, 2, 0, 0), (.iadd, 1, 0, 0, 0), (.iaload, 1, 0, 0, 0), (.aload_n 0, 1, 0, 0, 0), (.iload 4, 2, 0, 0, 0), (.iconst 3, 1, 3, 0, 0), (.iadd, 1, 0, 0, 0), (.iaload, 1, 0, 0, 0), (.aload_n 0, 1, 0, 0, 0), (.iload 4, 2, 0, 0, 0), (.iconst 4, 1, 4, 0, 0), (.iadd, 1, 0, 0, 0), (.iaload, 1, 0, 0, 0)], some (.invokevirtual 150, 3, 100, 5, 2)) := rfl
theorem bl_L_law_1241 : blk bL_law 1241 = some ([(.aload_n 2, 1, 0, 0, 0), (.aload_n 0, 1, 0, 0, 0), (.iload 4, 2, 0, 0, 0), (.iconst 1, 1, 1, 0, 0), (.iadd, 1, 0, 0, 0), (.iaload, 1, 0, 0, 0), (.aload_n 0, 1, 0, 0, 0), (.iload 4, 2, 0, 0, 0), (.iconst 2, 1, 2, 0, 0), (.iadd, 1, 0, 0, 0), (.iaload, 1, 0, 0, 0), (.aload_n 0, 1, 0, 0, 0), (.iload 4, 2, 0, 0, 0), (.iconst 3, 1, 3, 0, 0), (.iadd, 1, 0, 0, 0), (.iaload, 1, 0, 0, 0), (.aload_n 0, 1, 0, 0, 0), (.iload 4, 2, 0, 0, 0), (.iconst 4, 1, 4, 0, 0), (.iadd, 1, 0, 0, 0), (.iaload, 1, 0, 0, 0)], some (.invokevirtual 154, 3, 200, 5, 3)) := rfl
theorem bl_L_law_1269 : blk bL_law 1269 = some ([], some (.if_icmp .eq 293, 3, 0, 0, 0)) := rfl
theorem bl_L_law_1272 : blk bL_law 1272 = some ([(.iconst 0, 1, 0, 0, 0)], some (.ireturn, 1, 1, 0, 0)) := rfl
theorem bl_L_law_1274 : blk bL_law 1274 = some ([(.aload_n 1, 1, 0, 0, 0), (.aload_n 0, 1, 0, 0, 0), (.iload 4, 2, 0, 0, 0), (.iconst 1, 1, 1, 0, 0), (.iadd, 1, 0, 0, 0), (.iaload, 1, 0, 0, 0), (.aload_n 0, 1, 0, 0, 0), (.iload 4, 2, 0, 0, 0), (.iconst 2, 1, 2, 0, 0), (.iadd, 1, 0, 0, 0), (.iaload, 1, 0, 0, 0), (.aload_n 0, 1, 0, 0, 0), (.iload 4, 2, 0, 0, 0), (.iconst 3, 1, 3, 0, 0), (.iadd, 1, 0, 0, 0), (.iaload, 1, 0, 0, 0)], some (.invokevirtual 155, 3, 101, 4, 2)) := rfl
theorem bl_L_law_1296 : blk bL_law 1296 = some ([(.aload_n 2, 1, 0, 0, 0), (.aload_n 0, 1, 0, 0, 0), (.iload 4, 2, 0, 0, 0), (.iconst 1, 1, 1, 0, 0), (.iadd, 1, 0, 0, 0), (.iaload, 1, 0, 0, 0), (.aload_n 0, 1, 0, 0, 0), (.iload 4, 2, 0, 0, 0), (.iconst 2, 1, 2, 0, 0), (.iadd, 1, 0, 0, 0), (.iaload, 1, 0, 0, 0), (.aload_n 0, 1, 0, 0, 0), (.iload 4, 2, 0, 0, 0), (.iconst 3, 1, 3, 0, 0), (.iadd, 1, 0, 0, 0), (.iaload, 1, 0, 0, 0)], some (.invokevirtual 158, 3, 201, 4, 3)) := rfl
theorem bl_L_law_1318 : blk bL_law 1318 = some ([], some (.if_icmp .eq 244, 3, 0, 0, 0)) := rfl
theorem bl_L_law_1321 : blk bL_law 1321 = some ([(.iconst 0, 1, 0, 0, 0)], some (.ireturn, 1, 1, 0, 0)) := rfl
theorem bl_L_law_1323 : blk bL_law 1323 = some ([(.aload_n 1, 1, 0, 0, 0), (.aload_n 0, 1, 0, 0, 0), (.iload 4, 2, 0, 0, 0), (.iconst 1, 1, 1, 0, 0), (.iadd, 1, 0, 0, 0), (.iaload, 1, 0, 0, 0), (.aload_n 0, 1, 0, 0, 0), (.iload 4, 2, 0, 0, 0), (.iconst 2, 1, 2, 0, 0), (.iadd, 1, 0, 0, 0), (.iaload, 1, 0, 0, 0), (.aload_n 0, 1, 0, 0, 0), (.iload 4, 2, 0, 0, 0), (.iconst 3, 1, 3, 0, 0), (.iadd, 1, 0, 0, 0), (.iaload, 1, 0, 0, 0)], some (.invokevirtual 159, 3, 102, 4, 2)) := rfl
theorem bl_L_law_1345 : blk bL_law 1345 = some ([(.aload_n 2, 1, 0, 0, 0), (.aload_n 0, 1, 0, 0, 0), (.iload 4, 2, 0, 0, 0), (.iconst 1, 1, 1, 0, 0), (.iadd, 1, 0, 0, 0), (.iaload, 1, 0, 0, 0), (.aload_n 0, 1, 0, 0, 0), (.iload 4, 2, 0, 0, 0), (.iconst 2, 1, 2, 0, 0), (.iadd, 1, 0, 0, 0), (.iaload, 1, 0, 0, 0), (.aload_n 0, 1, 0, 0, 0), (.iload 4, 2, 0, 0, 0), (.iconst 3, 1, 3, 0, 0), (.iadd, 1, 0, 0, 0), (.iaload, 1, 0, 0, 0)], some (.invokevirtual 162, 3, 202, 4, 3)) := rfl
theorem bl_L_law_1367 : blk bL_law 1367 = some ([], some (.if_icmp .eq 195, 3, 0, 0, 0)) := rfl
theorem bl_L_law_1370 : blk bL_law 1370 = some ([(.iconst 0, 1, 0, 0, 0)], some (.ireturn, 1, 1, 0, 0)) := rfl
theorem bl_L_law_1372 : blk bL_law 1372 = some ([(.aload_n 1, 1, 0, 0, 0), (.aload_n 0, 1, 0, 0, 0), (.iload 4, 2, 0, 0, 0), (.iconst 1, 1, 1, 0, 0), (.iadd, 1, 0, 0, 0), (.iaload, 1, 0, 0, 0), (.aload_n 0, 1, 0, 0, 0), (.iload 4, 2, 0, 0, 0), (.iconst 2, 1, 2, 0, 0), (.iadd, 1, 0, 0, 0), (.iaload, 1, 0, 0, 0), (.aload_n 3, 1, 0, 0, 0)], none) := rfl
theorem bl_L_law_1389 : blk bL_law 1389 = some ([(.istore 5, 2, 0, 0, 0), (.aload_n 2, 1, 0, 0, 0), (.aload_n 0, 1, 0, 0, 0), (.iload 4, 2, 0, 0, 0), (.iconst 1, 1, 1, 0, 0), (.iadd, 1, 0, 0, 0), (.iaload, 1, 0, 0, 0), (.aload_n 0, 1, 0, 0, 0), (.iload 4, 2, 0, 0, 0), (.iconst 2, 1, 2, 0, 0), (.iadd, 1, 0, 0, 0), (.iaload, 1, 0, 0, 0)], some (.invokevirtual 168, 3, 203, 3, 3)) := rfl
theorem bl_L_law_1407 : blk bL_law 1407 = some ([(.lstore 6, 2, 0, 0, 0), (.aload_n 2, 1, 0, 0, 0)], some (.invokevirtual 169, 3, 199, 1, 3)) := rfl
theorem bl_L_law_1413 : blk bL_law 1413 = some ([(.iload 5, 2, 0, 0, 0)], some (.if_icmp .eq 5, 3, 0, 0, 0)) := rfl
theorem bl_L_law_1418 : blk bL_law 1418 = some ([(.iconst 0, 1, 0, 0, 0)], some (.ireturn, 1, 1, 0, 0)) := rfl
theorem bl_L_law_1420 : blk bL_law 1420 = some ([(.iload 5, 2, 0, 0, 0)], some (.ifCond .ne 14, 3, 0, 0, 0)) := rfl
theorem bl_L_law_1425 : blk bL_law 1425 = some ([(.aload_n 3, 1, 0, 0, 0), (.iconst 0, 1, 0, 0, 0)], none) := rfl
theorem bl_L_law_1428 : blk bL_law 1428 = some ([(.lload 6, 2, 0, 0, 0), (.lcmp, 1, 0, 0, 0)], some (.ifCond .eq 5, 3, 0, 0, 0)) := rfl
theorem bl_L_law_1434 : blk bL_law 1434 = some ([(.iconst 0, 1, 0, 0, 0)], some (.ireturn, 1, 1, 0, 0)) := rfl
theorem bl_L_law_1436 : blk bL_law 1436 = some ([], some (.goto 126, 3, 0, 0, 0)) := rfl
theorem bl_L_law_1439 : blk bL_law 1439 = some ([(.aload_n 1, 1, 0, 0, 0), (.aload_n 0, 1, 0, 0, 0), (.iload 4, 2, 0, 0, 0), (.iconst 1, 1, 1, 0, 0), (.iadd, 1, 0, 0, 0), (.iaload, 1, 0, 0, 0), (.aload_n 0, 1, 0, 0, 0), (.iload 4, 2, 0, 0, 0), (.iconst 2, 1, 2, 0, 0), (.iadd, 1, 0, 0, 0), (.iaload, 1, 0, 0, 0), (.aload_n 0, 1, 0, 0, 0), (.iload 4, 2, 0, 0, 0), (.iconst 3, 1, 3, 0, 0), (.iadd, 1, 0, 0, 0), (.iaload, 1, 0, 0, 0), (.aload_n 0, 1, 0, 0, 0), (.iload 4, 2, 0, 0, 0), (.iconst 4, 1, 4, 0, 0), (.iadd, 1, 0, 0, 0), (.iaload, 1, 0, 0, 0), (.aload_n 0, 1, 0, 0, 0), (.iload 4, 2, 0, 0, 0), (.iconst 5, 1, 5, 0, 0), (.iadd, 1, 0, 0, 0), (.iaload, 1, 0, 0, 0)], some (.invokevirtual 172, 3, 103, 6, 2)) := rfl
theorem bl_L_law_1473 : blk bL_law 1473 = some ([(.aload_n 2, 1, 0, 0, 0), (.aload_n 0, 1, 0, 0, 0), (.iload 4, 2, 0, 0, 0), (.iconst 1, 1, 1, 0, 0), (.iadd, 1, 0, 0, 0), (.iaload, 1, 0, 0, 0), (.aload_n 0, 1, 0, 0, 0), (.iload 4, 2, 0, 0, 0), (.iconst 2, 1, 2, 0, 0), (.iadd, 1, 0, 0, 0), (.iaload, 1, 0, 0, 0), (.aload_n 0, 1, 0, 0, 0), (.iload 4, 2, 0, 0, 0), (.iconst 3, 1, 3, 0, 0), (.iadd, 1, 0, 0, 0), (.iaload, 1, 0, 0, 0), (.aload_n 0, 1, 0, 0, 0), (.iload 4, 2, 0, 0, 0), (.iconst 4, 1, 4, 0, 0), (.iadd, 1, 0, 0, 0), (.iaload, 1, 0, 0, 0), (.aload_n 0, 1, 0, 0, 0), (.iload 4, 2, 0, 0, 0), (.iconst 5, 1, 5, 0, 0), (.iadd, 1, 0, 0, 0), (.iaload, 1, 0, 0, 0)], some (.invokevirtual 176, 3, 204, 6, 3)) := rfl
theorem bl_L_law_1507 : blk bL_law 1507 = some ([], some (.if_icmp .eq 55, 3, 0, 0, 0)) := rfl
theorem bl_L_law_1510 : blk bL_law 1510 = some ([(.iconst 0, 1, 0, 0, 0)], some (.ireturn, 1, 1, 0, 0)) := rfl
theorem bl_L_law_1512 : blk bL_law 1512 = some ([(.aload_n 1, 1, 0, 0, 0), (.aload_n 0, 1, 0, 0, 0), (.iload 4, 2, 0, 0, 0), (.iconst 1, 1, 1, 0, 0), (.iadd, 1, 0, 0, 0), (.iaload, 1, 0, 0, 0)], some (.invokevirtual 177, 3, 104, 2, 2)) := rfl
theorem bl_L_law_1522 : blk bL_law 1522 = some ([(.aload_n 2, 1, 0, 0, 0), (.aload_n 0, 1, 0, 0, 0), (.iload 4, 2, 0, 0, 0), (.iconst 1, 1, 1, 0, 0), (.iadd, 1, 0, 0, 0), (.iaload, 1, 0, 0, 0)], some (.invokevirtual 180, 3, 206, 2, 3)) := rfl
theorem bl_L_law_1532 : blk bL_law 1532 = some ([], some (.if_icmp .eq 30, 3, 0, 0, 0)) := rfl
theorem bl_L_law_1535 : blk bL_law 1535 = some ([(.iconst 0, 1, 0, 0, 0)], some (.ireturn, 1, 1, 0, 0)) := rfl
theorem bl_L_law_1537 : blk bL_law 1537 = some ([(.aload_n 1, 1, 0, 0, 0), (.aload_n 0, 1, 0, 0, 0), (.iload 4, 2, 0, 0, 0), (.iconst 1, 1, 1, 0, 0), (.iadd, 1, 0, 0, 0), (.iaload, 1, 0, 0, 0)], none) := rfl
theorem bl_L_law_1547 : blk bL_law 1547 = some ([(.aload_n 2, 1, 0, 0, 0), (.aload_n 0, 1, 0, 0, 0), (.iload 4, 2, 0, 0, 0), (.iconst 1, 1, 1, 0, 0), (.iadd, 1, 0, 0, 0), (.iaload, 1, 0, 0, 0)], some (.invokevirtual 184, 3, 207, 2, 3)) := rfl
theorem bl_L_law_1557 : blk bL_law 1557 = some ([], some (.if_icmp .eq 5, 3, 0, 0, 0)) := rfl
theorem bl_L_law_1560 : blk bL_law 1560 = some ([(.iconst 0, 1, 0, 0, 0)], some (.ireturn, 1, 1, 0, 0)) := rfl
theorem bl_L_law_1562 : blk bL_law 1562 = some ([(.iinc 4 6, 3, 6, 0, 0)], some (.goto (-1542), 3, 0, 0, 0)) := rfl
theorem bl_L_law_1568 : blk bL_law 1568 = some ([(.iconst 1, 1, 1, 0, 0)], some (.ireturn, 1, 1, 0, 0)) := rfl
def FA (h h' : Mem) : Prop := ∀ (t b k : Nat), t = 3 ∨ 12 ≤ t → hI h' t b k = hI h t b k
def FB (h h' : Mem) : Prop := ∀ (t b k : Nat), ¬ (t = 3 ∨ (12 ≤ t ∧ t ≤ 19)) → hI h' t b k = hI h t b k
theorem JX.fa {h h' : Mem} (a : JX h h') : FA h h' := fun t b k hn => a t b k (by omega)
theorem FrC.fa {h h' : Mem} {b : Nat} (a : FrC h h' b) : FA h h' := fun t b k hn => a t b k (by omega)
theorem FrS.fa {h h' : Mem} (a : FrS h h') : FA h h' := fun t b k hn => a t b k (by omega)
theorem JY.fb {h h' : Mem} (a : JY h h') : FB h h' := fun t b k hn => a t b k (by omega)
theorem FrR.fb {h h' : Mem} {w : Nat} (a : FrR h h' w) : FB h h' := fun t b k hn => a t b k (by omega)
theorem FrT.fb {h h' : Mem} (a : FrT h h') : FB h h' := fun t b k hn => a t b k (by omega)
theorem FrG.fb {h h' : Mem} (a : FrG h h') : FB h h' := fun t b k hn => a t b k (by omega)
section IWS
variable {h h1 h2 : Mem} {G Gi G' : Bd} {T : Int} {S S' : Sv}
theorem RW.fa (H : RW h G T Gi S) (F : FA h h1) : RW h1 G T Gi S :=
  ⟨H.1.eqs (fun k => F 12 0 k (by omega)), (F 3 0 4 (by omega)).trans H.2.1, fun e => (H.2.2.1 e).eqs (fun k => F 12 2 k (by omega)), H.2.2.2.fr (fun t b k ht => F t b k (by omega))⟩
theorem CW.fb (H : CW h G T Gi S) (F : FB h h1) : CW h1 G T Gi S :=
  ⟨H.1.eqs (fun t k ht => F t 0 k (by omega)), (F 2 0 2 (by omega)).trans H.2.1, fun e => (H.2.2.1 e).eqs (fun t k ht => F t 1 k (by omega)), H.2.2.2.fr (fun t b k ht => F t b k (by omega))⟩
theorem CW.jx (H : CW h G T Gi S) (F : JX h h1) : CW h1 G T Gi S :=
  ⟨H.1.jx F (by omega), (F 2 0 2 (by omega)).trans H.2.1, fun e => (H.2.2.1 e).jx F (by omega), H.2.2.2.fr (fun t b k ht => F t b k (by omega))⟩
theorem RW.jy (H : RW h G T Gi S) (F : JY h h1) : RW h1 G T Gi S :=
  ⟨H.1.jy F (by omega), (F 3 0 4 (by omega)).trans H.2.1, fun e => (H.2.2.1 e).jy F (by omega), H.2.2.2.fr (fun t b k ht => F t b k (by omega))⟩
theorem CW.chg (H : CW h G T Gi S) (R : RC h1 0 G') (F : ∀ t b k : Nat, ¬ ((t = 0 ∨ (4 ≤ t ∧ t ≤ 8)) ∧ (b = 0 ∨ b = 2)) → hI h1 t b k = hI h t b k) : CW h1 G' T Gi S :=
  ⟨R, (F 2 0 2 (by omega)).trans H.2.1, fun e => (H.2.2.1 e).eqs (fun t k ht => F t 1 k (by omega)), H.2.2.2.fr (fun t b k ht => F t b k (by omega))⟩
theorem RW.chg (H : RW h G T Gi S) (R : RR h1 0 G' no0 0) (F : FrG h h1) : RW h1 G' T Gi S :=
  ⟨R, (F 3 0 4 (by omega)).trans H.2.1, fun e => (H.2.2.1 e).eqs (fun k => F 12 2 k (by omega)), H.2.2.2.fr (fun t b k ht => F t b k (by omega))⟩
theorem CW.shf (H : CW h G T Gi S) (R : SC h1 S') (F : FrS h h1) : CW h1 G T Gi S' :=
  ⟨H.1.eqs (fun t k ht => F t 0 k (by omega)), (F 2 0 2 (by omega)).trans H.2.1, fun e => (H.2.2.1 e).eqs (fun t k ht => F t 1 k (by omega)), R⟩
theorem RW.shf (H : RW h G T Gi S) (R : SR h1 S') (F : FrT h h1) : RW h1 G T Gi S' :=
  ⟨H.1.eqs (fun k => F 12 0 k (by omega)), (F 3 0 4 (by omega)).trans H.2.1, fun e => (H.2.2.1 e).eqs (fun k => F 12 2 k (by omega)), R⟩
end IWS
/-- both hold the same -/
def IW (h : Mem) (G : Bd) (T : Int) (Gi : Bd) (S : Sv) : Prop := CW h G T Gi S ∧ RW h G T Gi S ∧ (OKB G ∧ dy G ≤ 999) ∧ (T = 0 ∨ T = 1) ∧ (T = 1 → OKB Gi ∧ dy Gi ≤ 999) ∧ OKS S ∧ OKE S
def INV (h : Mem) : Prop := ∃ (G : Bd) (T : Int) (Gi : Bd) (S : Sv), IW h G T Gi S
/-- the script and the long array stay -/
def FX (h h' : Mem) : Prop := ∀ (t b k : Nat), 20 ≤ t → hI h' t b k = hI h t b k
theorem rn_ok {c : Int → Int} {n : Int} (n0 : 0 ≤ n) : ∀ (f : Nat) (V : Bd) (i : Int), 0 ≤ i → WB c n (-4) i (-4) → n - i ≤ (f : Int) → OKB V → dy V ≤ 999 → (rn c n f V i).1 = 0 → OKB (rn c n f V i).2 ∧ dy (rn c n f V i).2 ≤ 999
  | 0, V, i, _, _, _, hO, hd, _ => ⟨hO, hd⟩
  | f + 1, V, i, i0, hB, hf, hO, hd, he => by
    rw [rn] at he ⊢
    by_cases hi : n ≤ i
    · rw [if_pos hi]; exact ⟨hO, hd⟩
    · rw [if_neg hi] at he ⊢
      obtain ⟨s1, s2, s3, s4⟩ := WB_st n0 i0 (by omega) hB
      have g := @nd_R (c i)
      by_cases ok : okTx c V i
      · rw [ifp_p ok] at he ⊢
        obtain ⟨o1, o2⟩ := vT_ok (n := n) hO hd ok ⟨s1, s2, s3⟩
        exact rn_ok n0 f _ _ (by omega) s4 (by omega) o1 o2 he
      · rw [ifp_n ok] at he
        have he : -2000 - i = 0 := he
        omega
section OKs
variable {G G' Gi : Bd} {S : Sv} {v T : Int}
theorem ok_stands (hO : OKB G) (hd : dy G ≤ 999) {p q : Int} (e : oStands G p q = (v, G')) : OKB G' ∧ dy G' ≤ 999 := by
  unfold oStands at e
  split at e
  · rename_i c
    split at e
    · rename_i c2
      cases e
      exact ⟨OKB_mov hO c.2.1 (by omega) (fun _ => c2), hd⟩
    · cases e; exact ⟨hO, hd⟩
  · cases e; exact ⟨hO, hd⟩
theorem ok_takes (hO : OKB G) (hd : dy G ≤ 999) {p : Int} (e : oTakes G p = (v, G')) : OKB G' ∧ dy G' ≤ 999 := by
  unfold oTakes at e
  split at e
  · split at e
    · cases e; exact ⟨OKB_off hO p, hd⟩
    · cases e; exact ⟨hO, hd⟩
  · cases e; exact ⟨hO, hd⟩
theorem ok_turn (hO : OKB G) (hd : dy G ≤ 999) {s : Int} (e : oTurn G s = (v, G')) : OKB G' ∧ dy G' ≤ 999 := by
  unfold oTurn at e
  split at e
  · rename_i c; cases e; exact ⟨OKB_sett hO c, hd⟩
  · cases e; exact ⟨hO, hd⟩
theorem ok_days (hO : OKB G) (hd : dy G ≤ 999) {n : Int} (e : oDays G n = (v, G')) : OKB G' ∧ dy G' ≤ 999 := by
  unfold oDays at e
  split at e
  · rename_i c
    split at e
    · rename_i c2
      cases e
      have g := DN_f (M := no0) hO n (by omega)
      exact ⟨g.1, by rw [g.2.2.1]; exact c2⟩
    · cases e; exact ⟨hO, hd⟩
  · cases e; exact ⟨hO, hd⟩
theorem ok_comes (hO : OKB G) (hd : dy G ≤ 999) (hK : OKS S) {x s q : Int} (e : oComes G S x s q = (v, G')) : OKB G' ∧ dy G' ≤ 999 := by
  unfold oComes at e
  split at e
  · cases e; exact ⟨hO, hd⟩
  · rename_i c1
    split at e
    · cases e; exact ⟨hO, hd⟩
    · rename_i c2
      split at e
      · cases e; exact ⟨hO, hd⟩
      · rename_i c3
        split at e
        · rename_i c4
          cases e
          have c1 := Classical.not_not.mp c1
          have c2 := Classical.not_not.mp c2
          have h1 : ho S x = 1 := by unfold rfu at c2; omega
          have g := (hK x c1.1.1 c1.1.2).2.1 h1
          exact ⟨OKB_addp hO (by omega) g.1 g.2 c1.2.1 c1.2.2.1 c1.2.2.2 c4, hd⟩
        · cases e; exact ⟨hO, hd⟩
theorem ok_game (hO : OKB G) (hd : dy G ≤ 999) (hK : OKS S) {x : Int} (e : oGame G S x = (v, G')) : OKB G' ∧ dy G' ≤ 999 := by
  unfold oGame at e
  split at e
  · cases e; exact ⟨hO, hd⟩
  · rename_i c1
    split at e
    · cases e; exact ⟨hO, hd⟩
    · split at e
      · cases e; exact ⟨hO, hd⟩
      · rename_i c2 c3
        split at e
        · rename_i c4
          cases e
          have c1 := Classical.not_not.mp c1
          have c3 := Classical.not_not.mp c3
          have h1 : (0 ≤ x ∧ x < 8) ∧ ho S x = 2 := by unfold rfu at c1; omega
          have g := (hK x h1.1.1 h1.1.2).2.2 h1.2
          refine rn_ok (by omega) 101 G 0 (by omega) ⟨101, by omega, ?_⟩ (by omega) hO hd c4
          unfold wbS at c3
          split at c3
          · omega
          · exact c3.symm
        · cases e; exact ⟨hO, hd⟩
end OKs
theorem pair_inj {α : Type} {a b : Int} {x y : α} (h : (a, x) = (b, y)) : a = b ∧ x = y := by cases h; exact ⟨rfl, rfl⟩
section LAWC
variable {e N : Nat} {Stop : Nat → Lc → List AV → Mem → Prop} {Rt : Option AV → Mem → Prop} {h : Mem} {i : Int} {u5 u6 u7 : Option AV}
theorem t_ic_same {CL : Nat → List AV → Mem → (Option AV → Mem → Prop) → Prop} {L : Nat} {K : Nat → Lc → List AV → Mem → Prop} {o : Int} {pc l a b c : Nat} {ls : Lc} {st : List AV} {x : Int32} (q1 : Nat) (h1 : tgt pc o = q1) (k : K q1 ls st h) : wB CL L K Rt (some (.if_icmp .eq o, l, a, b, c)) [] pc ls (ai x :: ai x :: st) h := by
  subst h1
  exact ⟨fun _ => k, fun z => absurd rfl z⟩
theorem t_lc_same {CL : Nat → List AV → Mem → (Option AV → Mem → Prop) → Prop} {L : Nat} {K : Nat → Lc → List AV → Mem → Prop} {o : Int} {pc p2 l a b c l2 a2 b2 c2 : Nat} {ls : Lc} {st : List AV} {x : Int64} (q1 : Nat) (h2 : pc + l2 = p2) (h1 : tgt p2 o = q1) (k : K q1 ls st h) : wB CL L K Rt (some (.ifCond .eq o, l, a, b, c)) [(.lcmp, l2, a2, b2, c2)] pc ls (al x :: al x :: st) h := by
  subst h2
  refine i_lcmp ?_
  rw [lcm_e rfl]
  subst h1
  exact ⟨fun _ => k, fun z => absurd rfl z⟩
theorem lw_game (hI : INV h) (hn : N ≤ 3072) (i0 : 0 ≤ i) (i1 : i + 6 ≤ (N : Int)) (hk : ∀ h2, INV h2 → FX h h2 → Rch bL_law (Rn mt (e + 20)) (N + 1) Stop Rt 1562 [some (ar 22 0), some (ar 2 0), some (ar 3 0), some (ar 23 0), some (ai (I i)), u5, u6, u7] [] h2) : Rch bL_law (Rn mt (e + 20)) (N + 1) Stop Rt 208 [some (ar 22 0), some (ar 2 0), some (ar 3 0), some (ar 23 0), some (ai (I i)), u5, u6, u7] [] h := by
  obtain ⟨G, T, Gi, S, A, B, ⟨hO, hy⟩, hT, hGi, hK, hE⟩ := hI
  refine Rch.blk' (Rn_mono mt _) bl_L_law_208 (i_aload_n rfl (i_aload_n rfl (i_iload rfl (i_iconst k_1 (i_iadd (i_iald rfl (by omega) (by simp only [aln]; omega) (by simp only [aln]; omega) (t_cv2 (Rn_mono mt _) 218 rfl (Nat.le_of_ble_eq_true rfl) ?_)))))))
  refine c_X3_game A.1 hO hy A.2.2.2 hK hE hI_R (fun v G1 h1 hv hR hC => ?_)
  have hF : FA h h1 := fun t b j ht => hC t b j (by omega)
  have e_x : ∀ j, hI h1 22 0 j = hI h 22 0 j := fun j => hF 22 0 j (by omega)
  have B1 := B.fa hF
  refine Rch.blk' (Rn_mono mt _) bl_L_law_218 (i_aload_n rfl (i_aload_n rfl (i_iload rfl (i_iconst k_1 (i_iadd (i_iald rfl (by first | omega | (simp (disch := omega) only [e_x]; omega)) (by simp only [aln]; omega) (by simp only [aln]; omega) (t_cv2 (Rn_mono mt _) 228 rfl (Nat.le_of_ble_eq_true rfl) ?_))))))) <;> (try (simp (disch := omega) only [e_x]))
  refine c_X4_game B1.1 hO hy B1.2.2.2 hK hE hI_R (fun w G2 h2 hw hR2 hC2 => ?_)
  obtain ⟨rfl, rfl⟩ := pair_inj (hw.symm.trans hv)
  refine Rch.blk' (Rn_mono mt _) bl_L_law_228 (t_ic_same 1562 rfl ?_)
  exact hk h2 ⟨_, T, Gi, S, (A.chg hR hC).fb hC2.fb, B1.chg hR2 hC2, ok_game hO hy hK hv, hT, hGi, hK, hE⟩ (fun t b j ht => (hC2.fb t b j (by omega)).trans (hF t b j (by omega)))
theorem lw_piece (hI : INV h) (hn : N ≤ 3072) (i0 : 0 ≤ i) (i1 : i + 6 ≤ (N : Int)) (hk : ∀ h2, INV h2 → FX h h2 → Rch bL_law (Rn mt (e + 20)) (N + 1) Stop Rt 1562 [some (ar 22 0), some (ar 2 0), some (ar 3 0), some (ar 23 0), some (ai (I i)), u5, u6, u7] [] h2) : Rch bL_law (Rn mt (e + 20)) (N + 1) Stop Rt 233 [some (ar 22 0), some (ar 2 0), some (ar 3 0), some (ar 23 0), some (ai (I i)), u5, u6, u7] [] h := by
  obtain ⟨G, T, Gi, S, A, B, ⟨hO, hy⟩, hT, hGi, hK, hE⟩ := hI
  refine Rch.blk' (Rn_mono mt _) bl_L_law_233 (i_aload_n rfl (i_aload_n rfl (i_iload rfl (i_iconst k_1 (i_iadd (i_iald rfl (by omega) (by simp only [aln]; omega) (by simp only [aln]; omega) (i_aload_n rfl (i_iload rfl (i_iconst k_2 (i_iadd (i_iald rfl (by omega) (by simp only [aln]; omega) (by simp only [aln]; omega) (t_cv3 (Rn_mono mt _) 249 rfl (Nat.le_of_ble_eq_true rfl) ?_))))))))))))
  refine c_X3_piece A.1 hO hy hI_R hI_R (fun v h1 hv hJ => ?_)
  have hF := hJ.fa
  have e_x : ∀ j, hI h1 22 0 j = hI h 22 0 j := fun j => hF 22 0 j (by omega)
  have B1 := B.fa hF
  refine Rch.blk' (Rn_mono mt _) bl_L_law_249 (i_aload_n rfl (i_aload_n rfl (i_iload rfl (i_iconst k_1 (i_iadd (i_iald rfl (by first | omega | (simp (disch := omega) only [e_x]; omega)) (by simp only [aln]; omega) (by simp only [aln]; omega) (i_aload_n rfl (i_iload rfl (i_iconst k_2 (i_iadd (i_iald rfl (by first | omega | (simp (disch := omega) only [e_x]; omega)) (by simp only [aln]; omega) (by simp only [aln]; omega) (t_cv3 (Rn_mono mt _) 265 rfl (Nat.le_of_ble_eq_true rfl) ?_)))))))))))) <;> (try (simp (disch := omega) only [e_x]))
  refine c_X4_piece B1.1 hO hy hI_R hI_R (fun w h2 hw hJ2 => ?_)
  obtain rfl : w = v := hw.trans hv.symm
  refine Rch.blk' (Rn_mono mt _) bl_L_law_265 (t_ic_same 1562 rfl ?_)
  exact hk h2 ⟨G, T, Gi, S, (A.jx hJ).fb hJ2.fb, B1.jy hJ2, ⟨hO, hy⟩, hT, hGi, hK, hE⟩ (fun t b j ht => (hJ2.fb t b j (by omega)).trans (hF t b j (by omega)))
theorem lw_on (hI : INV h) (hn : N ≤ 3072) (i0 : 0 ≤ i) (i1 : i + 6 ≤ (N : Int)) (hk : ∀ h2, INV h2 → FX h h2 → Rch bL_law (Rn mt (e + 20)) (N + 1) Stop Rt 1562 [some (ar 22 0), some (ar 2 0), some (ar 3 0), some (ar 23 0), some (ai (I i)), u5, u6, u7] [] h2) : Rch bL_law (Rn mt (e + 20)) (N + 1) Stop Rt 270 [some (ar 22 0), some (ar 2 0), some (ar 3 0), some (ar 23 0), some (ai (I i)), u5, u6, u7] [] h := by
  obtain ⟨G, T, Gi, S, A, B, ⟨hO, hy⟩, hT, hGi, hK, hE⟩ := hI
  refine Rch.blk' (Rn_mono mt _) bl_L_law_270 (i_aload_n rfl (i_aload_n rfl (i_iload rfl (i_iconst k_1 (i_iadd (i_iald rfl (by omega) (by simp only [aln]; omega) (by simp only [aln]; omega) (t_cv2 (Rn_mono mt _) 280 rfl (Nat.le_of_ble_eq_true rfl) ?_)))))))
  refine c_X3_on A.1 hO hI_R (fun v h1 hv hJ => ?_)
  have hF := hJ.fa
  have e_x : ∀ j, hI h1 22 0 j = hI h 22 0 j := fun j => hF 22 0 j (by omega)
  have B1 := B.fa hF
  refine Rch.blk' (Rn_mono mt _) bl_L_law_280 (i_aload_n rfl (i_aload_n rfl (i_iload rfl (i_iconst k_1 (i_iadd (i_iald rfl (by first | omega | (simp (disch := omega) only [e_x]; omega)) (by simp only [aln]; omega) (by simp only [aln]; omega) (t_cv2 (Rn_mono mt _) 290 rfl (Nat.le_of_ble_eq_true rfl) ?_))))))) <;> (try (simp (disch := omega) only [e_x]))
  refine c_X4_on B1.1 hO hI_R (fun w h2 hw hJ2 => ?_)
  obtain rfl : w = v := hw.trans hv.symm
  refine Rch.blk' (Rn_mono mt _) bl_L_law_290 (t_ic_same 1562 rfl ?_)
  exact hk h2 ⟨G, T, Gi, S, (A.jx hJ).fb hJ2.fb, B1.jy hJ2, ⟨hO, hy⟩, hT, hGi, hK, hE⟩ (fun t b j ht => (hJ2.fb t b j (by omega)).trans (hF t b j (by omega)))
theorem lw_comes (hI : INV h) (hn : N ≤ 3072) (i0 : 0 ≤ i) (i1 : i + 6 ≤ (N : Int)) (hk : ∀ h2, INV h2 → FX h h2 → Rch bL_law (Rn mt (e + 20)) (N + 1) Stop Rt 1562 [some (ar 22 0), some (ar 2 0), some (ar 3 0), some (ar 23 0), some (ai (I i)), u5, u6, u7] [] h2) : Rch bL_law (Rn mt (e + 20)) (N + 1) Stop Rt 295 [some (ar 22 0), some (ar 2 0), some (ar 3 0), some (ar 23 0), some (ai (I i)), u5, u6, u7] [] h := by
  obtain ⟨G, T, Gi, S, A, B, ⟨hO, hy⟩, hT, hGi, hK, hE⟩ := hI
  refine Rch.blk' (Rn_mono mt _) bl_L_law_295 (i_aload_n rfl (i_aload_n rfl (i_iload rfl (i_iconst k_1 (i_iadd (i_iald rfl (by omega) (by simp only [aln]; omega) (by simp only [aln]; omega) (i_aload_n rfl (i_iload rfl (i_iconst k_2 (i_iadd (i_iald rfl (by omega) (by simp only [aln]; omega) (by simp only [aln]; omega) (i_aload_n rfl (i_iload rfl (i_iconst k_3 (i_iadd (i_iald rfl (by omega) (by simp only [aln]; omega) (by simp only [aln]; omega) (t_cv4 (Rn_mono mt _) 317 rfl (Nat.le_of_ble_eq_true rfl) ?_)))))))))))))))))
  refine c_X3_comes A.1 hO A.2.2.2 hK hI_R hI_R hI_R (fun v G1 h1 hv hR hC => ?_)
  have hF := hC.fa
  have e_x : ∀ j, hI h1 22 0 j = hI h 22 0 j := fun j => hF 22 0 j (by omega)
  have B1 := B.fa hF
  refine Rch.blk' (Rn_mono mt _) bl_L_law_317 (i_aload_n rfl (i_aload_n rfl (i_iload rfl (i_iconst k_1 (i_iadd (i_iald rfl (by first | omega | (simp (disch := omega) only [e_x]; omega)) (by simp only [aln]; omega) (by simp only [aln]; omega) (i_aload_n rfl (i_iload rfl (i_iconst k_2 (i_iadd (i_iald rfl (by first | omega | (simp (disch := omega) only [e_x]; omega)) (by simp only [aln]; omega) (by simp only [aln]; omega) (i_aload_n rfl (i_iload rfl (i_iconst k_3 (i_iadd (i_iald rfl (by first | omega | (simp (disch := omega) only [e_x]; omega)) (by simp only [aln]; omega) (by simp only [aln]; omega) (t_cv4 (Rn_mono mt _) 339 rfl (Nat.le_of_ble_eq_true rfl) ?_))))))))))))))))) <;> (try (simp (disch := omega) only [e_x]))
  refine c_X4_comes B1.1 hO B1.2.2.2 hK hI_R hI_R hI_R (fun w G2 h2 hw hR2 hC2 => ?_)
  obtain ⟨rfl, rfl⟩ := pair_inj (hw.symm.trans hv)
  refine Rch.blk' (Rn_mono mt _) bl_L_law_339 (t_ic_same 1562 rfl ?_)
  exact hk h2 ⟨_, T, Gi, S, (A.chg hR (fun t b j hn2 => hC t b j (by omega))).fb hC2.fb, B1.chg hR2 (hC2.g (by omega)), ok_comes hO hy hK hv, hT, hGi, hK, hE⟩ (fun t b j ht => (hC2.fb t b j (by omega)).trans (hF t b j (by omega)))
theorem lw_stands (hI : INV h) (hn : N ≤ 3072) (i0 : 0 ≤ i) (i1 : i + 6 ≤ (N : Int)) (hk : ∀ h2, INV h2 → FX h h2 → Rch bL_law (Rn mt (e + 20)) (N + 1) Stop Rt 1562 [some (ar 22 0), some (ar 2 0), some (ar 3 0), some (ar 23 0), some (ai (I i)), u5, u6, u7] [] h2) : Rch bL_law (Rn mt (e + 20)) (N + 1) Stop Rt 344 [some (ar 22 0), some (ar 2 0), some (ar 3 0), some (ar 23 0), some (ai (I i)), u5, u6, u7] [] h := by
  obtain ⟨G, T, Gi, S, A, B, ⟨hO, hy⟩, hT, hGi, hK, hE⟩ := hI
  refine Rch.blk' (Rn_mono mt _) bl_L_law_344 (i_aload_n rfl (i_aload_n rfl (i_iload rfl (i_iconst k_1 (i_iadd (i_iald rfl (by omega) (by simp only [aln]; omega) (by simp only [aln]; omega) (i_aload_n rfl (i_iload rfl (i_iconst k_2 (i_iadd (i_iald rfl (by omega) (by simp only [aln]; omega) (by simp only [aln]; omega) (t_cv3 (Rn_mono mt _) 360 rfl (Nat.le_of_ble_eq_true rfl) ?_))))))))))))
  refine c_X3_stands A.1 hO hI_R hI_R (fun v G1 h1 hv hR hC => ?_)
  have hF := hC.fa
  have e_x : ∀ j, hI h1 22 0 j = hI h 22 0 j := fun j => hF 22 0 j (by omega)
  have B1 := B.fa hF
  refine Rch.blk' (Rn_mono mt _) bl_L_law_360 (i_aload_n rfl (i_aload_n rfl (i_iload rfl (i_iconst k_1 (i_iadd (i_iald rfl (by first | omega | (simp (disch := omega) only [e_x]; omega)) (by simp only [aln]; omega) (by simp only [aln]; omega) (i_aload_n rfl (i_iload rfl (i_iconst k_2 (i_iadd (i_iald rfl (by first | omega | (simp (disch := omega) only [e_x]; omega)) (by simp only [aln]; omega) (by simp only [aln]; omega) (t_cv3 (Rn_mono mt _) 376 rfl (Nat.le_of_ble_eq_true rfl) ?_)))))))))))) <;> (try (simp (disch := omega) only [e_x]))
  refine c_X4_stands B1.1 hO hI_R hI_R (fun w G2 h2 hw hR2 hC2 => ?_)
  obtain ⟨rfl, rfl⟩ := pair_inj (hw.symm.trans hv)
  refine Rch.blk' (Rn_mono mt _) bl_L_law_376 (t_ic_same 1562 rfl ?_)
  exact hk h2 ⟨_, T, Gi, S, (A.chg hR (fun t b j hn2 => hC t b j (by omega))).fb hC2.fb, B1.chg hR2 (hC2.g (by omega)), ok_stands hO hy hv, hT, hGi, hK, hE⟩ (fun t b j ht => (hC2.fb t b j (by omega)).trans (hF t b j (by omega)))
theorem lw_takes (hI : INV h) (hn : N ≤ 3072) (i0 : 0 ≤ i) (i1 : i + 6 ≤ (N : Int)) (hk : ∀ h2, INV h2 → FX h h2 → Rch bL_law (Rn mt (e + 20)) (N + 1) Stop Rt 1562 [some (ar 22 0), some (ar 2 0), some (ar 3 0), some (ar 23 0), some (ai (I i)), u5, u6, u7] [] h2) : Rch bL_law (Rn mt (e + 20)) (N + 1) Stop Rt 381 [some (ar 22 0), some (ar 2 0), some (ar 3 0), some (ar 23 0), some (ai (I i)), u5, u6, u7] [] h := by
  obtain ⟨G, T, Gi, S, A, B, ⟨hO, hy⟩, hT, hGi, hK, hE⟩ := hI
  refine Rch.blk' (Rn_mono mt _) bl_L_law_381 (i_aload_n rfl (i_aload_n rfl (i_iload rfl (i_iconst k_1 (i_iadd (i_iald rfl (by omega) (by simp only [aln]; omega) (by simp only [aln]; omega) (t_cv2 (Rn_mono mt _) 391 rfl (Nat.le_of_ble_eq_true rfl) ?_)))))))
  refine c_X3_takes A.1 hO hI_R (fun v G1 h1 hv hR hC => ?_)
  have hF := hC.fa
  have e_x : ∀ j, hI h1 22 0 j = hI h 22 0 j := fun j => hF 22 0 j (by omega)
  have B1 := B.fa hF
  refine Rch.blk' (Rn_mono mt _) bl_L_law_391 (i_aload_n rfl (i_aload_n rfl (i_iload rfl (i_iconst k_1 (i_iadd (i_iald rfl (by first | omega | (simp (disch := omega) only [e_x]; omega)) (by simp only [aln]; omega) (by simp only [aln]; omega) (t_cv2 (Rn_mono mt _) 401 rfl (Nat.le_of_ble_eq_true rfl) ?_))))))) <;> (try (simp (disch := omega) only [e_x]))
  refine c_X4_takes B1.1 hO hI_R (fun w G2 h2 hw hR2 hC2 => ?_)
  obtain ⟨rfl, rfl⟩ := pair_inj (hw.symm.trans hv)
  refine Rch.blk' (Rn_mono mt _) bl_L_law_401 (t_ic_same 1562 rfl ?_)
  exact hk h2 ⟨_, T, Gi, S, (A.chg hR (fun t b j hn2 => hC t b j (by omega))).fb hC2.fb, B1.chg hR2 (hC2.g (by omega)), ok_takes hO hy hv, hT, hGi, hK, hE⟩ (fun t b j ht => (hC2.fb t b j (by omega)).trans (hF t b j (by omega)))
theorem lw_turn (hI : INV h) (hn : N ≤ 3072) (i0 : 0 ≤ i) (i1 : i + 6 ≤ (N : Int)) (hk : ∀ h2, INV h2 → FX h h2 → Rch bL_law (Rn mt (e + 20)) (N + 1) Stop Rt 1562 [some (ar 22 0), some (ar 2 0), some (ar 3 0), some (ar 23 0), some (ai (I i)), u5, u6, u7] [] h2) : Rch bL_law (Rn mt (e + 20)) (N + 1) Stop Rt 406 [some (ar 22 0), some (ar 2 0), some (ar 3 0), some (ar 23 0), some (ai (I i)), u5, u6, u7] [] h := by
  obtain ⟨G, T, Gi, S, A, B, ⟨hO, hy⟩, hT, hGi, hK, hE⟩ := hI
  refine Rch.blk' (Rn_mono mt _) bl_L_law_406 (i_aload_n rfl (i_aload_n rfl (i_iload rfl (i_iconst k_1 (i_iadd (i_iald rfl (by omega) (by simp only [aln]; omega) (by simp only [aln]; omega) (t_cv2 (Rn_mono mt _) 416 rfl (Nat.le_of_ble_eq_true rfl) ?_)))))))
  refine c_X3_turn A.1 hO hI_R (fun v G1 h1 hv hR hC => ?_)
  have hF := hC.fa
  have e_x : ∀ j, hI h1 22 0 j = hI h 22 0 j := fun j => hF 22 0 j (by omega)
  have B1 := B.fa hF
  refine Rch.blk' (Rn_mono mt _) bl_L_law_416 (i_aload_n rfl (i_aload_n rfl (i_iload rfl (i_iconst k_1 (i_iadd (i_iald rfl (by first | omega | (simp (disch := omega) only [e_x]; omega)) (by simp only [aln]; omega) (by simp only [aln]; omega) (t_cv2 (Rn_mono mt _) 426 rfl (Nat.le_of_ble_eq_true rfl) ?_))))))) <;> (try (simp (disch := omega) only [e_x]))
  refine c_X4_turn B1.1 hO hI_R (fun w G2 h2 hw hR2 hC2 => ?_)
  obtain ⟨rfl, rfl⟩ := pair_inj (hw.symm.trans hv)
  refine Rch.blk' (Rn_mono mt _) bl_L_law_426 (t_ic_same 1562 rfl ?_)
  exact hk h2 ⟨_, T, Gi, S, (A.chg hR (fun t b j hn2 => hC t b j (by omega))).fb hC2.fb, B1.chg hR2 (hC2.g (by omega)), ok_turn hO hy hv, hT, hGi, hK, hE⟩ (fun t b j ht => (hC2.fb t b j (by omega)).trans (hF t b j (by omega)))
theorem lw_days (hI : INV h) (hn : N ≤ 3072) (i0 : 0 ≤ i) (i1 : i + 6 ≤ (N : Int)) (hk : ∀ h2, INV h2 → FX h h2 → Rch bL_law (Rn mt (e + 20)) (N + 1) Stop Rt 1562 [some (ar 22 0), some (ar 2 0), some (ar 3 0), some (ar 23 0), some (ai (I i)), u5, u6, u7] [] h2) : Rch bL_law (Rn mt (e + 20)) (N + 1) Stop Rt 431 [some (ar 22 0), some (ar 2 0), some (ar 3 0), some (ar 23 0), some (ai (I i)), u5, u6, u7] [] h := by
  obtain ⟨G, T, Gi, S, A, B, ⟨hO, hy⟩, hT, hGi, hK, hE⟩ := hI
  refine Rch.blk' (Rn_mono mt _) bl_L_law_431 (i_aload_n rfl (i_aload_n rfl (i_iload rfl (i_iconst k_1 (i_iadd (i_iald rfl (by omega) (by simp only [aln]; omega) (by simp only [aln]; omega) (t_cv2 (Rn_mono mt _) 441 rfl (Nat.le_of_ble_eq_true rfl) ?_)))))))
  refine c_X3_days A.1 hO hy hI_R (fun v G1 h1 hv hR hC => ?_)
  have hF := hC.fa
  have e_x : ∀ j, hI h1 22 0 j = hI h 22 0 j := fun j => hF 22 0 j (by omega)
  have B1 := B.fa hF
  refine Rch.blk' (Rn_mono mt _) bl_L_law_441 (i_aload_n rfl (i_aload_n rfl (i_iload rfl (i_iconst k_1 (i_iadd (i_iald rfl (by first | omega | (simp (disch := omega) only [e_x]; omega)) (by simp only [aln]; omega) (by simp only [aln]; omega) (t_cv2 (Rn_mono mt _) 451 rfl (Nat.le_of_ble_eq_true rfl) ?_))))))) <;> (try (simp (disch := omega) only [e_x]))
  refine c_X4_days B1.1 hO hy hI_R (fun w G2 h2 hw hR2 hC2 => ?_)
  obtain ⟨rfl, rfl⟩ := pair_inj (hw.symm.trans hv)
  refine Rch.blk' (Rn_mono mt _) bl_L_law_451 (t_ic_same 1562 rfl ?_)
  exact hk h2 ⟨_, T, Gi, S, (A.chg hR (fun t b j hn2 => hC t b j (by omega))).fb hC2.fb, B1.chg hR2 (hC2.g (by omega)), ok_days hO hy hv, hT, hGi, hK, hE⟩ (fun t b j ht => (hC2.fb t b j (by omega)).trans (hF t b j (by omega)))
theorem lw_squareThen (hI : INV h) (hn : N ≤ 3072) (i0 : 0 ≤ i) (i1 : i + 6 ≤ (N : Int)) (hk : ∀ h2, INV h2 → FX h h2 → Rch bL_law (Rn mt (e + 20)) (N + 1) Stop Rt 1562 [some (ar 22 0), some (ar 2 0), some (ar 3 0), some (ar 23 0), some (ai (I i)), u5, u6, u7] [] h2) : Rch bL_law (Rn mt (e + 20)) (N + 1) Stop Rt 456 [some (ar 22 0), some (ar 2 0), some (ar 3 0), some (ar 23 0), some (ai (I i)), u5, u6, u7] [] h := by
  obtain ⟨G, T, Gi, S, A, B, ⟨hO, hy⟩, hT, hGi, hK, hE⟩ := hI
  refine Rch.blk' (Rn_mono mt _) bl_L_law_456 (i_aload_n rfl (i_aload_n rfl (i_iload rfl (i_iconst k_1 (i_iadd (i_iald rfl (by omega) (by simp only [aln]; omega) (by simp only [aln]; omega) (i_aload_n rfl (i_iload rfl (i_iconst k_2 (i_iadd (i_iald rfl (by omega) (by simp only [aln]; omega) (by simp only [aln]; omega) (t_cv3 (Rn_mono mt _) 472 rfl (Nat.le_of_ble_eq_true rfl) ?_))))))))))))
  refine c_X3_squareThen A.1 hO hy hI_R hI_R (fun v h1 hv hJ => ?_)
  have hF := hJ.fa
  have e_x : ∀ j, hI h1 22 0 j = hI h 22 0 j := fun j => hF 22 0 j (by omega)
  have B1 := B.fa hF
  refine Rch.blk' (Rn_mono mt _) bl_L_law_472 (i_aload_n rfl (i_aload_n rfl (i_iload rfl (i_iconst k_1 (i_iadd (i_iald rfl (by first | omega | (simp (disch := omega) only [e_x]; omega)) (by simp only [aln]; omega) (by simp only [aln]; omega) (i_aload_n rfl (i_iload rfl (i_iconst k_2 (i_iadd (i_iald rfl (by first | omega | (simp (disch := omega) only [e_x]; omega)) (by simp only [aln]; omega) (by simp only [aln]; omega) (t_cv3 (Rn_mono mt _) 488 rfl (Nat.le_of_ble_eq_true rfl) ?_)))))))))))) <;> (try (simp (disch := omega) only [e_x]))
  refine c_X4_squareThen B1.1 hO hy hI_R hI_R (fun w h2 hw hJ2 => ?_)
  obtain rfl : w = v := hw.trans hv.symm
  refine Rch.blk' (Rn_mono mt _) bl_L_law_488 (t_ic_same 1562 rfl ?_)
  exact hk h2 ⟨G, T, Gi, S, (A.jx hJ).fb hJ2.fb, B1.jy hJ2, ⟨hO, hy⟩, hT, hGi, hK, hE⟩ (fun t b j ht => (hJ2.fb t b j (by omega)).trans (hF t b j (by omega)))
theorem lw_then (hI : INV h) (hn : N ≤ 3072) (i0 : 0 ≤ i) (i1 : i + 6 ≤ (N : Int)) (hk : ∀ h2, INV h2 → FX h h2 → Rch bL_law (Rn mt (e + 20)) (N + 1) Stop Rt 1562 [some (ar 22 0), some (ar 2 0), some (ar 3 0), some (ar 23 0), some (ai (I i)), u5, u6, u7] [] h2) : Rch bL_law (Rn mt (e + 20)) (N + 1) Stop Rt 493 [some (ar 22 0), some (ar 2 0), some (ar 3 0), some (ar 23 0), some (ai (I i)), u5, u6, u7] [] h := by
  obtain ⟨G, T, Gi, S, A, B, ⟨hO, hy⟩, hT, hGi, hK, hE⟩ := hI
  refine Rch.blk' (Rn_mono mt _) bl_L_law_493 (i_aload_n rfl (i_aload_n rfl (i_iload rfl (i_iconst k_1 (i_iadd (i_iald rfl (by omega) (by simp only [aln]; omega) (by simp only [aln]; omega) (i_aload_n rfl (i_iload rfl (i_iconst k_2 (i_iadd (i_iald rfl (by omega) (by simp only [aln]; omega) (by simp only [aln]; omega) (t_cv3 (Rn_mono mt _) 509 rfl (Nat.le_of_ble_eq_true rfl) ?_))))))))))))
  refine c_X3_then A.1 hO hy hI_R hI_R (fun v h1 hv hJ => ?_)
  have hF := hJ.fa
  have e_x : ∀ j, hI h1 22 0 j = hI h 22 0 j := fun j => hF 22 0 j (by omega)
  have B1 := B.fa hF
  refine Rch.blk' (Rn_mono mt _) bl_L_law_509 (i_aload_n rfl (i_aload_n rfl (i_iload rfl (i_iconst k_1 (i_iadd (i_iald rfl (by first | omega | (simp (disch := omega) only [e_x]; omega)) (by simp only [aln]; omega) (by simp only [aln]; omega) (i_aload_n rfl (i_iload rfl (i_iconst k_2 (i_iadd (i_iald rfl (by first | omega | (simp (disch := omega) only [e_x]; omega)) (by simp only [aln]; omega) (by simp only [aln]; omega) (t_cv3 (Rn_mono mt _) 525 rfl (Nat.le_of_ble_eq_true rfl) ?_)))))))))))) <;> (try (simp (disch := omega) only [e_x]))
  refine c_X4_then B1.1 hO hy hI_R hI_R (fun w h2 hw hJ2 => ?_)
  obtain rfl : w = v := hw.trans hv.symm
  refine Rch.blk' (Rn_mono mt _) bl_L_law_525 (t_ic_same 1562 rfl ?_)
  exact hk h2 ⟨G, T, Gi, S, (A.jx hJ).fb hJ2.fb, B1.jy hJ2, ⟨hO, hy⟩, hT, hGi, hK, hE⟩ (fun t b j ht => (hJ2.fb t b j (by omega)).trans (hF t b j (by omega)))
theorem lw_falls (hI : INV h) (hn : N ≤ 3072) (i0 : 0 ≤ i) (i1 : i + 6 ≤ (N : Int)) (hk : ∀ h2, INV h2 → FX h h2 → Rch bL_law (Rn mt (e + 20)) (N + 1) Stop Rt 1562 [some (ar 22 0), some (ar 2 0), some (ar 3 0), some (ar 23 0), some (ai (I i)), u5, u6, u7] [] h2) : Rch bL_law (Rn mt (e + 20)) (N + 1) Stop Rt 530 [some (ar 22 0), some (ar 2 0), some (ar 3 0), some (ar 23 0), some (ai (I i)), u5, u6, u7] [] h := by
  obtain ⟨G, T, Gi, S, A, B, ⟨hO, hy⟩, hT, hGi, hK, hE⟩ := hI
  refine Rch.blk' (Rn_mono mt _) bl_L_law_530 (i_aload_n rfl (i_aload_n rfl (i_iload rfl (i_iconst k_1 (i_iadd (i_iald rfl (by omega) (by simp only [aln]; omega) (by simp only [aln]; omega) (t_cv2 (Rn_mono mt _) 540 rfl (Nat.le_of_ble_eq_true rfl) ?_)))))))
  refine c_X3_falls A.1 hO hy hI_R (fun v h1 hv hJ => ?_)
  have hF := hJ.fa
  have e_x : ∀ j, hI h1 22 0 j = hI h 22 0 j := fun j => hF 22 0 j (by omega)
  have B1 := B.fa hF
  refine Rch.blk' (Rn_mono mt _) bl_L_law_540 (i_aload_n rfl (i_aload_n rfl (i_iload rfl (i_iconst k_1 (i_iadd (i_iald rfl (by first | omega | (simp (disch := omega) only [e_x]; omega)) (by simp only [aln]; omega) (by simp only [aln]; omega) (t_cv2 (Rn_mono mt _) 550 rfl (Nat.le_of_ble_eq_true rfl) ?_))))))) <;> (try (simp (disch := omega) only [e_x]))
  refine c_X4_falls B1.1 hO hy hI_R (fun w h2 hw hJ2 => ?_)
  obtain rfl : w = v := hw.trans hv.symm
  refine Rch.blk' (Rn_mono mt _) bl_L_law_550 (t_ic_same 1562 rfl ?_)
  exact hk h2 ⟨G, T, Gi, S, (A.jx hJ).fb hJ2.fb, B1.jy hJ2, ⟨hO, hy⟩, hT, hGi, hK, hE⟩ (fun t b j ht => (hJ2.fb t b j (by omega)).trans (hF t b j (by omega)))
theorem lw_still (hI : INV h) (hn : N ≤ 3072) (i0 : 0 ≤ i) (i1 : i + 6 ≤ (N : Int)) (hk : ∀ h2, INV h2 → FX h h2 → Rch bL_law (Rn mt (e + 20)) (N + 1) Stop Rt 1562 [some (ar 22 0), some (ar 2 0), some (ar 3 0), some (ar 23 0), some (ai (I i)), u5, u6, u7] [] h2) : Rch bL_law (Rn mt (e + 20)) (N + 1) Stop Rt 555 [some (ar 22 0), some (ar 2 0), some (ar 3 0), some (ar 23 0), some (ai (I i)), u5, u6, u7] [] h := by
  obtain ⟨G, T, Gi, S, A, B, ⟨hO, hy⟩, hT, hGi, hK, hE⟩ := hI
  refine Rch.blk' (Rn_mono mt _) bl_L_law_555 (i_aload_n rfl (t_cv1 (Rn_mono mt _) 559 rfl (Nat.le_of_ble_eq_true rfl) ?_))
  refine c_X3_still A.1 hO hy (fun v h1 hv hJ => ?_)
  have hF := hJ.fa
  have e_x : ∀ j, hI h1 22 0 j = hI h 22 0 j := fun j => hF 22 0 j (by omega)
  have B1 := B.fa hF
  refine Rch.blk' (Rn_mono mt _) bl_L_law_559 (i_aload_n rfl (t_cv1 (Rn_mono mt _) 563 rfl (Nat.le_of_ble_eq_true rfl) ?_))
  refine c_X4_still B1.1 hO hy (fun w h2 hw hJ2 => ?_)
  obtain rfl : w = v := hw.trans hv.symm
  refine Rch.blk' (Rn_mono mt _) bl_L_law_563 (t_ic_same 1562 rfl ?_)
  exact hk h2 ⟨G, T, Gi, S, (A.jx hJ).fb hJ2.fb, B1.jy hJ2, ⟨hO, hy⟩, hT, hGi, hK, hE⟩ (fun t b j ht => (hJ2.fb t b j (by omega)).trans (hF t b j (by omega)))
theorem lw_next (hI : INV h) (hn : N ≤ 3072) (i0 : 0 ≤ i) (i1 : i + 6 ≤ (N : Int)) (hk : ∀ h2, INV h2 → FX h h2 → Rch bL_law (Rn mt (e + 20)) (N + 1) Stop Rt 1562 [some (ar 22 0), some (ar 2 0), some (ar 3 0), some (ar 23 0), some (ai (I i)), u5, u6, u7] [] h2) : Rch bL_law (Rn mt (e + 20)) (N + 1) Stop Rt 568 [some (ar 22 0), some (ar 2 0), some (ar 3 0), some (ar 23 0), some (ai (I i)), u5, u6, u7] [] h := by
  obtain ⟨G, T, Gi, S, A, B, ⟨hO, hy⟩, hT, hGi, hK, hE⟩ := hI
  refine Rch.blk' (Rn_mono mt _) bl_L_law_568 (i_aload_n rfl (i_aload_n rfl (i_iload rfl (i_iconst k_1 (i_iadd (i_iald rfl (by omega) (by simp only [aln]; omega) (by simp only [aln]; omega) (t_cv2 (Rn_mono mt _) 578 rfl (Nat.le_of_ble_eq_true rfl) ?_)))))))
  refine c_X3_next A.1 hO hy hI_R (fun v h1 hv hJ => ?_)
  have hF := hJ.fa
  have e_x : ∀ j, hI h1 22 0 j = hI h 22 0 j := fun j => hF 22 0 j (by omega)
  have B1 := B.fa hF
  refine Rch.blk' (Rn_mono mt _) bl_L_law_578 (i_aload_n rfl (i_aload_n rfl (i_iload rfl (i_iconst k_1 (i_iadd (i_iald rfl (by first | omega | (simp (disch := omega) only [e_x]; omega)) (by simp only [aln]; omega) (by simp only [aln]; omega) (t_cv2 (Rn_mono mt _) 588 rfl (Nat.le_of_ble_eq_true rfl) ?_))))))) <;> (try (simp (disch := omega) only [e_x]))
  refine c_X4_next B1.1 hO hy hI_R (fun w h2 hw hJ2 => ?_)
  obtain rfl : w = v := hw.trans hv.symm
  refine Rch.blk' (Rn_mono mt _) bl_L_law_588 (t_ic_same 1562 rfl ?_)
  exact hk h2 ⟨G, T, Gi, S, (A.jx hJ).fb hJ2.fb, B1.jy hJ2, ⟨hO, hy⟩, hT, hGi, hK, hE⟩ (fun t b j ht => (hJ2.fb t b j (by omega)).trans (hF t b j (by omega)))
theorem lw_heard (hI : INV h) (hn : N ≤ 3072) (i0 : 0 ≤ i) (i1 : i + 6 ≤ (N : Int)) (hk : ∀ h2, INV h2 → FX h h2 → Rch bL_law (Rn mt (e + 20)) (N + 1) Stop Rt 1562 [some (ar 22 0), some (ar 2 0), some (ar 3 0), some (ar 23 0), some (ai (I i)), u5, u6, u7] [] h2) : Rch bL_law (Rn mt (e + 20)) (N + 1) Stop Rt 593 [some (ar 22 0), some (ar 2 0), some (ar 3 0), some (ar 23 0), some (ai (I i)), u5, u6, u7] [] h := by
  obtain ⟨G, T, Gi, S, A, B, ⟨hO, hy⟩, hT, hGi, hK, hE⟩ := hI
  refine Rch.blk' (Rn_mono mt _) bl_L_law_593 (i_aload_n rfl (i_aload_n rfl (i_iload rfl (i_iconst k_1 (i_iadd (i_iald rfl (by omega) (by simp only [aln]; omega) (by simp only [aln]; omega) (t_cv2 (Rn_mono mt _) 603 rfl (Nat.le_of_ble_eq_true rfl) ?_)))))))
  refine c_X3_heard A.1 hO hI_R (fun v h1 hv hJ => ?_)
  have hF := hJ.fa
  have e_x : ∀ j, hI h1 22 0 j = hI h 22 0 j := fun j => hF 22 0 j (by omega)
  have B1 := B.fa hF
  refine Rch.blk' (Rn_mono mt _) bl_L_law_603 (i_aload_n rfl (i_aload_n rfl (i_iload rfl (i_iconst k_1 (i_iadd (i_iald rfl (by first | omega | (simp (disch := omega) only [e_x]; omega)) (by simp only [aln]; omega) (by simp only [aln]; omega) (t_cv2 (Rn_mono mt _) 613 rfl (Nat.le_of_ble_eq_true rfl) ?_))))))) <;> (try (simp (disch := omega) only [e_x]))
  refine c_X4_heard B1.1 hO hI_R (fun w h2 hw hJ2 => ?_)
  obtain rfl : w = v := hw.trans hv.symm
  refine Rch.blk' (Rn_mono mt _) bl_L_law_613 (t_ic_same 1562 rfl ?_)
  exact hk h2 ⟨G, T, Gi, S, (A.jx hJ).fb hJ2.fb, B1.jy hJ2, ⟨hO, hy⟩, hT, hGi, hK, hE⟩ (fun t b j ht => (hJ2.fb t b j (by omega)).trans (hF t b j (by omega)))
theorem lw_danger (hI : INV h) (hn : N ≤ 3072) (i0 : 0 ≤ i) (i1 : i + 6 ≤ (N : Int)) (hk : ∀ h2, INV h2 → FX h h2 → Rch bL_law (Rn mt (e + 20)) (N + 1) Stop Rt 1562 [some (ar 22 0), some (ar 2 0), some (ar 3 0), some (ar 23 0), some (ai (I i)), u5, u6, u7] [] h2) : Rch bL_law (Rn mt (e + 20)) (N + 1) Stop Rt 618 [some (ar 22 0), some (ar 2 0), some (ar 3 0), some (ar 23 0), some (ai (I i)), u5, u6, u7] [] h := by
  obtain ⟨G, T, Gi, S, A, B, ⟨hO, hy⟩, hT, hGi, hK, hE⟩ := hI
  refine Rch.blk' (Rn_mono mt _) bl_L_law_618 (i_aload_n rfl (i_aload_n rfl (i_iload rfl (i_iconst k_1 (i_iadd (i_iald rfl (by omega) (by simp only [aln]; omega) (by simp only [aln]; omega) (t_cv2 (Rn_mono mt _) 628 rfl (Nat.le_of_ble_eq_true rfl) ?_)))))))
  refine c_X3_danger A.1 hO hy hI_R (fun v h1 hv hJ => ?_)
  have hF := hJ.fa
  have e_x : ∀ j, hI h1 22 0 j = hI h 22 0 j := fun j => hF 22 0 j (by omega)
  have B1 := B.fa hF
  refine Rch.blk' (Rn_mono mt _) bl_L_law_628 (i_aload_n rfl (i_aload_n rfl (i_iload rfl (i_iconst k_1 (i_iadd (i_iald rfl (by first | omega | (simp (disch := omega) only [e_x]; omega)) (by simp only [aln]; omega) (by simp only [aln]; omega) (t_cv2 (Rn_mono mt _) 638 rfl (Nat.le_of_ble_eq_true rfl) ?_))))))) <;> (try (simp (disch := omega) only [e_x]))
  refine c_X4_danger B1.1 hO hy hI_R (fun w h2 hw hJ2 => ?_)
  obtain rfl : w = v := hw.trans hv.symm
  refine Rch.blk' (Rn_mono mt _) bl_L_law_638 (t_ic_same 1562 rfl ?_)
  exact hk h2 ⟨G, T, Gi, S, (A.jx hJ).fb hJ2.fb, B1.jy hJ2, ⟨hO, hy⟩, hT, hGi, hK, hE⟩ (fun t b j ht => (hJ2.fb t b j (by omega)).trans (hF t b j (by omega)))
theorem lw_stand (hI : INV h) (hn : N ≤ 3072) (i0 : 0 ≤ i) (i1 : i + 6 ≤ (N : Int)) (hk : ∀ h2, INV h2 → FX h h2 → Rch bL_law (Rn mt (e + 20)) (N + 1) Stop Rt 1562 [some (ar 22 0), some (ar 2 0), some (ar 3 0), some (ar 23 0), some (ai (I i)), u5, u6, u7] [] h2) : Rch bL_law (Rn mt (e + 20)) (N + 1) Stop Rt 643 [some (ar 22 0), some (ar 2 0), some (ar 3 0), some (ar 23 0), some (ai (I i)), u5, u6, u7] [] h := by
  obtain ⟨G, T, Gi, S, A, B, ⟨hO, hy⟩, hT, hGi, hK, hE⟩ := hI
  refine Rch.blk' (Rn_mono mt _) bl_L_law_643 (i_aload_n rfl (i_aload_n rfl (i_iload rfl (i_iconst k_1 (i_iadd (i_iald rfl (by omega) (by simp only [aln]; omega) (by simp only [aln]; omega) (i_aload_n rfl (i_iload rfl (i_iconst k_2 (i_iadd (i_iald rfl (by omega) (by simp only [aln]; omega) (by simp only [aln]; omega) (i_aload_n rfl (i_iload rfl (i_iconst k_3 (i_iadd (i_iald rfl (by omega) (by simp only [aln]; omega) (by simp only [aln]; omega) (t_cv4 (Rn_mono mt _) 665 rfl (Nat.le_of_ble_eq_true rfl) ?_)))))))))))))))))
  refine c_X3_stand A.1 hO hy hI_R hI_R hI_R (fun v h1 hv hJ => ?_)
  have hF := hJ.fa
  have e_x : ∀ j, hI h1 22 0 j = hI h 22 0 j := fun j => hF 22 0 j (by omega)
  have B1 := B.fa hF
  refine Rch.blk' (Rn_mono mt _) bl_L_law_665 (i_aload_n rfl (i_aload_n rfl (i_iload rfl (i_iconst k_1 (i_iadd (i_iald rfl (by first | omega | (simp (disch := omega) only [e_x]; omega)) (by simp only [aln]; omega) (by simp only [aln]; omega) (i_aload_n rfl (i_iload rfl (i_iconst k_2 (i_iadd (i_iald rfl (by first | omega | (simp (disch := omega) only [e_x]; omega)) (by simp only [aln]; omega) (by simp only [aln]; omega) (i_aload_n rfl (i_iload rfl (i_iconst k_3 (i_iadd (i_iald rfl (by first | omega | (simp (disch := omega) only [e_x]; omega)) (by simp only [aln]; omega) (by simp only [aln]; omega) (t_cv4 (Rn_mono mt _) 687 rfl (Nat.le_of_ble_eq_true rfl) ?_))))))))))))))))) <;> (try (simp (disch := omega) only [e_x]))
  refine c_X4_stand B1.1 hO hy hI_R hI_R hI_R (fun w h2 hw hJ2 => ?_)
  obtain rfl : w = v := hw.trans hv.symm
  refine Rch.blk' (Rn_mono mt _) bl_L_law_687 (t_ic_same 1562 rfl ?_)
  exact hk h2 ⟨G, T, Gi, S, (A.jx hJ).fb hJ2.fb, B1.jy hJ2, ⟨hO, hy⟩, hT, hGi, hK, hE⟩ (fun t b j ht => (hJ2.fb t b j (by omega)).trans (hF t b j (by omega)))
theorem lw_off (hI : INV h) (hn : N ≤ 3072) (i0 : 0 ≤ i) (i1 : i + 6 ≤ (N : Int)) (hk : ∀ h2, INV h2 → FX h h2 → Rch bL_law (Rn mt (e + 20)) (N + 1) Stop Rt 1562 [some (ar 22 0), some (ar 2 0), some (ar 3 0), some (ar 23 0), some (ai (I i)), u5, u6, u7] [] h2) : Rch bL_law (Rn mt (e + 20)) (N + 1) Stop Rt 692 [some (ar 22 0), some (ar 2 0), some (ar 3 0), some (ar 23 0), some (ai (I i)), u5, u6, u7] [] h := by
  obtain ⟨G, T, Gi, S, A, B, ⟨hO, hy⟩, hT, hGi, hK, hE⟩ := hI
  refine Rch.blk' (Rn_mono mt _) bl_L_law_692 (i_aload_n rfl (i_aload_n rfl (i_iload rfl (i_iconst k_1 (i_iadd (i_iald rfl (by omega) (by simp only [aln]; omega) (by simp only [aln]; omega) (t_cv2 (Rn_mono mt _) 702 rfl (Nat.le_of_ble_eq_true rfl) ?_)))))))
  refine c_X3_off A.1 hO hy hI_R (fun v h1 hv hJ => ?_)
  have hF := hJ.fa
  have e_x : ∀ j, hI h1 22 0 j = hI h 22 0 j := fun j => hF 22 0 j (by omega)
  have B1 := B.fa hF
  refine Rch.blk' (Rn_mono mt _) bl_L_law_702 (i_aload_n rfl (i_aload_n rfl (i_iload rfl (i_iconst k_1 (i_iadd (i_iald rfl (by first | omega | (simp (disch := omega) only [e_x]; omega)) (by simp only [aln]; omega) (by simp only [aln]; omega) (t_cv2 (Rn_mono mt _) 712 rfl (Nat.le_of_ble_eq_true rfl) ?_))))))) <;> (try (simp (disch := omega) only [e_x]))
  refine c_X4_off B1.1 hO hy hI_R (fun w h2 hw hJ2 => ?_)
  obtain rfl : w = v := hw.trans hv.symm
  refine Rch.blk' (Rn_mono mt _) bl_L_law_712 (t_ic_same 1562 rfl ?_)
  exact hk h2 ⟨G, T, Gi, S, (A.jx hJ).fb hJ2.fb, B1.jy hJ2, ⟨hO, hy⟩, hT, hGi, hK, hE⟩ (fun t b j ht => (hJ2.fb t b j (by omega)).trans (hF t b j (by omega)))
theorem lw_ears (hI : INV h) (hn : N ≤ 3072) (i0 : 0 ≤ i) (i1 : i + 6 ≤ (N : Int)) (hk : ∀ h2, INV h2 → FX h h2 → Rch bL_law (Rn mt (e + 20)) (N + 1) Stop Rt 1562 [some (ar 22 0), some (ar 2 0), some (ar 3 0), some (ar 23 0), some (ai (I i)), u5, u6, u7] [] h2) : Rch bL_law (Rn mt (e + 20)) (N + 1) Stop Rt 717 [some (ar 22 0), some (ar 2 0), some (ar 3 0), some (ar 23 0), some (ai (I i)), u5, u6, u7] [] h := by
  obtain ⟨G, T, Gi, S, A, B, ⟨hO, hy⟩, hT, hGi, hK, hE⟩ := hI
  refine Rch.blk' (Rn_mono mt _) bl_L_law_717 (i_aload_n rfl (i_aload_n rfl (i_iload rfl (i_iconst k_1 (i_iadd (i_iald rfl (by omega) (by simp only [aln]; omega) (by simp only [aln]; omega) (i_aload_n rfl (i_iload rfl (i_iconst k_2 (i_iadd (i_iald rfl (by omega) (by simp only [aln]; omega) (by simp only [aln]; omega) (t_cv3 (Rn_mono mt _) 733 rfl (Nat.le_of_ble_eq_true rfl) ?_))))))))))))
  refine c_X3_ears A.1 hO hI_R hI_R (fun v h1 hv hJ => ?_)
  have hF := hJ.fa
  have e_x : ∀ j, hI h1 22 0 j = hI h 22 0 j := fun j => hF 22 0 j (by omega)
  have B1 := B.fa hF
  refine Rch.blk' (Rn_mono mt _) bl_L_law_733 (i_aload_n rfl (i_aload_n rfl (i_iload rfl (i_iconst k_1 (i_iadd (i_iald rfl (by first | omega | (simp (disch := omega) only [e_x]; omega)) (by simp only [aln]; omega) (by simp only [aln]; omega) (i_aload_n rfl (i_iload rfl (i_iconst k_2 (i_iadd (i_iald rfl (by first | omega | (simp (disch := omega) only [e_x]; omega)) (by simp only [aln]; omega) (by simp only [aln]; omega) (t_cv3 (Rn_mono mt _) 749 rfl (Nat.le_of_ble_eq_true rfl) ?_)))))))))))) <;> (try (simp (disch := omega) only [e_x]))
  refine c_X4_ears B1.1 hO hI_R hI_R (fun w h2 hw hJ2 => ?_)
  obtain rfl : w = v := hw.trans hv.symm
  refine Rch.blk' (Rn_mono mt _) bl_L_law_749 (t_ic_same 1562 rfl ?_)
  exact hk h2 ⟨G, T, Gi, S, (A.jx hJ).fb hJ2.fb, B1.jy hJ2, ⟨hO, hy⟩, hT, hGi, hK, hE⟩ (fun t b j ht => (hJ2.fb t b j (by omega)).trans (hF t b j (by omega)))
theorem lw_side (hI : INV h) (hn : N ≤ 3072) (i0 : 0 ≤ i) (i1 : i + 6 ≤ (N : Int)) (hk : ∀ h2, INV h2 → FX h h2 → Rch bL_law (Rn mt (e + 20)) (N + 1) Stop Rt 1562 [some (ar 22 0), some (ar 2 0), some (ar 3 0), some (ar 23 0), some (ai (I i)), u5, u6, u7] [] h2) : Rch bL_law (Rn mt (e + 20)) (N + 1) Stop Rt 754 [some (ar 22 0), some (ar 2 0), some (ar 3 0), some (ar 23 0), some (ai (I i)), u5, u6, u7] [] h := by
  obtain ⟨G, T, Gi, S, A, B, ⟨hO, hy⟩, hT, hGi, hK, hE⟩ := hI
  refine Rch.blk' (Rn_mono mt _) bl_L_law_754 (i_aload_n rfl (i_aload_n rfl (i_iload rfl (i_iconst k_1 (i_iadd (i_iald rfl (by omega) (by simp only [aln]; omega) (by simp only [aln]; omega) (i_aload_n rfl (i_iload rfl (i_iconst k_2 (i_iadd (i_iald rfl (by omega) (by simp only [aln]; omega) (by simp only [aln]; omega) (t_cv3 (Rn_mono mt _) 770 rfl (Nat.le_of_ble_eq_true rfl) ?_))))))))))))
  refine c_X3_side A.1 hO hI_R hI_R (fun v h1 hv hJ => ?_)
  have hF := hJ.fa
  have e_x : ∀ j, hI h1 22 0 j = hI h 22 0 j := fun j => hF 22 0 j (by omega)
  have B1 := B.fa hF
  refine Rch.blk' (Rn_mono mt _) bl_L_law_770 (i_aload_n rfl (i_aload_n rfl (i_iload rfl (i_iconst k_1 (i_iadd (i_iald rfl (by first | omega | (simp (disch := omega) only [e_x]; omega)) (by simp only [aln]; omega) (by simp only [aln]; omega) (i_aload_n rfl (i_iload rfl (i_iconst k_2 (i_iadd (i_iald rfl (by first | omega | (simp (disch := omega) only [e_x]; omega)) (by simp only [aln]; omega) (by simp only [aln]; omega) (t_cv3 (Rn_mono mt _) 786 rfl (Nat.le_of_ble_eq_true rfl) ?_)))))))))))) <;> (try (simp (disch := omega) only [e_x]))
  refine c_X4_side B1.1 hO hI_R hI_R (fun w h2 hw hJ2 => ?_)
  obtain rfl : w = v := hw.trans hv.symm
  refine Rch.blk' (Rn_mono mt _) bl_L_law_786 (t_ic_same 1562 rfl ?_)
  exact hk h2 ⟨G, T, Gi, S, (A.jx hJ).fb hJ2.fb, B1.jy hJ2, ⟨hO, hy⟩, hT, hGi, hK, hE⟩ (fun t b j ht => (hJ2.fb t b j (by omega)).trans (hF t b j (by omega)))
theorem lw_free (hI : INV h) (hn : N ≤ 3072) (i0 : 0 ≤ i) (i1 : i + 6 ≤ (N : Int)) (hk : ∀ h2, INV h2 → FX h h2 → Rch bL_law (Rn mt (e + 20)) (N + 1) Stop Rt 1562 [some (ar 22 0), some (ar 2 0), some (ar 3 0), some (ar 23 0), some (ai (I i)), u5, u6, u7] [] h2) : Rch bL_law (Rn mt (e + 20)) (N + 1) Stop Rt 791 [some (ar 22 0), some (ar 2 0), some (ar 3 0), some (ar 23 0), some (ai (I i)), u5, u6, u7] [] h := by
  obtain ⟨G, T, Gi, S, A, B, ⟨hO, hy⟩, hT, hGi, hK, hE⟩ := hI
  refine Rch.blk' (Rn_mono mt _) bl_L_law_791 (i_aload_n rfl (i_aload_n rfl (i_iload rfl (i_iconst k_1 (i_iadd (i_iald rfl (by omega) (by simp only [aln]; omega) (by simp only [aln]; omega) (t_cv2 (Rn_mono mt _) 801 rfl (Nat.le_of_ble_eq_true rfl) ?_)))))))
  refine c_X3_free A.1 hO hy hI_R (fun v h1 hv hJ => ?_)
  have hF := hJ.fa
  have e_x : ∀ j, hI h1 22 0 j = hI h 22 0 j := fun j => hF 22 0 j (by omega)
  have B1 := B.fa hF
  refine Rch.blk' (Rn_mono mt _) bl_L_law_801 (i_aload_n rfl (i_aload_n rfl (i_iload rfl (i_iconst k_1 (i_iadd (i_iald rfl (by first | omega | (simp (disch := omega) only [e_x]; omega)) (by simp only [aln]; omega) (by simp only [aln]; omega) (t_cv2 (Rn_mono mt _) 811 rfl (Nat.le_of_ble_eq_true rfl) ?_))))))) <;> (try (simp (disch := omega) only [e_x]))
  refine c_X4_free B1.1 hO hy hI_R (fun w h2 hw hJ2 => ?_)
  obtain rfl : w = v := hw.trans hv.symm
  refine Rch.blk' (Rn_mono mt _) bl_L_law_811 (t_ic_same 1562 rfl ?_)
  exact hk h2 ⟨G, T, Gi, S, (A.jx hJ).fb hJ2.fb, B1.jy hJ2, ⟨hO, hy⟩, hT, hGi, hK, hE⟩ (fun t b j ht => (hJ2.fb t b j (by omega)).trans (hF t b j (by omega)))
theorem lw_whatIs (hI : INV h) (hn : N ≤ 3072) (i0 : 0 ≤ i) (i1 : i + 6 ≤ (N : Int)) (hk : ∀ h2, INV h2 → FX h h2 → Rch bL_law (Rn mt (e + 20)) (N + 1) Stop Rt 1562 [some (ar 22 0), some (ar 2 0), some (ar 3 0), some (ar 23 0), some (ai (I i)), u5, u6, u7] [] h2) : Rch bL_law (Rn mt (e + 20)) (N + 1) Stop Rt 816 [some (ar 22 0), some (ar 2 0), some (ar 3 0), some (ar 23 0), some (ai (I i)), u5, u6, u7] [] h := by
  obtain ⟨G, T, Gi, S, A, B, ⟨hO, hy⟩, hT, hGi, hK, hE⟩ := hI
  refine Rch.blk' (Rn_mono mt _) bl_L_law_816 (i_aload_n rfl (i_aload_n rfl (i_iload rfl (i_iconst k_1 (i_iadd (i_iald rfl (by omega) (by simp only [aln]; omega) (by simp only [aln]; omega) (i_aload_n rfl (i_iload rfl (i_iconst k_2 (i_iadd (i_iald rfl (by omega) (by simp only [aln]; omega) (by simp only [aln]; omega) (i_aload_n rfl (i_iload rfl (i_iconst k_3 (i_iadd (i_iald rfl (by omega) (by simp only [aln]; omega) (by simp only [aln]; omega) (t_cv4 (Rn_mono mt _) 838 rfl (Nat.le_of_ble_eq_true rfl) ?_)))))))))))))))))
  refine c_X3_whatIs A.1 hO hy A.2.2.2 hK hI_R hI_R hI_R (fun v h1 hv hJ => ?_)
  have hF := hJ.fa
  have e_x : ∀ j, hI h1 22 0 j = hI h 22 0 j := fun j => hF 22 0 j (by omega)
  have B1 := B.fa hF
  refine Rch.blk' (Rn_mono mt _) bl_L_law_838 (i_aload_n rfl (i_aload_n rfl (i_iload rfl (i_iconst k_1 (i_iadd (i_iald rfl (by first | omega | (simp (disch := omega) only [e_x]; omega)) (by simp only [aln]; omega) (by simp only [aln]; omega) (i_aload_n rfl (i_iload rfl (i_iconst k_2 (i_iadd (i_iald rfl (by first | omega | (simp (disch := omega) only [e_x]; omega)) (by simp only [aln]; omega) (by simp only [aln]; omega) (i_aload_n rfl (i_iload rfl (i_iconst k_3 (i_iadd (i_iald rfl (by first | omega | (simp (disch := omega) only [e_x]; omega)) (by simp only [aln]; omega) (by simp only [aln]; omega) (t_cv4 (Rn_mono mt _) 860 rfl (Nat.le_of_ble_eq_true rfl) ?_))))))))))))))))) <;> (try (simp (disch := omega) only [e_x]))
  refine c_X4_whatIs B1.1 hO hy B1.2.2.2 hK hI_R hI_R hI_R (fun w h2 hw hJ2 => ?_)
  obtain rfl : w = v := hw.trans hv.symm
  refine Rch.blk' (Rn_mono mt _) bl_L_law_860 (t_ic_same 1562 rfl ?_)
  exact hk h2 ⟨G, T, Gi, S, (A.jx hJ).fb hJ2.fb, B1.jy hJ2, ⟨hO, hy⟩, hT, hGi, hK, hE⟩ (fun t b j ht => (hJ2.fb t b j (by omega)).trans (hF t b j (by omega)))
theorem lw_whereFrom (hI : INV h) (hn : N ≤ 3072) (i0 : 0 ≤ i) (i1 : i + 6 ≤ (N : Int)) (hk : ∀ h2, INV h2 → FX h h2 → Rch bL_law (Rn mt (e + 20)) (N + 1) Stop Rt 1562 [some (ar 22 0), some (ar 2 0), some (ar 3 0), some (ar 23 0), some (ai (I i)), u5, u6, u7] [] h2) : Rch bL_law (Rn mt (e + 20)) (N + 1) Stop Rt 865 [some (ar 22 0), some (ar 2 0), some (ar 3 0), some (ar 23 0), some (ai (I i)), u5, u6, u7] [] h := by
  obtain ⟨G, T, Gi, S, A, B, ⟨hO, hy⟩, hT, hGi, hK, hE⟩ := hI
  refine Rch.blk' (Rn_mono mt _) bl_L_law_865 (i_aload_n rfl (i_aload_n rfl (i_iload rfl (i_iconst k_1 (i_iadd (i_iald rfl (by omega) (by simp only [aln]; omega) (by simp only [aln]; omega) (i_aload_n rfl (i_iload rfl (i_iconst k_2 (i_iadd (i_iald rfl (by omega) (by simp only [aln]; omega) (by simp only [aln]; omega) (i_aload_n rfl (i_iload rfl (i_iconst k_3 (i_iadd (i_iald rfl (by omega) (by simp only [aln]; omega) (by simp only [aln]; omega) (t_cv4 (Rn_mono mt _) 887 rfl (Nat.le_of_ble_eq_true rfl) ?_)))))))))))))))))
  refine c_X3_whereFrom A.1 hO hy A.2.2.2 hK hI_R hI_R hI_R (fun v h1 hv hJ => ?_)
  have hF := hJ.fa
  have e_x : ∀ j, hI h1 22 0 j = hI h 22 0 j := fun j => hF 22 0 j (by omega)
  have B1 := B.fa hF
  refine Rch.blk' (Rn_mono mt _) bl_L_law_887 (i_aload_n rfl (i_aload_n rfl (i_iload rfl (i_iconst k_1 (i_iadd (i_iald rfl (by first | omega | (simp (disch := omega) only [e_x]; omega)) (by simp only [aln]; omega) (by simp only [aln]; omega) (i_aload_n rfl (i_iload rfl (i_iconst k_2 (i_iadd (i_iald rfl (by first | omega | (simp (disch := omega) only [e_x]; omega)) (by simp only [aln]; omega) (by simp only [aln]; omega) (i_aload_n rfl (i_iload rfl (i_iconst k_3 (i_iadd (i_iald rfl (by first | omega | (simp (disch := omega) only [e_x]; omega)) (by simp only [aln]; omega) (by simp only [aln]; omega) (t_cv4 (Rn_mono mt _) 909 rfl (Nat.le_of_ble_eq_true rfl) ?_))))))))))))))))) <;> (try (simp (disch := omega) only [e_x]))
  refine c_X4_whereFrom B1.1 hO hy B1.2.2.2 hK hI_R hI_R hI_R (fun w h2 hw hJ2 => ?_)
  obtain rfl : w = v := hw.trans hv.symm
  refine Rch.blk' (Rn_mono mt _) bl_L_law_909 (t_ic_same 1562 rfl ?_)
  exact hk h2 ⟨G, T, Gi, S, (A.jx hJ).fb hJ2.fb, B1.jy hJ2, ⟨hO, hy⟩, hT, hGi, hK, hE⟩ (fun t b j ht => (hJ2.fb t b j (by omega)).trans (hF t b j (by omega)))
theorem lw_two (hI : INV h) (hn : N ≤ 3072) (i0 : 0 ≤ i) (i1 : i + 6 ≤ (N : Int)) (hk : ∀ h2, INV h2 → FX h h2 → Rch bL_law (Rn mt (e + 20)) (N + 1) Stop Rt 1562 [some (ar 22 0), some (ar 2 0), some (ar 3 0), some (ar 23 0), some (ai (I i)), u5, u6, u7] [] h2) : Rch bL_law (Rn mt (e + 20)) (N + 1) Stop Rt 914 [some (ar 22 0), some (ar 2 0), some (ar 3 0), some (ar 23 0), some (ai (I i)), u5, u6, u7] [] h := by
  obtain ⟨G, T, Gi, S, A, B, ⟨hO, hy⟩, hT, hGi, hK, hE⟩ := hI
  refine Rch.blk' (Rn_mono mt _) bl_L_law_914 (i_aload_n rfl (i_aload_n rfl (i_iload rfl (i_iconst k_1 (i_iadd (i_iald rfl (by omega) (by simp only [aln]; omega) (by simp only [aln]; omega) (i_aload_n rfl (i_iload rfl (i_iconst k_2 (i_iadd (i_iald rfl (by omega) (by simp only [aln]; omega) (by simp only [aln]; omega) (i_aload_n rfl (i_iload rfl (i_iconst k_3 (i_iadd (i_iald rfl (by omega) (by simp only [aln]; omega) (by simp only [aln]; omega) (t_cv4 (Rn_mono mt _) 936 rfl (Nat.le_of_ble_eq_true rfl) ?_)))))))))))))))))
  refine c_X3_two A.1 hO hy hI_R hI_R hI_R (fun v h1 hv hJ => ?_)
  have hF := hJ.fa
  have e_x : ∀ j, hI h1 22 0 j = hI h 22 0 j := fun j => hF 22 0 j (by omega)
  have B1 := B.fa hF
  refine Rch.blk' (Rn_mono mt _) bl_L_law_936 (i_aload_n rfl (i_aload_n rfl (i_iload rfl (i_iconst k_1 (i_iadd (i_iald rfl (by first | omega | (simp (disch := omega) only [e_x]; omega)) (by simp only [aln]; omega) (by simp only [aln]; omega) (i_aload_n rfl (i_iload rfl (i_iconst k_2 (i_iadd (i_iald rfl (by first | omega | (simp (disch := omega) only [e_x]; omega)) (by simp only [aln]; omega) (by simp only [aln]; omega) (i_aload_n rfl (i_iload rfl (i_iconst k_3 (i_iadd (i_iald rfl (by first | omega | (simp (disch := omega) only [e_x]; omega)) (by simp only [aln]; omega) (by simp only [aln]; omega) (t_cv4 (Rn_mono mt _) 958 rfl (Nat.le_of_ble_eq_true rfl) ?_))))))))))))))))) <;> (try (simp (disch := omega) only [e_x]))
  refine c_X4_two B1.1 hO hy hI_R hI_R hI_R (fun w h2 hw hJ2 => ?_)
  obtain rfl : w = v := hw.trans hv.symm
  refine Rch.blk' (Rn_mono mt _) bl_L_law_958 (t_ic_same 1562 rfl ?_)
  exact hk h2 ⟨G, T, Gi, S, (A.jx hJ).fb hJ2.fb, B1.jy hJ2, ⟨hO, hy⟩, hT, hGi, hK, hE⟩ (fun t b j ht => (hJ2.fb t b j (by omega)).trans (hF t b j (by omega)))
theorem lw_rain (hI : INV h) (hn : N ≤ 3072) (i0 : 0 ≤ i) (i1 : i + 6 ≤ (N : Int)) (hk : ∀ h2, INV h2 → FX h h2 → Rch bL_law (Rn mt (e + 20)) (N + 1) Stop Rt 1562 [some (ar 22 0), some (ar 2 0), some (ar 3 0), some (ar 23 0), some (ai (I i)), u5, u6, u7] [] h2) : Rch bL_law (Rn mt (e + 20)) (N + 1) Stop Rt 963 [some (ar 22 0), some (ar 2 0), some (ar 3 0), some (ar 23 0), some (ai (I i)), u5, u6, u7] [] h := by
  obtain ⟨G, T, Gi, S, A, B, ⟨hO, hy⟩, hT, hGi, hK, hE⟩ := hI
  refine Rch.blk' (Rn_mono mt _) bl_L_law_963 (i_aload_n rfl (i_aload_n rfl (i_iload rfl (i_iconst k_1 (i_iadd (i_iald rfl (by omega) (by simp only [aln]; omega) (by simp only [aln]; omega) (i_aload_n rfl (i_iload rfl (i_iconst k_2 (i_iadd (i_iald rfl (by omega) (by simp only [aln]; omega) (by simp only [aln]; omega) (i_aload_n rfl (i_iload rfl (i_iconst k_3 (i_iadd (i_iald rfl (by omega) (by simp only [aln]; omega) (by simp only [aln]; omega) (i_aload_n rfl (i_iload rfl (i_iconst k_4 (i_iadd (i_iald rfl (by omega) (by simp only [aln]; omega) (by simp only [aln]; omega) (t_cv5 (Rn_mono mt _) 991 rfl (Nat.le_of_ble_eq_true rfl) ?_))))))))))))))))))))))
  refine c_X3_rain A.1 hO hy hI_R hI_R hI_R hI_R (fun v h1 hv hJ => ?_)
  have hF := hJ.fa
  have e_x : ∀ j, hI h1 22 0 j = hI h 22 0 j := fun j => hF 22 0 j (by omega)
  have B1 := B.fa hF
  refine Rch.blk' (Rn_mono mt _) bl_L_law_991 (i_aload_n rfl (i_aload_n rfl (i_iload rfl (i_iconst k_1 (i_iadd (i_iald rfl (by first | omega | (simp (disch := omega) only [e_x]; omega)) (by simp only [aln]; omega) (by simp only [aln]; omega) (i_aload_n rfl (i_iload rfl (i_iconst k_2 (i_iadd (i_iald rfl (by first | omega | (simp (disch := omega) only [e_x]; omega)) (by simp only [aln]; omega) (by simp only [aln]; omega) (i_aload_n rfl (i_iload rfl (i_iconst k_3 (i_iadd (i_iald rfl (by first | omega | (simp (disch := omega) only [e_x]; omega)) (by simp only [aln]; omega) (by simp only [aln]; omega) (i_aload_n rfl (i_iload rfl (i_iconst k_4 (i_iadd (i_iald rfl (by first | omega | (simp (disch := omega) only [e_x]; omega)) (by simp only [aln]; omega) (by simp only [aln]; omega) (t_cv5 (Rn_mono mt _) 1019 rfl (Nat.le_of_ble_eq_true rfl) ?_)))))))))))))))))))))) <;> (try (simp (disch := omega) only [e_x]))
  refine c_X4_rain B1.1 hO hy hI_R hI_R hI_R hI_R (fun w h2 hw hJ2 => ?_)
  obtain rfl : w = v := hw.trans hv.symm
  refine Rch.blk' (Rn_mono mt _) bl_L_law_1019 (t_lc_same 1562 rfl rfl ?_)
  exact hk h2 ⟨G, T, Gi, S, (A.jx hJ).fb hJ2.fb, B1.jy hJ2, ⟨hO, hy⟩, hT, hGi, hK, hE⟩ (fun t b j ht => (hJ2.fb t b j (by omega)).trans (hF t b j (by omega)))
theorem lw_share (hI : INV h) (hn : N ≤ 3072) (i0 : 0 ≤ i) (i1 : i + 6 ≤ (N : Int)) (hk : ∀ h2, INV h2 → FX h h2 → Rch bL_law (Rn mt (e + 20)) (N + 1) Stop Rt 1562 [some (ar 22 0), some (ar 2 0), some (ar 3 0), some (ar 23 0), some (ai (I i)), u5, u6, u7] [] h2) : Rch bL_law (Rn mt (e + 20)) (N + 1) Stop Rt 1025 [some (ar 22 0), some (ar 2 0), some (ar 3 0), some (ar 23 0), some (ai (I i)), u5, u6, u7] [] h := by
  obtain ⟨G, T, Gi, S, A, B, ⟨hO, hy⟩, hT, hGi, hK, hE⟩ := hI
  refine Rch.blk' (Rn_mono mt _) bl_L_law_1025 (i_aload_n rfl (i_aload_n rfl (i_iload rfl (i_iconst k_1 (i_iadd (i_iald rfl (by omega) (by simp only [aln]; omega) (by simp only [aln]; omega) (i_aload_n rfl (i_iload rfl (i_iconst k_2 (i_iadd (i_iald rfl (by omega) (by simp only [aln]; omega) (by simp only [aln]; omega) (t_cv3 (Rn_mono mt _) 1041 rfl (Nat.le_of_ble_eq_true rfl) ?_))))))))))))
  refine c_X3_share A.1 hO hI_R hI_R (fun v h1 hv hJ => ?_)
  have hF := hJ.fa
  have e_x : ∀ j, hI h1 22 0 j = hI h 22 0 j := fun j => hF 22 0 j (by omega)
  have B1 := B.fa hF
  refine Rch.blk' (Rn_mono mt _) bl_L_law_1041 (i_aload_n rfl (i_aload_n rfl (i_iload rfl (i_iconst k_1 (i_iadd (i_iald rfl (by first | omega | (simp (disch := omega) only [e_x]; omega)) (by simp only [aln]; omega) (by simp only [aln]; omega) (i_aload_n rfl (i_iload rfl (i_iconst k_2 (i_iadd (i_iald rfl (by first | omega | (simp (disch := omega) only [e_x]; omega)) (by simp only [aln]; omega) (by simp only [aln]; omega) (t_cv3 (Rn_mono mt _) 1057 rfl (Nat.le_of_ble_eq_true rfl) ?_)))))))))))) <;> (try (simp (disch := omega) only [e_x]))
  refine c_X4_share B1.1 hO hI_R hI_R (fun w h2 hw hJ2 => ?_)
  obtain rfl : w = v := hw.trans hv.symm
  refine Rch.blk' (Rn_mono mt _) bl_L_law_1057 (t_lc_same 1562 rfl rfl ?_)
  exact hk h2 ⟨G, T, Gi, S, (A.jx hJ).fb hJ2.fb, B1.jy hJ2, ⟨hO, hy⟩, hT, hGi, hK, hE⟩ (fun t b j ht => (hJ2.fb t b j (by omega)).trans (hF t b j (by omega)))
theorem lw_forged (hI : INV h) (hn : N ≤ 3072) (i0 : 0 ≤ i) (i1 : i + 6 ≤ (N : Int)) (hk : ∀ h2, INV h2 → FX h h2 → Rch bL_law (Rn mt (e + 20)) (N + 1) Stop Rt 1562 [some (ar 22 0), some (ar 2 0), some (ar 3 0), some (ar 23 0), some (ai (I i)), u5, u6, u7] [] h2) : Rch bL_law (Rn mt (e + 20)) (N + 1) Stop Rt 1063 [some (ar 22 0), some (ar 2 0), some (ar 3 0), some (ar 23 0), some (ai (I i)), u5, u6, u7] [] h := by
  obtain ⟨G, T, Gi, S, A, B, ⟨hO, hy⟩, hT, hGi, hK, hE⟩ := hI
  refine Rch.blk' (Rn_mono mt _) bl_L_law_1063 (i_aload_n rfl (i_aload_n rfl (i_iload rfl (i_iconst k_1 (i_iadd (i_iald rfl (by omega) (by simp only [aln]; omega) (by simp only [aln]; omega) (t_cv2 (Rn_mono mt _) 1073 rfl (Nat.le_of_ble_eq_true rfl) ?_)))))))
  refine c_X3_forged A.1 hO A.2.2.2 hK hI_R (fun v h1 hv hJ => ?_)
  have hF := hJ.fa
  have e_x : ∀ j, hI h1 22 0 j = hI h 22 0 j := fun j => hF 22 0 j (by omega)
  have B1 := B.fa hF
  refine Rch.blk' (Rn_mono mt _) bl_L_law_1073 (i_aload_n rfl (i_aload_n rfl (i_iload rfl (i_iconst k_1 (i_iadd (i_iald rfl (by first | omega | (simp (disch := omega) only [e_x]; omega)) (by simp only [aln]; omega) (by simp only [aln]; omega) (t_cv2 (Rn_mono mt _) 1083 rfl (Nat.le_of_ble_eq_true rfl) ?_))))))) <;> (try (simp (disch := omega) only [e_x]))
  refine c_X4_forged B1.1 hO B1.2.2.2 hK hI_R (fun w h2 hw hJ2 => ?_)
  obtain rfl : w = v := hw.trans hv.symm
  refine Rch.blk' (Rn_mono mt _) bl_L_law_1083 (t_ic_same 1562 rfl ?_)
  exact hk h2 ⟨G, T, Gi, S, (A.jx hJ).fb hJ2.fb, B1.jy hJ2, ⟨hO, hy⟩, hT, hGi, hK, hE⟩ (fun t b j ht => (hJ2.fb t b j (by omega)).trans (hF t b j (by omega)))
theorem lw_judge (hI : INV h) (hn : N ≤ 3072) (i0 : 0 ≤ i) (i1 : i + 6 ≤ (N : Int)) (hk : ∀ h2, INV h2 → FX h h2 → Rch bL_law (Rn mt (e + 20)) (N + 1) Stop Rt 1562 [some (ar 22 0), some (ar 2 0), some (ar 3 0), some (ar 23 0), some (ai (I i)), u5, u6, u7] [] h2) : Rch bL_law (Rn mt (e + 20)) (N + 1) Stop Rt 1088 [some (ar 22 0), some (ar 2 0), some (ar 3 0), some (ar 23 0), some (ai (I i)), u5, u6, u7] [] h := by
  obtain ⟨G, T, Gi, S, A, B, ⟨hO, hy⟩, hT, hGi, hK, hE⟩ := hI
  refine Rch.blk' (Rn_mono mt _) bl_L_law_1088 (i_aload_n rfl (i_aload_n rfl (i_iload rfl (i_iconst k_1 (i_iadd (i_iald rfl (by omega) (by simp only [aln]; omega) (by simp only [aln]; omega) (t_cv2 (Rn_mono mt _) 1098 rfl (Nat.le_of_ble_eq_true rfl) ?_)))))))
  refine c_X3_judge A.1 hO hy A.2.2.2 hK hI_R (fun v h1 hv hJ => ?_)
  have hF := hJ.fa
  have e_x : ∀ j, hI h1 22 0 j = hI h 22 0 j := fun j => hF 22 0 j (by omega)
  have B1 := B.fa hF
  refine Rch.blk' (Rn_mono mt _) bl_L_law_1098 (i_aload_n rfl (i_aload_n rfl (i_iload rfl (i_iconst k_1 (i_iadd (i_iald rfl (by first | omega | (simp (disch := omega) only [e_x]; omega)) (by simp only [aln]; omega) (by simp only [aln]; omega) (t_cv2 (Rn_mono mt _) 1108 rfl (Nat.le_of_ble_eq_true rfl) ?_))))))) <;> (try (simp (disch := omega) only [e_x]))
  refine c_X4_judge B1.1 hO hy B1.2.2.2 hK hI_R (fun w h2 hw hJ2 => ?_)
  obtain rfl : w = v := hw.trans hv.symm
  refine Rch.blk' (Rn_mono mt _) bl_L_law_1108 (t_ic_same 1562 rfl ?_)
  exact hk h2 ⟨G, T, Gi, S, (A.jx hJ).fb hJ2.fb, B1.jy hJ2, ⟨hO, hy⟩, hT, hGi, hK, hE⟩ (fun t b j ht => (hJ2.fb t b j (by omega)).trans (hF t b j (by omega)))
theorem lw_games (hI : INV h) (hn : N ≤ 3072) (i0 : 0 ≤ i) (i1 : i + 6 ≤ (N : Int)) (hk : ∀ h2, INV h2 → FX h h2 → Rch bL_law (Rn mt (e + 20)) (N + 1) Stop Rt 1562 [some (ar 22 0), some (ar 2 0), some (ar 3 0), some (ar 23 0), some (ai (I i)), u5, u6, u7] [] h2) : Rch bL_law (Rn mt (e + 20)) (N + 1) Stop Rt 1113 [some (ar 22 0), some (ar 2 0), some (ar 3 0), some (ar 23 0), some (ai (I i)), u5, u6, u7] [] h := by
  obtain ⟨G, T, Gi, S, A, B, ⟨hO, hy⟩, hT, hGi, hK, hE⟩ := hI
  refine Rch.blk' (Rn_mono mt _) bl_L_law_1113 (i_aload_n rfl (i_aload_n rfl (i_iload rfl (i_iconst k_1 (i_iadd (i_iald rfl (by omega) (by simp only [aln]; omega) (by simp only [aln]; omega) (i_aload_n rfl (i_iload rfl (i_iconst k_2 (i_iadd (i_iald rfl (by omega) (by simp only [aln]; omega) (by simp only [aln]; omega) (i_aload_n rfl (i_iload rfl (i_iconst k_3 (i_iadd (i_iald rfl (by omega) (by simp only [aln]; omega) (by simp only [aln]; omega) (t_cv4 (Rn_mono mt _) 1135 rfl (Nat.le_of_ble_eq_true rfl) ?_)))))))))))))))))
  refine c_X3_games A.1 hO hy hI_R hI_R hI_R (fun v h1 hv hJ => ?_)
  have hF := hJ.fa
  have e_x : ∀ j, hI h1 22 0 j = hI h 22 0 j := fun j => hF 22 0 j (by omega)
  have B1 := B.fa hF
  refine Rch.blk' (Rn_mono mt _) bl_L_law_1135 (i_aload_n rfl (i_aload_n rfl (i_iload rfl (i_iconst k_1 (i_iadd (i_iald rfl (by first | omega | (simp (disch := omega) only [e_x]; omega)) (by simp only [aln]; omega) (by simp only [aln]; omega) (i_aload_n rfl (i_iload rfl (i_iconst k_2 (i_iadd (i_iald rfl (by first | omega | (simp (disch := omega) only [e_x]; omega)) (by simp only [aln]; omega) (by simp only [aln]; omega) (i_aload_n rfl (i_iload rfl (i_iconst k_3 (i_iadd (i_iald rfl (by first | omega | (simp (disch := omega) only [e_x]; omega)) (by simp only [aln]; omega) (by simp only [aln]; omega) (t_cv4 (Rn_mono mt _) 1157 rfl (Nat.le_of_ble_eq_true rfl) ?_))))))))))))))))) <;> (try (simp (disch := omega) only [e_x]))
  refine c_X4_games B1.1 hO hy hI_R hI_R hI_R (fun w h2 hw hJ2 => ?_)
  obtain rfl : w = v := hw.trans hv.symm
  refine Rch.blk' (Rn_mono mt _) bl_L_law_1157 (t_ic_same 1562 rfl ?_)
  exact hk h2 ⟨G, T, Gi, S, (A.jx hJ).fb hJ2.fb, B1.jy hJ2, ⟨hO, hy⟩, hT, hGi, hK, hE⟩ (fun t b j ht => (hJ2.fb t b j (by omega)).trans (hF t b j (by omega)))
theorem lw_image (hI : INV h) (hn : N ≤ 3072) (i0 : 0 ≤ i) (i1 : i + 6 ≤ (N : Int)) (hk : ∀ h2, INV h2 → FX h h2 → Rch bL_law (Rn mt (e + 20)) (N + 1) Stop Rt 1562 [some (ar 22 0), some (ar 2 0), some (ar 3 0), some (ar 23 0), some (ai (I i)), u5, u6, u7] [] h2) : Rch bL_law (Rn mt (e + 20)) (N + 1) Stop Rt 1162 [some (ar 22 0), some (ar 2 0), some (ar 3 0), some (ar 23 0), some (ai (I i)), u5, u6, u7] [] h := by
  obtain ⟨G, T, Gi, S, A, B, ⟨hO, hy⟩, hT, hGi, hK, hE⟩ := hI
  refine Rch.blk' (Rn_mono mt _) bl_L_law_1162 (i_aload_n rfl (t_cv1 (Rn_mono mt _) 1166 rfl (Nat.le_of_ble_eq_true rfl) ?_))
  refine c_X3_image A hO (fun h1 A1 hF => ?_)
  have B1 := B.fa hF
  refine Rch.blk' (Rn_mono mt _) bl_L_law_1166 (i_aload_n rfl (t_cv1 (Rn_mono mt _) 1170 rfl (Nat.le_of_ble_eq_true rfl) ?_))
  refine c_X4_image B1 hO (fun h2 B2 hF2 => ?_)
  refine Rch.blk' (Rn_mono mt _) bl_L_law_1170 (t_ic_same 1562 rfl ?_)
  exact hk h2 ⟨G, 1, G, S, A1.fb hF2, B2, ⟨hO, hy⟩, Or.inr rfl, fun _ => ⟨hO, hy⟩, hK, hE⟩ (fun t b j ht => (hF2 t b j (by omega)).trans (hF t b j (by omega)))
theorem lw_restore (hI : INV h) (hn : N ≤ 3072) (i0 : 0 ≤ i) (i1 : i + 6 ≤ (N : Int)) (hk : ∀ h2, INV h2 → FX h h2 → Rch bL_law (Rn mt (e + 20)) (N + 1) Stop Rt 1562 [some (ar 22 0), some (ar 2 0), some (ar 3 0), some (ar 23 0), some (ai (I i)), u5, u6, u7] [] h2) : Rch bL_law (Rn mt (e + 20)) (N + 1) Stop Rt 1175 [some (ar 22 0), some (ar 2 0), some (ar 3 0), some (ar 23 0), some (ai (I i)), u5, u6, u7] [] h := by
  obtain ⟨G, T, Gi, S, A, B, ⟨hO, hy⟩, hT, hGi, hK, hE⟩ := hI
  refine Rch.blk' (Rn_mono mt _) bl_L_law_1175 (i_aload_n rfl (t_cv1 (Rn_mono mt _) 1179 rfl (Nat.le_of_ble_eq_true rfl) ?_))
  refine c_X3_restore A hT (fun z => (hGi z).1) (fun v G1 h1 hv A1 hF => ?_)
  have B1 := B.fa hF
  refine Rch.blk' (Rn_mono mt _) bl_L_law_1179 (i_aload_n rfl (t_cv1 (Rn_mono mt _) 1183 rfl (Nat.le_of_ble_eq_true rfl) ?_))
  refine c_X4_restore B1 hT (fun z => (hGi z).1) (fun w G2 h2 hw B2 hF2 => ?_)
  obtain ⟨rfl, rfl⟩ := pair_inj (hw.symm.trans hv)
  have hok : OKB G2 ∧ dy G2 ≤ 999 := by
    unfold oRestore at hv
    split at hv
    · rename_i z; cases hv; exact hGi z
    · cases hv; exact ⟨hO, hy⟩
  refine Rch.blk' (Rn_mono mt _) bl_L_law_1183 (t_ic_same 1562 rfl ?_)
  exact hk h2 ⟨_, T, Gi, S, A1.fb hF2, B2, hok, hT, hGi, hK, hE⟩ (fun t b j ht => (hF2 t b j (by omega)).trans (hF t b j (by omega)))
theorem lw_count (hI : INV h) (hn : N ≤ 3072) (i0 : 0 ≤ i) (i1 : i + 6 ≤ (N : Int)) (hk : ∀ h2, INV h2 → FX h h2 → Rch bL_law (Rn mt (e + 20)) (N + 1) Stop Rt 1562 [some (ar 22 0), some (ar 2 0), some (ar 3 0), some (ar 23 0), some (ai (I i)), u5, u6, u7] [] h2) : Rch bL_law (Rn mt (e + 20)) (N + 1) Stop Rt 1188 [some (ar 22 0), some (ar 2 0), some (ar 3 0), some (ar 23 0), some (ai (I i)), u5, u6, u7] [] h := by
  obtain ⟨G, T, Gi, S, A, B, ⟨hO, hy⟩, hT, hGi, hK, hE⟩ := hI
  refine Rch.blk' (Rn_mono mt _) bl_L_law_1188 (i_aload_n rfl (i_aload_n rfl (i_iload rfl (i_iconst k_1 (i_iadd (i_iald rfl (by omega) (by simp only [aln]; omega) (by simp only [aln]; omega) (t_cv2 (Rn_mono mt _) 1198 rfl (Nat.le_of_ble_eq_true rfl) ?_)))))))
  refine c_X3_count A.1 hO hI_R (fun v h1 hv hJ => ?_)
  have hF := hJ.fa
  have e_x : ∀ j, hI h1 22 0 j = hI h 22 0 j := fun j => hF 22 0 j (by omega)
  have B1 := B.fa hF
  refine Rch.blk' (Rn_mono mt _) bl_L_law_1198 (i_aload_n rfl (i_aload_n rfl (i_iload rfl (i_iconst k_1 (i_iadd (i_iald rfl (by first | omega | (simp (disch := omega) only [e_x]; omega)) (by simp only [aln]; omega) (by simp only [aln]; omega) (t_cv2 (Rn_mono mt _) 1208 rfl (Nat.le_of_ble_eq_true rfl) ?_))))))) <;> (try (simp (disch := omega) only [e_x]))
  refine c_X4_count B1.1 hO hI_R (fun w h2 hw hJ2 => ?_)
  obtain rfl : w = v := hw.trans hv.symm
  refine Rch.blk' (Rn_mono mt _) bl_L_law_1208 (t_ic_same 1562 rfl ?_)
  exact hk h2 ⟨G, T, Gi, S, (A.jx hJ).fb hJ2.fb, B1.jy hJ2, ⟨hO, hy⟩, hT, hGi, hK, hE⟩ (fun t b j ht => (hJ2.fb t b j (by omega)).trans (hF t b j (by omega)))
theorem lw_keep (hI : INV h) (hn : N ≤ 3072) (i0 : 0 ≤ i) (i1 : i + 6 ≤ (N : Int)) (hk : ∀ h2, INV h2 → FX h h2 → Rch bL_law (Rn mt (e + 20)) (N + 1) Stop Rt 1562 [some (ar 22 0), some (ar 2 0), some (ar 3 0), some (ar 23 0), some (ai (I i)), u5, u6, u7] [] h2) : Rch bL_law (Rn mt (e + 20)) (N + 1) Stop Rt 1213 [some (ar 22 0), some (ar 2 0), some (ar 3 0), some (ar 23 0), some (ai (I i)), u5, u6, u7] [] h := by
  obtain ⟨G, T, Gi, S, A, B, ⟨hO, hy⟩, hT, hGi, hK, hE⟩ := hI
  refine Rch.blk' (Rn_mono mt _) bl_L_law_1213 (i_aload_n rfl (i_aload_n rfl (i_iload rfl (i_iconst k_1 (i_iadd (i_iald rfl (by omega) (by simp only [aln]; omega) (by simp only [aln]; omega) (i_aload_n rfl (i_iload rfl (i_iconst k_2 (i_iadd (i_iald rfl (by omega) (by simp only [aln]; omega) (by simp only [aln]; omega) (i_aload_n rfl (i_iload rfl (i_iconst k_3 (i_iadd (i_iald rfl (by omega) (by simp only [aln]; omega) (by simp only [aln]; omega) (i_aload_n rfl (i_iload rfl (i_iconst k_4 (i_iadd (i_iald rfl (by omega) (by simp only [aln]; omega) (by simp only [aln]; omega) (t_cv5 (Rn_mono mt _) 1241 rfl (Nat.le_of_ble_eq_true rfl) ?_))))))))))))))))))))))
  refine c_X3_keep A.2.2.2 hI_R hI_R hI_R hI_R (fun v S1 h1 hv hR hC => ?_)
  have hF := hC.fa
  have e_x : ∀ j, hI h1 22 0 j = hI h 22 0 j := fun j => hF 22 0 j (by omega)
  have B1 := B.fa hF
  refine Rch.blk' (Rn_mono mt _) bl_L_law_1241 (i_aload_n rfl (i_aload_n rfl (i_iload rfl (i_iconst k_1 (i_iadd (i_iald rfl (by first | omega | (simp (disch := omega) only [e_x]; omega)) (by simp only [aln]; omega) (by simp only [aln]; omega) (i_aload_n rfl (i_iload rfl (i_iconst k_2 (i_iadd (i_iald rfl (by first | omega | (simp (disch := omega) only [e_x]; omega)) (by simp only [aln]; omega) (by simp only [aln]; omega) (i_aload_n rfl (i_iload rfl (i_iconst k_3 (i_iadd (i_iald rfl (by first | omega | (simp (disch := omega) only [e_x]; omega)) (by simp only [aln]; omega) (by simp only [aln]; omega) (i_aload_n rfl (i_iload rfl (i_iconst k_4 (i_iadd (i_iald rfl (by first | omega | (simp (disch := omega) only [e_x]; omega)) (by simp only [aln]; omega) (by simp only [aln]; omega) (t_cv5 (Rn_mono mt _) 1269 rfl (Nat.le_of_ble_eq_true rfl) ?_)))))))))))))))))))))) <;> (try (simp (disch := omega) only [e_x]))
  refine c_X4_keep B1.2.2.2 hI_R hI_R hI_R hI_R (fun w S2 h2 hw hR2 hC2 => ?_)
  obtain ⟨rfl, rfl⟩ := pair_inj (hw.symm.trans hv)
  refine Rch.blk' (Rn_mono mt _) bl_L_law_1269 (t_ic_same 1562 rfl ?_)
  exact hk h2 ⟨G, T, Gi, _, (A.shf hR hC).fb hC2.fb, B1.shf hR2 hC2, ⟨hO, hy⟩, hT, hGi, OKS_keep hK hv, OKE_keep hE hv⟩ (fun t b j ht => (hC2.fb t b j (by omega)).trans (hF t b j (by omega)))
theorem lw_row (hI : INV h) (hn : N ≤ 3072) (i0 : 0 ≤ i) (i1 : i + 6 ≤ (N : Int)) (hk : ∀ h2, INV h2 → FX h h2 → Rch bL_law (Rn mt (e + 20)) (N + 1) Stop Rt 1562 [some (ar 22 0), some (ar 2 0), some (ar 3 0), some (ar 23 0), some (ai (I i)), u5, u6, u7] [] h2) : Rch bL_law (Rn mt (e + 20)) (N + 1) Stop Rt 1274 [some (ar 22 0), some (ar 2 0), some (ar 3 0), some (ar 23 0), some (ai (I i)), u5, u6, u7] [] h := by
  obtain ⟨G, T, Gi, S, A, B, ⟨hO, hy⟩, hT, hGi, hK, hE⟩ := hI
  refine Rch.blk' (Rn_mono mt _) bl_L_law_1274 (i_aload_n rfl (i_aload_n rfl (i_iload rfl (i_iconst k_1 (i_iadd (i_iald rfl (by omega) (by simp only [aln]; omega) (by simp only [aln]; omega) (i_aload_n rfl (i_iload rfl (i_iconst k_2 (i_iadd (i_iald rfl (by omega) (by simp only [aln]; omega) (by simp only [aln]; omega) (i_aload_n rfl (i_iload rfl (i_iconst k_3 (i_iadd (i_iald rfl (by omega) (by simp only [aln]; omega) (by simp only [aln]; omega) (t_cv4 (Rn_mono mt _) 1296 rfl (Nat.le_of_ble_eq_true rfl) ?_)))))))))))))))))
  refine c_X3_row A.2.2.2 hI_R hI_R hI_R (fun v S1 h1 hv hR hC => ?_)
  have hF := hC.fa
  have e_x : ∀ j, hI h1 22 0 j = hI h 22 0 j := fun j => hF 22 0 j (by omega)
  have B1 := B.fa hF
  refine Rch.blk' (Rn_mono mt _) bl_L_law_1296 (i_aload_n rfl (i_aload_n rfl (i_iload rfl (i_iconst k_1 (i_iadd (i_iald rfl (by first | omega | (simp (disch := omega) only [e_x]; omega)) (by simp only [aln]; omega) (by simp only [aln]; omega) (i_aload_n rfl (i_iload rfl (i_iconst k_2 (i_iadd (i_iald rfl (by first | omega | (simp (disch := omega) only [e_x]; omega)) (by simp only [aln]; omega) (by simp only [aln]; omega) (i_aload_n rfl (i_iload rfl (i_iconst k_3 (i_iadd (i_iald rfl (by first | omega | (simp (disch := omega) only [e_x]; omega)) (by simp only [aln]; omega) (by simp only [aln]; omega) (t_cv4 (Rn_mono mt _) 1318 rfl (Nat.le_of_ble_eq_true rfl) ?_))))))))))))))))) <;> (try (simp (disch := omega) only [e_x]))
  refine c_X4_row B1.2.2.2 hI_R hI_R hI_R (fun w S2 h2 hw hR2 hC2 => ?_)
  obtain ⟨rfl, rfl⟩ := pair_inj (hw.symm.trans hv)
  refine Rch.blk' (Rn_mono mt _) bl_L_law_1318 (t_ic_same 1562 rfl ?_)
  exact hk h2 ⟨G, T, Gi, _, (A.shf hR hC).fb hC2.fb, B1.shf hR2 hC2, ⟨hO, hy⟩, hT, hGi, OKS_row hK hv, OKE_row hE hv⟩ (fun t b j ht => (hC2.fb t b j (by omega)).trans (hF t b j (by omega)))
theorem lw_put (hI : INV h) (hn : N ≤ 3072) (i0 : 0 ≤ i) (i1 : i + 6 ≤ (N : Int)) (hk : ∀ h2, INV h2 → FX h h2 → Rch bL_law (Rn mt (e + 20)) (N + 1) Stop Rt 1562 [some (ar 22 0), some (ar 2 0), some (ar 3 0), some (ar 23 0), some (ai (I i)), u5, u6, u7] [] h2) : Rch bL_law (Rn mt (e + 20)) (N + 1) Stop Rt 1323 [some (ar 22 0), some (ar 2 0), some (ar 3 0), some (ar 23 0), some (ai (I i)), u5, u6, u7] [] h := by
  obtain ⟨G, T, Gi, S, A, B, ⟨hO, hy⟩, hT, hGi, hK, hE⟩ := hI
  refine Rch.blk' (Rn_mono mt _) bl_L_law_1323 (i_aload_n rfl (i_aload_n rfl (i_iload rfl (i_iconst k_1 (i_iadd (i_iald rfl (by omega) (by simp only [aln]; omega) (by simp only [aln]; omega) (i_aload_n rfl (i_iload rfl (i_iconst k_2 (i_iadd (i_iald rfl (by omega) (by simp only [aln]; omega) (by simp only [aln]; omega) (i_aload_n rfl (i_iload rfl (i_iconst k_3 (i_iadd (i_iald rfl (by omega) (by simp only [aln]; omega) (by simp only [aln]; omega) (t_cv4 (Rn_mono mt _) 1345 rfl (Nat.le_of_ble_eq_true rfl) ?_)))))))))))))))))
  refine c_X3_put A.2.2.2 hK hI_R hI_R hI_R (fun v S1 h1 hv hR hC => ?_)
  have hF := hC.fa
  have e_x : ∀ j, hI h1 22 0 j = hI h 22 0 j := fun j => hF 22 0 j (by omega)
  have B1 := B.fa hF
  refine Rch.blk' (Rn_mono mt _) bl_L_law_1345 (i_aload_n rfl (i_aload_n rfl (i_iload rfl (i_iconst k_1 (i_iadd (i_iald rfl (by first | omega | (simp (disch := omega) only [e_x]; omega)) (by simp only [aln]; omega) (by simp only [aln]; omega) (i_aload_n rfl (i_iload rfl (i_iconst k_2 (i_iadd (i_iald rfl (by first | omega | (simp (disch := omega) only [e_x]; omega)) (by simp only [aln]; omega) (by simp only [aln]; omega) (i_aload_n rfl (i_iload rfl (i_iconst k_3 (i_iadd (i_iald rfl (by first | omega | (simp (disch := omega) only [e_x]; omega)) (by simp only [aln]; omega) (by simp only [aln]; omega) (t_cv4 (Rn_mono mt _) 1367 rfl (Nat.le_of_ble_eq_true rfl) ?_))))))))))))))))) <;> (try (simp (disch := omega) only [e_x]))
  refine c_X4_put B1.2.2.2 hK hI_R hI_R hI_R (fun w S2 h2 hw hR2 hC2 => ?_)
  obtain ⟨rfl, rfl⟩ := pair_inj (hw.symm.trans hv)
  refine Rch.blk' (Rn_mono mt _) bl_L_law_1367 (t_ic_same 1562 rfl ?_)
  exact hk h2 ⟨G, T, Gi, _, (A.shf hR hC).fb hC2.fb, B1.shf hR2 hC2, ⟨hO, hy⟩, hT, hGi, OKS_put hK hv, OKE_put hE hv⟩ (fun t b j ht => (hC2.fb t b j (by omega)).trans (hF t b j (by omega)))
theorem lw_copy (hI : INV h) (hn : N ≤ 3072) (i0 : 0 ≤ i) (i1 : i + 6 ≤ (N : Int)) (hk : ∀ h2, INV h2 → FX h h2 → Rch bL_law (Rn mt (e + 20)) (N + 1) Stop Rt 1562 [some (ar 22 0), some (ar 2 0), some (ar 3 0), some (ar 23 0), some (ai (I i)), u5, u6, u7] [] h2) : Rch bL_law (Rn mt (e + 20)) (N + 1) Stop Rt 1439 [some (ar 22 0), some (ar 2 0), some (ar 3 0), some (ar 23 0), some (ai (I i)), u5, u6, u7] [] h := by
  obtain ⟨G, T, Gi, S, A, B, ⟨hO, hy⟩, hT, hGi, hK, hE⟩ := hI
  refine Rch.blk' (Rn_mono mt _) bl_L_law_1439 (i_aload_n rfl (i_aload_n rfl (i_iload rfl (i_iconst k_1 (i_iadd (i_iald rfl (by omega) (by simp only [aln]; omega) (by simp only [aln]; omega) (i_aload_n rfl (i_iload rfl (i_iconst k_2 (i_iadd (i_iald rfl (by omega) (by simp only [aln]; omega) (by simp only [aln]; omega) (i_aload_n rfl (i_iload rfl (i_iconst k_3 (i_iadd (i_iald rfl (by omega) (by simp only [aln]; omega) (by simp only [aln]; omega) (i_aload_n rfl (i_iload rfl (i_iconst k_4 (i_iadd (i_iald rfl (by omega) (by simp only [aln]; omega) (by simp only [aln]; omega) (i_aload_n rfl (i_iload rfl (i_iconst k_5 (i_iadd (i_iald rfl (by omega) (by simp only [aln]; omega) (by simp only [aln]; omega) (t_cv6 (Rn_mono mt _) 1473 rfl (Nat.le_of_ble_eq_true rfl) ?_)))))))))))))))))))))))))))
  refine c_X3_copy A.2.2.2 hK hI_R hI_R hI_R hI_R hI_R (fun v S1 h1 hv hR hC => ?_)
  have hF := hC.fa
  have e_x : ∀ j, hI h1 22 0 j = hI h 22 0 j := fun j => hF 22 0 j (by omega)
  have B1 := B.fa hF
  refine Rch.blk' (Rn_mono mt _) bl_L_law_1473 (i_aload_n rfl (i_aload_n rfl (i_iload rfl (i_iconst k_1 (i_iadd (i_iald rfl (by first | omega | (simp (disch := omega) only [e_x]; omega)) (by simp only [aln]; omega) (by simp only [aln]; omega) (i_aload_n rfl (i_iload rfl (i_iconst k_2 (i_iadd (i_iald rfl (by first | omega | (simp (disch := omega) only [e_x]; omega)) (by simp only [aln]; omega) (by simp only [aln]; omega) (i_aload_n rfl (i_iload rfl (i_iconst k_3 (i_iadd (i_iald rfl (by first | omega | (simp (disch := omega) only [e_x]; omega)) (by simp only [aln]; omega) (by simp only [aln]; omega) (i_aload_n rfl (i_iload rfl (i_iconst k_4 (i_iadd (i_iald rfl (by first | omega | (simp (disch := omega) only [e_x]; omega)) (by simp only [aln]; omega) (by simp only [aln]; omega) (i_aload_n rfl (i_iload rfl (i_iconst k_5 (i_iadd (i_iald rfl (by first | omega | (simp (disch := omega) only [e_x]; omega)) (by simp only [aln]; omega) (by simp only [aln]; omega) (t_cv6 (Rn_mono mt _) 1507 rfl (Nat.le_of_ble_eq_true rfl) ?_))))))))))))))))))))))))))) <;> (try (simp (disch := omega) only [e_x]))
  refine c_X4_copy B1.2.2.2 hK hI_R hI_R hI_R hI_R hI_R (fun w S2 h2 hw hR2 hC2 => ?_)
  obtain ⟨rfl, rfl⟩ := pair_inj (hw.symm.trans hv)
  refine Rch.blk' (Rn_mono mt _) bl_L_law_1507 (t_ic_same 1562 rfl ?_)
  exact hk h2 ⟨G, T, Gi, _, (A.shf hR hC).fb hC2.fb, B1.shf hR2 hC2, ⟨hO, hy⟩, hT, hGi, OKS_copy hK hv, OKE_copy hK hE hv⟩ (fun t b j ht => (hC2.fb t b j (by omega)).trans (hF t b j (by omega)))
theorem lw_cost (hI : INV h) (hn : N ≤ 3072) (i0 : 0 ≤ i) (i1 : i + 6 ≤ (N : Int)) (hk : ∀ h2, INV h2 → FX h h2 → Rch bL_law (Rn mt (e + 20)) (N + 1) Stop Rt 1562 [some (ar 22 0), some (ar 2 0), some (ar 3 0), some (ar 23 0), some (ai (I i)), u5, u6, u7] [] h2) : Rch bL_law (Rn mt (e + 20)) (N + 1) Stop Rt 1512 [some (ar 22 0), some (ar 2 0), some (ar 3 0), some (ar 23 0), some (ai (I i)), u5, u6, u7] [] h := by
  obtain ⟨G, T, Gi, S, A, B, ⟨hO, hy⟩, hT, hGi, hK, hE⟩ := hI
  refine Rch.blk' (Rn_mono mt _) bl_L_law_1512 (i_aload_n rfl (i_aload_n rfl (i_iload rfl (i_iconst k_1 (i_iadd (i_iald rfl (by omega) (by simp only [aln]; omega) (by simp only [aln]; omega) (t_cv2 (Rn_mono mt _) 1522 rfl (Nat.le_of_ble_eq_true rfl) ?_)))))))
  refine c_X3_cost A.2.2.2 hK hI_R (fun v h1 hv hJ => ?_)
  have hF := hJ.fa
  have e_x : ∀ j, hI h1 22 0 j = hI h 22 0 j := fun j => hF 22 0 j (by omega)
  have B1 := B.fa hF
  refine Rch.blk' (Rn_mono mt _) bl_L_law_1522 (i_aload_n rfl (i_aload_n rfl (i_iload rfl (i_iconst k_1 (i_iadd (i_iald rfl (by first | omega | (simp (disch := omega) only [e_x]; omega)) (by simp only [aln]; omega) (by simp only [aln]; omega) (t_cv2 (Rn_mono mt _) 1532 rfl (Nat.le_of_ble_eq_true rfl) ?_))))))) <;> (try (simp (disch := omega) only [e_x]))
  refine c_X4_cost B1.2.2.2 hK hI_R (fun w h2 hw hJ2 => ?_)
  obtain rfl : w = v := hw.trans hv.symm
  refine Rch.blk' (Rn_mono mt _) bl_L_law_1532 (t_ic_same 1562 rfl ?_)
  exact hk h2 ⟨G, T, Gi, S, (A.jx hJ).fb hJ2.fb, B1.jy hJ2, ⟨hO, hy⟩, hT, hGi, hK, hE⟩ (fun t b j ht => (hJ2.fb t b j (by omega)).trans (hF t b j (by omega)))
end LAWC

