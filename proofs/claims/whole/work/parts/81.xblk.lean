/-! THE METHODS THAT THROW OR CATCH, AS BLOCKS, and the law checked: by program (wip/whole/gen81.py) -/
def bX1_failWith : List Blk := [(0, [(.iload_n 1, 1, 0, 0, 0)], some (.ifCond .eq 19, 3, 0, 0, 0)),
  (4, [(.iload_n 0, 1, 0, 0, 0), (.iconst 5, 1, 5, 0, 0)], some (.if_icmp .eq 14, 3, 0, 0, 0)),
  (9, [(.iload_n 0, 1, 0, 0, 0), (.iconst 3, 1, 3, 0, 0)], some (.if_icmp .eq 9, 3, 0, 0, 0)),
  (14, [(.iload_n 0, 1, 0, 0, 0), (.bipush 7, 2, 7, 0, 0)], some (.if_icmp .ne 4, 3, 0, 0, 0)),
  (20, [], some (.return_, 1, 0, 0, 0)),
  (21, [(.iload_n 0, 1, 0, 0, 0), (.bipush 6, 2, 6, 0, 0)], some (.if_icmp .ne 13, 3, 0, 0, 0)),
  (37, [(.iload_n 0, 1, 0, 0, 0), (.iconst 2, 1, 2, 0, 0)], some (.if_icmp .eq 8, 3, 0, 0, 0)),
  (42, [(.iload_n 0, 1, 0, 0, 0), (.iconst 4, 1, 4, 0, 0)], some (.if_icmp .ne 13, 3, 0, 0, 0))]
def bX3_element : List Blk := [(0, [(.aload_n 0, 1, 0, 0, 0), (.iload_n 1, 1, 0, 0, 0)], some (.invokevirtual 51, 3, 57, 2, 2)),
  (5, [(.astore_n 3, 1, 0, 0, 0), (.aload_n 3, 1, 0, 0, 0)], some (.ifnonnull 14, 3, 0, 0, 0)),
  (21, [(.aload_n 3, 1, 0, 0, 0), (.getfield 261, 3, 1, 0, 0), (.iconst 2, 1, 2, 0, 0)], some (.if_icmp .eq 14, 3, 0, 0, 0)),
  (40, [(.aload_n 3, 1, 0, 0, 0), (.iload_n 2, 1, 0, 0, 0)], none),
  (45, [], some (.ifCond .ne 14, 3, 0, 0, 0)),
  (59, [(.aload_n 3, 1, 0, 0, 0), (.iload_n 2, 1, 0, 0, 0)], some (.invokevirtual 252, 3, 50, 2, 1)),
  (64, [(.i2l, 1, 0, 0, 0)], some (.lreturn, 1, 0, 0, 0))]
def bX3_toss : List Blk := [(0, [(.aload_n 0, 1, 0, 0, 0), (.iload_n 1, 1, 0, 0, 0)], some (.invokevirtual 51, 3, 57, 2, 2)),
  (5, [(.astore_n 2, 1, 0, 0, 0), (.aload_n 2, 1, 0, 0, 0), (.iconst 1, 1, 1, 0, 0)], some (.invokestatic 55, 3, 58, 2, 0)),
  (11, [(.istore_n 3, 1, 0, 0, 0), (.aload_n 2, 1, 0, 0, 0)], some (.ifnull 7, 3, 0, 0, 0)),
  (16, [(.iload_n 3, 1, 0, 0, 0)], some (.ifCond .eq 5, 3, 0, 0, 0)),
  (20, [(.iload_n 3, 1, 0, 0, 0)], some (.ireturn, 1, 0, 0, 0)),
  (22, [(.aload_n 2, 1, 0, 0, 0), (.getfield 129, 3, 1, 1, 0), (.aload_n 2, 1, 0, 0, 0), (.getfield 131, 3, 1, 2, 0)], none),
  (33, [], some (.goto 38, 3, 0, 0, 0)),
  (38, [(.aload_n 2, 1, 0, 0, 0), (.getfield 131, 3, 1, 2, 0)], some (.ireturn, 1, 0, 0, 0)),
  (45, [(.bipush 100, 2, 100, 0, 0), (.aload_n 2, 1, 0, 0, 0), (.getfield 131, 3, 1, 2, 0), (.iadd, 1, 0, 0, 0)], some (.ireturn, 1, 0, 0, 0)),
  (55, [(.sipush 200, 3, 200, 0, 0), (.aload_n 2, 1, 0, 0, 0), (.getfield 129, 3, 1, 1, 0), (.aload_n 2, 1, 0, 0, 0), (.getfield 131, 3, 1, 2, 0)], some (.invokestatic 306, 3, 45, 2, 0)),
  (69, [(.iadd, 1, 0, 0, 0)], some (.ireturn, 1, 0, 0, 0)),
  (71, [(.bipush (-15), 2, 15, 1, 0)], some (.ireturn, 1, 0, 0, 0))]
def bL_element : List Blk := [(0, [(.aload_n 3, 1, 0, 0, 0), (.iconst 0, 1, 0, 0, 0), (.aload_n 0, 1, 0, 0, 0), (.iload_n 1, 1, 0, 0, 0), (.iload_n 2, 1, 0, 0, 0)], none),
  (9, [], some (.goto 11, 3, 0, 0, 0)),
  (14, [(.iconst 1, 1, 1, 0, 0)], some (.ireturn, 1, 0, 0, 0)),
  (18, [(.iconst 2, 1, 2, 0, 0)], some (.ireturn, 1, 0, 0, 0)),
  (20, [(.iconst 0, 1, 0, 0, 0)], some (.ireturn, 1, 0, 0, 0))]
set_option maxRecDepth 100000 in
theorem okX1_failWith : okBs cX1_failWith 4 2 none bX1_failWith = true := by decide +kernel
set_option maxRecDepth 100000 in
theorem okX3_element : okBs cX3_element 2 4 (some .long) bX3_element = true := by decide +kernel
set_option maxRecDepth 100000 in
theorem okX3_toss : okBs cX3_toss 2 5 (some .int) bX3_toss = true := by decide +kernel
set_option maxRecDepth 100000 in
theorem okL_element : okBs cL_element 8 5 (some .int) bL_element = true := by decide +kernel
set_option maxRecDepth 100000 in
theorem lawBs_0 : okBs code 8 8 ret ((bL_law.drop 0).take 6) = true := by decide +kernel
set_option maxRecDepth 100000 in
theorem lawBs_6 : okBs code 8 8 ret ((bL_law.drop 6).take 6) = true := by decide +kernel
set_option maxRecDepth 100000 in
theorem lawBs_12 : okBs code 8 8 ret ((bL_law.drop 12).take 6) = true := by decide +kernel
set_option maxRecDepth 100000 in
theorem lawBs_18 : okBs code 8 8 ret ((bL_law.drop 18).take 6) = true := by decide +kernel
set_option maxRecDepth 100000 in
theorem lawBs_24 : okBs code 8 8 ret ((bL_law.drop 24).take 6) = true := by decide +kernel
set_option maxRecDepth 100000 in
theorem lawBs_30 : okBs code 8 8 ret ((bL_law.drop 30).take 6) = true := by decide +kernel
set_option maxRecDepth 100000 in
theorem lawBs_36 : okBs code 8 8 ret ((bL_law.drop 36).take 6) = true := by decide +kernel
set_option maxRecDepth 100000 in
theorem lawBs_42 : okBs code 8 8 ret ((bL_law.drop 42).take 6) = true := by decide +kernel
set_option maxRecDepth 100000 in
theorem lawBs_48 : okBs code 8 8 ret ((bL_law.drop 48).take 6) = true := by decide +kernel
set_option maxRecDepth 100000 in
theorem lawBs_54 : okBs code 8 8 ret ((bL_law.drop 54).take 6) = true := by decide +kernel
set_option maxRecDepth 100000 in
theorem lawBs_60 : okBs code 8 8 ret ((bL_law.drop 60).take 6) = true := by decide +kernel
set_option maxRecDepth 100000 in
theorem lawBs_66 : okBs code 8 8 ret ((bL_law.drop 66).take 6) = true := by decide +kernel
set_option maxRecDepth 100000 in
theorem lawBs_72 : okBs code 8 8 ret ((bL_law.drop 72).take 6) = true := by decide +kernel
set_option maxRecDepth 100000 in
theorem lawBs_78 : okBs code 8 8 ret ((bL_law.drop 78).take 6) = true := by decide +kernel
set_option maxRecDepth 100000 in
theorem lawBs_84 : okBs code 8 8 ret ((bL_law.drop 84).take 6) = true := by decide +kernel
set_option maxRecDepth 100000 in
theorem lawBs_90 : okBs code 8 8 ret ((bL_law.drop 90).take 6) = true := by decide +kernel
set_option maxRecDepth 100000 in
theorem lawBs_96 : okBs code 8 8 ret ((bL_law.drop 96).take 6) = true := by decide +kernel
set_option maxRecDepth 100000 in
theorem lawBs_102 : okBs code 8 8 ret ((bL_law.drop 102).take 6) = true := by decide +kernel
set_option maxRecDepth 100000 in
theorem lawBs_108 : okBs code 8 8 ret ((bL_law.drop 108).take 6) = true := by decide +kernel
set_option maxRecDepth 100000 in
theorem lawBs_114 : okBs code 8 8 ret ((bL_law.drop 114).take 6) = true := by decide +kernel
set_option maxRecDepth 100000 in
theorem lawBs_120 : okBs code 8 8 ret ((bL_law.drop 120).take 6) = true := by decide +kernel
set_option maxRecDepth 100000 in
theorem lawBs_126 : okBs code 8 8 ret ((bL_law.drop 126).take 6) = true := by decide +kernel
set_option maxRecDepth 100000 in
theorem lawBs_132 : okBs code 8 8 ret ((bL_law.drop 132).take 6) = true := by decide +kernel
set_option maxRecDepth 100000 in
theorem lawBs_138 : okBs code 8 8 ret ((bL_law.drop 138).take 6) = true := by decide +kernel
set_option maxRecDepth 100000 in
theorem lawBs_144 : okBs code 8 8 ret ((bL_law.drop 144).take 6) = true := by decide +kernel
set_option maxRecDepth 100000 in
theorem lawBs_150 : okBs code 8 8 ret ((bL_law.drop 150).take 6) = true := by decide +kernel
set_option maxRecDepth 100000 in
theorem lawBs_156 : okBs code 8 8 ret ((bL_law.drop 156).take 6) = true := by decide +kernel
theorem okBs_cut {cc : ByteArray} {own nL : Nat} {rt : Option FieldType} {bs : List Blk} (n : Nat) (h1 : okBs cc own nL rt (bs.take n) = true) (h2 : okBs cc own nL rt (bs.drop n) = true) : okBs cc own nL rt bs = true := by
  unfold okBs at *
  rw [← List.take_append_drop n bs, List.all_append, h1, h2]; rfl
theorem lawBs_e162 : okBs code 8 8 ret (bL_law.drop 162) = true := rfl
theorem lawBs_e156 : okBs code 8 8 ret (bL_law.drop 156) = true := okBs_cut 6 lawBs_156 (by rw [List.drop_drop]; exact lawBs_e162)
theorem lawBs_e150 : okBs code 8 8 ret (bL_law.drop 150) = true := okBs_cut 6 lawBs_150 (by rw [List.drop_drop]; exact lawBs_e156)
theorem lawBs_e144 : okBs code 8 8 ret (bL_law.drop 144) = true := okBs_cut 6 lawBs_144 (by rw [List.drop_drop]; exact lawBs_e150)
theorem lawBs_e138 : okBs code 8 8 ret (bL_law.drop 138) = true := okBs_cut 6 lawBs_138 (by rw [List.drop_drop]; exact lawBs_e144)
theorem lawBs_e132 : okBs code 8 8 ret (bL_law.drop 132) = true := okBs_cut 6 lawBs_132 (by rw [List.drop_drop]; exact lawBs_e138)
theorem lawBs_e126 : okBs code 8 8 ret (bL_law.drop 126) = true := okBs_cut 6 lawBs_126 (by rw [List.drop_drop]; exact lawBs_e132)
theorem lawBs_e120 : okBs code 8 8 ret (bL_law.drop 120) = true := okBs_cut 6 lawBs_120 (by rw [List.drop_drop]; exact lawBs_e126)
theorem lawBs_e114 : okBs code 8 8 ret (bL_law.drop 114) = true := okBs_cut 6 lawBs_114 (by rw [List.drop_drop]; exact lawBs_e120)
theorem lawBs_e108 : okBs code 8 8 ret (bL_law.drop 108) = true := okBs_cut 6 lawBs_108 (by rw [List.drop_drop]; exact lawBs_e114)
theorem lawBs_e102 : okBs code 8 8 ret (bL_law.drop 102) = true := okBs_cut 6 lawBs_102 (by rw [List.drop_drop]; exact lawBs_e108)
theorem lawBs_e96 : okBs code 8 8 ret (bL_law.drop 96) = true := okBs_cut 6 lawBs_96 (by rw [List.drop_drop]; exact lawBs_e102)
theorem lawBs_e90 : okBs code 8 8 ret (bL_law.drop 90) = true := okBs_cut 6 lawBs_90 (by rw [List.drop_drop]; exact lawBs_e96)
theorem lawBs_e84 : okBs code 8 8 ret (bL_law.drop 84) = true := okBs_cut 6 lawBs_84 (by rw [List.drop_drop]; exact lawBs_e90)
theorem lawBs_e78 : okBs code 8 8 ret (bL_law.drop 78) = true := okBs_cut 6 lawBs_78 (by rw [List.drop_drop]; exact lawBs_e84)
theorem lawBs_e72 : okBs code 8 8 ret (bL_law.drop 72) = true := okBs_cut 6 lawBs_72 (by rw [List.drop_drop]; exact lawBs_e78)
theorem lawBs_e66 : okBs code 8 8 ret (bL_law.drop 66) = true := okBs_cut 6 lawBs_66 (by rw [List.drop_drop]; exact lawBs_e72)
theorem lawBs_e60 : okBs code 8 8 ret (bL_law.drop 60) = true := okBs_cut 6 lawBs_60 (by rw [List.drop_drop]; exact lawBs_e66)
theorem lawBs_e54 : okBs code 8 8 ret (bL_law.drop 54) = true := okBs_cut 6 lawBs_54 (by rw [List.drop_drop]; exact lawBs_e60)
theorem lawBs_e48 : okBs code 8 8 ret (bL_law.drop 48) = true := okBs_cut 6 lawBs_48 (by rw [List.drop_drop]; exact lawBs_e54)
theorem lawBs_e42 : okBs code 8 8 ret (bL_law.drop 42) = true := okBs_cut 6 lawBs_42 (by rw [List.drop_drop]; exact lawBs_e48)
theorem lawBs_e36 : okBs code 8 8 ret (bL_law.drop 36) = true := okBs_cut 6 lawBs_36 (by rw [List.drop_drop]; exact lawBs_e42)
theorem lawBs_e30 : okBs code 8 8 ret (bL_law.drop 30) = true := okBs_cut 6 lawBs_30 (by rw [List.drop_drop]; exact lawBs_e36)
theorem lawBs_e24 : okBs code 8 8 ret (bL_law.drop 24) = true := okBs_cut 6 lawBs_24 (by rw [List.drop_drop]; exact lawBs_e30)
theorem lawBs_e18 : okBs code 8 8 ret (bL_law.drop 18) = true := okBs_cut 6 lawBs_18 (by rw [List.drop_drop]; exact lawBs_e24)
theorem lawBs_e12 : okBs code 8 8 ret (bL_law.drop 12) = true := okBs_cut 6 lawBs_12 (by rw [List.drop_drop]; exact lawBs_e18)
theorem lawBs_e6 : okBs code 8 8 ret (bL_law.drop 6) = true := okBs_cut 6 lawBs_6 (by rw [List.drop_drop]; exact lawBs_e12)
theorem lawBs_e0 : okBs code 8 8 ret (bL_law.drop 0) = true := okBs_cut 6 lawBs_0 (by rw [List.drop_drop]; exact lawBs_e6)
theorem lawBs_ok : okBs code 8 8 ret bL_law = true := lawBs_e0
