/-! THE LAW'S BLOCKS CHECKED: by program (wip/p41/gen9.py) -/
set_option maxRecDepth 100000 in
theorem lawBs_0 : okBs code 8 23 ret ((bL_law.drop 0).take 6) = true := by decide +kernel
set_option maxRecDepth 100000 in
theorem lawBs_6 : okBs code 8 23 ret ((bL_law.drop 6).take 6) = true := by decide +kernel
set_option maxRecDepth 100000 in
theorem lawBs_12 : okBs code 8 23 ret ((bL_law.drop 12).take 6) = true := by decide +kernel
set_option maxRecDepth 100000 in
theorem lawBs_18 : okBs code 8 23 ret ((bL_law.drop 18).take 6) = true := by decide +kernel
set_option maxRecDepth 100000 in
theorem lawBs_24 : okBs code 8 23 ret ((bL_law.drop 24).take 6) = true := by decide +kernel
set_option maxRecDepth 100000 in
theorem lawBs_30 : okBs code 8 23 ret ((bL_law.drop 30).take 6) = true := by decide +kernel
set_option maxRecDepth 100000 in
theorem lawBs_36 : okBs code 8 23 ret ((bL_law.drop 36).take 6) = true := by decide +kernel
set_option maxRecDepth 100000 in
theorem lawBs_42 : okBs code 8 23 ret ((bL_law.drop 42).take 6) = true := by decide +kernel
set_option maxRecDepth 100000 in
theorem lawBs_48 : okBs code 8 23 ret ((bL_law.drop 48).take 6) = true := by decide +kernel
set_option maxRecDepth 100000 in
theorem lawBs_54 : okBs code 8 23 ret ((bL_law.drop 54).take 6) = true := by decide +kernel
set_option maxRecDepth 100000 in
theorem lawBs_60 : okBs code 8 23 ret ((bL_law.drop 60).take 6) = true := by decide +kernel
set_option maxRecDepth 100000 in
theorem lawBs_66 : okBs code 8 23 ret ((bL_law.drop 66).take 6) = true := by decide +kernel
set_option maxRecDepth 100000 in
theorem lawBs_72 : okBs code 8 23 ret ((bL_law.drop 72).take 6) = true := by decide +kernel
set_option maxRecDepth 100000 in
theorem lawBs_78 : okBs code 8 23 ret ((bL_law.drop 78).take 6) = true := by decide +kernel
set_option maxRecDepth 100000 in
theorem lawBs_84 : okBs code 8 23 ret ((bL_law.drop 84).take 6) = true := by decide +kernel
set_option maxRecDepth 100000 in
theorem lawBs_90 : okBs code 8 23 ret ((bL_law.drop 90).take 6) = true := by decide +kernel
set_option maxRecDepth 100000 in
theorem lawBs_96 : okBs code 8 23 ret ((bL_law.drop 96).take 6) = true := by decide +kernel
set_option maxRecDepth 100000 in
theorem lawBs_102 : okBs code 8 23 ret ((bL_law.drop 102).take 6) = true := by decide +kernel
set_option maxRecDepth 100000 in
theorem lawBs_108 : okBs code 8 23 ret ((bL_law.drop 108).take 6) = true := by decide +kernel
set_option maxRecDepth 100000 in
theorem lawBs_114 : okBs code 8 23 ret ((bL_law.drop 114).take 6) = true := by decide +kernel
set_option maxRecDepth 100000 in
theorem lawBs_120 : okBs code 8 23 ret ((bL_law.drop 120).take 6) = true := by decide +kernel
set_option maxRecDepth 100000 in
theorem lawBs_126 : okBs code 8 23 ret ((bL_law.drop 126).take 6) = true := by decide +kernel
set_option maxRecDepth 100000 in
theorem lawBs_132 : okBs code 8 23 ret ((bL_law.drop 132).take 6) = true := by decide +kernel
set_option maxRecDepth 100000 in
theorem lawBs_138 : okBs code 8 23 ret ((bL_law.drop 138).take 6) = true := by decide +kernel
set_option maxRecDepth 100000 in
theorem lawBs_144 : okBs code 8 23 ret ((bL_law.drop 144).take 6) = true := by decide +kernel
set_option maxRecDepth 100000 in
theorem lawBs_150 : okBs code 8 23 ret ((bL_law.drop 150).take 6) = true := by decide +kernel
set_option maxRecDepth 100000 in
theorem lawBs_156 : okBs code 8 23 ret ((bL_law.drop 156).take 6) = true := by decide +kernel
set_option maxRecDepth 100000 in
theorem lawBs_162 : okBs code 8 23 ret ((bL_law.drop 162).take 6) = true := by decide +kernel
set_option maxRecDepth 100000 in
theorem lawBs_168 : okBs code 8 23 ret ((bL_law.drop 168).take 6) = true := by decide +kernel
set_option maxRecDepth 100000 in
theorem lawBs_174 : okBs code 8 23 ret ((bL_law.drop 174).take 6) = true := by decide +kernel
set_option maxRecDepth 100000 in
theorem lawBs_180 : okBs code 8 23 ret ((bL_law.drop 180).take 6) = true := by decide +kernel
set_option maxRecDepth 100000 in
theorem lawBs_186 : okBs code 8 23 ret ((bL_law.drop 186).take 6) = true := by decide +kernel
set_option maxRecDepth 100000 in
theorem lawBs_192 : okBs code 8 23 ret ((bL_law.drop 192).take 6) = true := by decide +kernel
set_option maxRecDepth 100000 in
theorem lawBs_198 : okBs code 8 23 ret ((bL_law.drop 198).take 6) = true := by decide +kernel
set_option maxRecDepth 100000 in
theorem lawBs_204 : okBs code 8 23 ret ((bL_law.drop 204).take 6) = true := by decide +kernel
set_option maxRecDepth 100000 in
theorem lawBs_210 : okBs code 8 23 ret ((bL_law.drop 210).take 6) = true := by decide +kernel
set_option maxRecDepth 100000 in
theorem lawBs_216 : okBs code 8 23 ret ((bL_law.drop 216).take 6) = true := by decide +kernel
theorem okBs_cut {cc : ByteArray} {own nL : Nat} {rt : Option FieldType} {bs : List Blk} (n : Nat) (h1 : okBs cc own nL rt (bs.take n) = true) (h2 : okBs cc own nL rt (bs.drop n) = true) : okBs cc own nL rt bs = true := by
  unfold okBs at *
  rw [← List.take_append_drop n bs, List.all_append, h1, h2]; rfl
theorem lawBs_e222 : okBs code 8 23 ret (bL_law.drop 222) = true := rfl
theorem lawBs_e216 : okBs code 8 23 ret (bL_law.drop 216) = true := okBs_cut 6 lawBs_216 (by rw [List.drop_drop]; exact lawBs_e222)
theorem lawBs_e210 : okBs code 8 23 ret (bL_law.drop 210) = true := okBs_cut 6 lawBs_210 (by rw [List.drop_drop]; exact lawBs_e216)
theorem lawBs_e204 : okBs code 8 23 ret (bL_law.drop 204) = true := okBs_cut 6 lawBs_204 (by rw [List.drop_drop]; exact lawBs_e210)
theorem lawBs_e198 : okBs code 8 23 ret (bL_law.drop 198) = true := okBs_cut 6 lawBs_198 (by rw [List.drop_drop]; exact lawBs_e204)
theorem lawBs_e192 : okBs code 8 23 ret (bL_law.drop 192) = true := okBs_cut 6 lawBs_192 (by rw [List.drop_drop]; exact lawBs_e198)
theorem lawBs_e186 : okBs code 8 23 ret (bL_law.drop 186) = true := okBs_cut 6 lawBs_186 (by rw [List.drop_drop]; exact lawBs_e192)
theorem lawBs_e180 : okBs code 8 23 ret (bL_law.drop 180) = true := okBs_cut 6 lawBs_180 (by rw [List.drop_drop]; exact lawBs_e186)
theorem lawBs_e174 : okBs code 8 23 ret (bL_law.drop 174) = true := okBs_cut 6 lawBs_174 (by rw [List.drop_drop]; exact lawBs_e180)
theorem lawBs_e168 : okBs code 8 23 ret (bL_law.drop 168) = true := okBs_cut 6 lawBs_168 (by rw [List.drop_drop]; exact lawBs_e174)
theorem lawBs_e162 : okBs code 8 23 ret (bL_law.drop 162) = true := okBs_cut 6 lawBs_162 (by rw [List.drop_drop]; exact lawBs_e168)
theorem lawBs_e156 : okBs code 8 23 ret (bL_law.drop 156) = true := okBs_cut 6 lawBs_156 (by rw [List.drop_drop]; exact lawBs_e162)
theorem lawBs_e150 : okBs code 8 23 ret (bL_law.drop 150) = true := okBs_cut 6 lawBs_150 (by rw [List.drop_drop]; exact lawBs_e156)
theorem lawBs_e144 : okBs code 8 23 ret (bL_law.drop 144) = true := okBs_cut 6 lawBs_144 (by rw [List.drop_drop]; exact lawBs_e150)
theorem lawBs_e138 : okBs code 8 23 ret (bL_law.drop 138) = true := okBs_cut 6 lawBs_138 (by rw [List.drop_drop]; exact lawBs_e144)
theorem lawBs_e132 : okBs code 8 23 ret (bL_law.drop 132) = true := okBs_cut 6 lawBs_132 (by rw [List.drop_drop]; exact lawBs_e138)
theorem lawBs_e126 : okBs code 8 23 ret (bL_law.drop 126) = true := okBs_cut 6 lawBs_126 (by rw [List.drop_drop]; exact lawBs_e132)
theorem lawBs_e120 : okBs code 8 23 ret (bL_law.drop 120) = true := okBs_cut 6 lawBs_120 (by rw [List.drop_drop]; exact lawBs_e126)
theorem lawBs_e114 : okBs code 8 23 ret (bL_law.drop 114) = true := okBs_cut 6 lawBs_114 (by rw [List.drop_drop]; exact lawBs_e120)
theorem lawBs_e108 : okBs code 8 23 ret (bL_law.drop 108) = true := okBs_cut 6 lawBs_108 (by rw [List.drop_drop]; exact lawBs_e114)
theorem lawBs_e102 : okBs code 8 23 ret (bL_law.drop 102) = true := okBs_cut 6 lawBs_102 (by rw [List.drop_drop]; exact lawBs_e108)
theorem lawBs_e96 : okBs code 8 23 ret (bL_law.drop 96) = true := okBs_cut 6 lawBs_96 (by rw [List.drop_drop]; exact lawBs_e102)
theorem lawBs_e90 : okBs code 8 23 ret (bL_law.drop 90) = true := okBs_cut 6 lawBs_90 (by rw [List.drop_drop]; exact lawBs_e96)
theorem lawBs_e84 : okBs code 8 23 ret (bL_law.drop 84) = true := okBs_cut 6 lawBs_84 (by rw [List.drop_drop]; exact lawBs_e90)
theorem lawBs_e78 : okBs code 8 23 ret (bL_law.drop 78) = true := okBs_cut 6 lawBs_78 (by rw [List.drop_drop]; exact lawBs_e84)
theorem lawBs_e72 : okBs code 8 23 ret (bL_law.drop 72) = true := okBs_cut 6 lawBs_72 (by rw [List.drop_drop]; exact lawBs_e78)
theorem lawBs_e66 : okBs code 8 23 ret (bL_law.drop 66) = true := okBs_cut 6 lawBs_66 (by rw [List.drop_drop]; exact lawBs_e72)
theorem lawBs_e60 : okBs code 8 23 ret (bL_law.drop 60) = true := okBs_cut 6 lawBs_60 (by rw [List.drop_drop]; exact lawBs_e66)
theorem lawBs_e54 : okBs code 8 23 ret (bL_law.drop 54) = true := okBs_cut 6 lawBs_54 (by rw [List.drop_drop]; exact lawBs_e60)
theorem lawBs_e48 : okBs code 8 23 ret (bL_law.drop 48) = true := okBs_cut 6 lawBs_48 (by rw [List.drop_drop]; exact lawBs_e54)
theorem lawBs_e42 : okBs code 8 23 ret (bL_law.drop 42) = true := okBs_cut 6 lawBs_42 (by rw [List.drop_drop]; exact lawBs_e48)
theorem lawBs_e36 : okBs code 8 23 ret (bL_law.drop 36) = true := okBs_cut 6 lawBs_36 (by rw [List.drop_drop]; exact lawBs_e42)
theorem lawBs_e30 : okBs code 8 23 ret (bL_law.drop 30) = true := okBs_cut 6 lawBs_30 (by rw [List.drop_drop]; exact lawBs_e36)
theorem lawBs_e24 : okBs code 8 23 ret (bL_law.drop 24) = true := okBs_cut 6 lawBs_24 (by rw [List.drop_drop]; exact lawBs_e30)
theorem lawBs_e18 : okBs code 8 23 ret (bL_law.drop 18) = true := okBs_cut 6 lawBs_18 (by rw [List.drop_drop]; exact lawBs_e24)
theorem lawBs_e12 : okBs code 8 23 ret (bL_law.drop 12) = true := okBs_cut 6 lawBs_12 (by rw [List.drop_drop]; exact lawBs_e18)
theorem lawBs_e6 : okBs code 8 23 ret (bL_law.drop 6) = true := okBs_cut 6 lawBs_6 (by rw [List.drop_drop]; exact lawBs_e12)
theorem lawBs_e0 : okBs code 8 23 ret (bL_law.drop 0) = true := okBs_cut 6 lawBs_0 (by rw [List.drop_drop]; exact lawBs_e6)
theorem lawBs_ok : okBs code 8 23 ret bL_law = true := lawBs_e0
