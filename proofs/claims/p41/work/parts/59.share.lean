/-! LONGS, LEAST TERMS, SHARE: both sides -/
def L (z : Int) : Int64 := Int64.ofInt z
theorem lcm_e {u v : Int64} (h : u = v) : lcm u v = 0 := by
  subst h
  unfold lcm lg_cmp
  rw [if_neg (fun z => by have := Int64.lt_iff_toInt_lt.mp z; omega), if_pos rfl]
  rfl


