/-! TWO: both sides -/
theorem JX.ms {h h' : Mem} {t b k : Nat} {x : Int32} (a : JX h h') (ht : t = 10 ∨ t = 11 ∨ (t = 2 ∧ k = 9)) : JX h (mset h' t b k x) := by
  intro t' b' k' hn
  rw [← a t' b' k' hn]
  by_cases e : t' = t
  · exact hI_nk (fun z => hn (by omega))
  · exact hI_nt e


