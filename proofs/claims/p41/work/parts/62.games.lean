/-! GAMES: the value, both sides -/
/-! GAMES: the reference -/
theorem JY.ms {h h' : Mem} {t b k : Nat} {x : Int32} (a : JY h h') (ht : t = 13 ∨ (t = 3 ∧ ¬ k = 4)) : JY h (mset h' t b k x) := by
  intro t' b' k' hn
  rw [← a t' b' k' hn]
  by_cases e : t' = t
  · exact hI_nk (fun z => hn (by omega))
  · exact hI_nt e


