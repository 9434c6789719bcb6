/-! GAMES: the value, both sides -/
/-! GAMES: the reference -/
theorem RR.eqs {h h' : Mem} {w : Nat} {G : Bd} {M : Int → Prop} {ra : Int} (H : RR h w G M ra) (e : ∀ k, hI h' 12 w k = hI h 12 w k) : RR h' w G M ra := by
  unfold RR
  simp only [e]
  exact H
theorem JY.ms {h h' : Mem} {t b k : Nat} {x : Int32} (a : JY h h') (ht : t = 13 ∨ (t = 3 ∧ ¬ k = 4)) : JY h (mset h' t b k x) := by
  intro t' b' k' hn
  rw [← a t' b' k' hn]
  by_cases e : t' = t
  · exact hI_nk (fun z => hn (by omega))
  · exact hI_nt e


