/-! GAME: the reference's statements and answer -/
section C43
variable {d L : Nat} {h : Mem} {Q : Option AV → Mem → Prop} {G V : Bd} {S : Sv}
/-- all but the told text's reading and what is in mind or on the row -/
def FrG (h h' : Mem) : Prop := ∀ (t b k : Nat), ¬ ((t = 12 ∧ (b = 0 ∨ b = 1 ∨ b = 3)) ∨ t = 13 ∨ (t = 3 ∧ ¬ k = 4)) → hI h' t b k = hI h t b k
theorem FrG.rf {h : Mem} : FrG h h := fun _ _ _ _ => rfl
theorem FrG.tr {h h1 h2 : Mem} (a : FrG h h1) (c : FrG h1 h2) : FrG h h2 := fun t b k hn => (c t b k hn).trans (a t b k hn)
theorem FrG.ms {h h' : Mem} {k : Nat} {x : Int32} (a : FrG h h') (hk : ¬ k = 4) : FrG h (mset h' 3 0 k x) := by
  intro t' b' k' hn
  rw [← a t' b' k' hn]
  by_cases e : t' = 3
  · exact hI_nk (by omega)
  · exact hI_nt e
end C43


