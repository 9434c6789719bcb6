/-! TWO: both sides -/
theorem RC.eqs {h h' : Mem} {b : Nat} {G : Bd} (H : RC h b G) (e : ∀ t k : Nat, t = 0 ∨ (4 ≤ t ∧ t ≤ 8) → hI h' t b k = hI h t b k) : RC h' b G :=
  ⟨by rw [e 0 _ (by omega)]; exact H.n, by rw [e 0 _ (by omega)]; exact H.t, by rw [e 0 _ (by omega)]; exact H.o, by rw [e 0 _ (by omega)]; exact H.d, fun p p0 p1 => ⟨by rw [e 4 _ (by omega)]; exact H.k p0 p1, by rw [e 5 _ (by omega)]; exact H.f p0 p1, by rw [e 6 _ (by omega)]; exact H.s p0 p1, by rw [e 7 _ (by omega)]; exact H.q p0 p1⟩, fun q q0 q1 => by rw [e 8 _ (by omega)]; exact H.w q0 q1⟩
theorem JX.ms {h h' : Mem} {t b k : Nat} {x : Int32} (a : JX h h') (ht : t = 10 ∨ t = 11 ∨ (t = 2 ∧ k = 9)) : JX h (mset h' t b k x) := by
  intro t' b' k' hn
  rw [← a t' b' k' hn]
  by_cases e : t' = t
  · exact hI_nk (fun z => hn (by omega))
  · exact hI_nt e


