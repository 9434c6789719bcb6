/-! TOLD ROWS: forged, judge: both sides -/
/-- the first of the first n with P; -4 -/
noncomputable def fst1 (P : Int → Prop) (n : Int) : Int := @dite Int (∃ k : Int, 0 ≤ k ∧ k < n ∧ P k ∧ ∀ j : Int, 0 ≤ j → j < k → ¬ P j) (Classical.propDecidable _) (fun e => Classical.choose e) (fun _ => -4)
theorem fst_is {P : Int → Prop} {n k : Int} (k0 : 0 ≤ k) (k1 : k < n) (hP : P k) (hn : ∀ j : Int, 0 ≤ j → j < k → ¬ P j) : fst1 P n = k := by
  have e : ∃ k : Int, 0 ≤ k ∧ k < n ∧ P k ∧ ∀ j : Int, 0 ≤ j → j < k → ¬ P j := ⟨k, k0, k1, hP, hn⟩
  unfold fst1
  rw [dif_pos e]
  obtain ⟨c0, c1, c2, c3⟩ := Classical.choose_spec e
  generalize Classical.choose e = c at c0 c1 c2 c3
  rcases Int.lt_trichotomy c k with z | z | z
  · exact absurd c2 (hn c c0 z)
  · exact z
  · exact absurd hP (c3 k k0 z)
theorem fst_no {P : Int → Prop} {n : Int} (hn : ∀ j : Int, 0 ≤ j → j < n → ¬ P j) : fst1 P n = -4 := by
  unfold fst1
  rw [dif_neg]
  rintro ⟨k, k0, k1, k2, -⟩
  exact hn k k0 k1 k2
theorem fst_R {P : Int → Prop} {n : Int} : fst1 P n = -4 ∨ (0 ≤ fst1 P n ∧ fst1 P n < n) := by
  unfold fst1
  by_cases e : ∃ k : Int, 0 ≤ k ∧ k < n ∧ P k ∧ ∀ j : Int, 0 ≤ j → j < k → ¬ P j
  · rw [dif_pos e]
    obtain ⟨c0, c1, -⟩ := Classical.choose_spec e
    exact Or.inr ⟨c0, c1⟩
  · rw [dif_neg e]; exact Or.inl rfl


