/-! GAME: the reference reads -/
def FrN (h h' : Mem) : Prop := ∀ (t b k : Nat), ¬ (t = 13 ∨ (t = 3 ∧ k = 5)) → hI h' t b k = hI h t b k
theorem FrN.rf {h : Mem} : FrN h h := fun _ _ _ _ => rfl
theorem FrN.tr {h h1 h2 : Mem} (a : FrN h h1) (c : FrN h1 h2) : FrN h h2 := fun t b k hn => (c t b k hn).trans (a t b k hn)
theorem FrN.ms {h h' : Mem} {t b k : Nat} {x : Int32} (a : FrN h h') (ht : t = 13 ∨ (t = 3 ∧ k = 5)) : FrN h (mset h' t b k x) := by
  intro t' b' k' hn
  rw [← a t' b' k' hn]
  by_cases e : t' = t
  · exact hI_nk (fun z => hn (by omega))
  · exact hI_nt e
/-- a text is being read -/
def TXT (h : Mem) (S : Sv) (x : Int) : Prop := SR h S ∧ OKS S ∧ (0 ≤ x ∧ x < 8) ∧ ho S x = 2 ∧ (∀ i : Int, 0 ≤ i → i < 100 → -128 ≤ el S x i ∧ el S x i ≤ 127) ∧ hI h 3 0 6 = 100 * x ∧ hI h 3 0 7 = sz S x
theorem TXT.fr {h h' : Mem} {S : Sv} {x : Int} (H : TXT h S x) (hF : FrN h h') : TXT h' S x := by
  obtain ⟨a, b, c, e, f, g, i⟩ := H
  exact ⟨a.fr (fun t b k ht => hF t b k (by omega)), b, c, e, f, (hF 3 0 6 (by omega)).trans g, (hF 3 0 7 (by omega)).trans i⟩
theorem TXT.z {h : Mem} {S : Sv} {x : Int} (H : TXT h S x) : 0 ≤ sz S x ∧ sz S x ≤ 100 := by
  obtain ⟨a, b, c, e, -⟩ := H
  have := (b x c.1 c.2).2.2 e
  omega


