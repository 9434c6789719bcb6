/-! the ideas' range; the reference's ideas -/
theorem sqO_R2 {q r c : Int} : sqO q r c = -4 ∨ (0 ≤ sqO q r c ∧ sqO q r c < 36) := by unfold sqO; omega
theorem ifp_C {P : Prop} {a b : Int} : (P ∧ ifp P a b = a) ∨ (¬ P ∧ ifp P a b = b) := by
  by_cases h : P
  · exact Or.inl ⟨h, ifp_p h⟩
  · exact Or.inr ⟨h, ifp_n h⟩
theorem pwi_R {G : Bd} {p : Int} : pwi G p = -4 ∨ (0 ≤ pwi G p ∧ pwi G p < 36) := by
  unfold pwi
  have a := @sqO_R2 (sq G p) (sg G p 1) 0
  have b := @sqO_R2 (sq G p) (sg G p 1) 1
  rcases @ifp_C (fre G (bk G p 1 0)) (bk G p 1 0) (ifp (hby G (bk G p 1 1) (1 - sd G p)) (bk G p 1 1) (-4)) with ⟨-, e⟩ | ⟨-, e⟩
  · rw [e]; exact a
  · rw [e]
    rcases @ifp_C (hby G (bk G p 1 1) (1 - sd G p)) (bk G p 1 1) (-4) with ⟨-, e⟩ | ⟨-, e⟩
    · rw [e]; exact b
    · rw [e]; exact Or.inl rfl
theorem kni_R {G : Bd} {p : Int} : kni G p = -4 ∨ (0 ≤ kni G p ∧ kni G p < 36) := by
  unfold kni
  have a := @sqO_R2 (sq G p) (sg G p 2) 1
  have b := @sqO_R2 (sq G p) (sg G p 2) (-1)
  rcases @ifp_C (¬ bk G p 2 1 = -4 ∧ ¬ hby G (bk G p 2 1) (sd G p)) (bk G p 2 1) (ifp (¬ bk G p 2 (-1) = -4 ∧ ¬ hby G (bk G p 2 (-1)) (sd G p)) (bk G p 2 (-1)) (-4)) with ⟨-, e⟩ | ⟨-, e⟩
  · rw [e]; exact a
  · rw [e]
    rcases @ifp_C (¬ bk G p 2 (-1) = -4 ∧ ¬ hby G (bk G p 2 (-1)) (sd G p)) (bk G p 2 (-1)) (-4) with ⟨-, e⟩ | ⟨-, e⟩
    · rw [e]; exact b
    · rw [e]; exact Or.inl rfl
theorem bii_R {G : Bd} {p y : Int} : bii G p y = -4 ∨ (0 ≤ bii G p y ∧ bii G p y < 36) := by
  unfold bii
  have a := @sqO_R2 (sq G p) (sg G p 1) 1
  rcases @ifp_C (¬ bk G p 1 1 = -4 ∧ ¬ hby G (bk G p 1 1) (sd G p) ∧ y % (fg G p + 2) = 0) (bk G p 1 1) (-4) with ⟨-, e⟩ | ⟨-, e⟩
  · rw [e]; exact a
  · rw [e]; exact Or.inl rfl
theorem kgi_R {G : Bd} {p : Int} : kgi G p = -4 ∨ (0 ≤ kgi G p ∧ kgi G p < 36) := by
  unfold kgi
  have a := @sqO_R2 (sq G p) (sg G p (-1)) 0
  rcases @ifp_C (fre G (bk G p (-1) 0) ∧ ∃ o, 0 ≤ o ∧ o < nn G ∧ sd G o = 1 - sd G p ∧ sq G o < 36 ∧ fr (sq G o) (sq G p) ≤ 1) (bk G p (-1) 0) (-4) with ⟨-, e⟩ | ⟨-, e⟩
  · rw [e]; exact a
  · rw [e]; exact Or.inl rfl
theorem sld_R {G : Bd} {p r c : Int} : ∀ (m : Nat) (k f : Int), (f = -4 ∨ (0 ≤ f ∧ f < 36)) → sld G p r c m k f = -4 ∨ (0 ≤ sld G p r c m k f ∧ sld G p r c m k f < 36)
  | 0, k, f, hf => hf
  | m + 1, k, f, hf => by
    rw [sld]
    have a := @sqO_R2 (sq G p) (sg G p (k * r)) (k * c)
    by_cases h1 : hby G (bk G p (k * r) (k * c)) (1 - sd G p)
    · rw [ifp_p h1]; exact a
    · rw [ifp_n h1]
      by_cases h2 : fre G (bk G p (k * r) (k * c))
      · rw [ifp_p h2]; exact sld_R m (k + 1) _ a
      · rw [ifp_n h2]; exact hf
theorem sli_R {G : Bd} {p r c : Int} : sli G p r c = -4 ∨ (0 ≤ sli G p r c ∧ sli G p r c < 36) := sld_R _ _ _ (Or.inl rfl)
theorem ide_R {G : Bd} {p y : Int} : ide G p y = -4 ∨ (0 ≤ ide G p y ∧ ide G p y < 36) := by
  unfold ide
  have h1 := @kni_R G p
  have h2 := @sli_R G p 1 0
  have h3 := @sli_R G p 0 1
  have h4 := @bii_R G p y
  have h5 := @kgi_R G p
  have h6 := @pwi_R G p
  have h7 := @sqO_R2 (sq G p) (sg G p 0) (-1)
  have h8 : ifp (fre G (bk G p 0 (-1))) (bk G p 0 (-1)) (bii G p y) = -4 ∨ (0 ≤ ifp (fre G (bk G p 0 (-1))) (bk G p 0 (-1)) (bii G p y) ∧ ifp (fre G (bk G p 0 (-1))) (bk G p 0 (-1)) (bii G p y) < 36) := by
    by_cases h : fre G (bk G p 0 (-1))
    · rw [ifp_p h]; exact h7
    · rw [ifp_n h]; exact h4
  omega


