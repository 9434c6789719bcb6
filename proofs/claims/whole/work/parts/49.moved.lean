/-! MOVED: an idea is never a square that its own side holds -/
abbrev nob (G : Bd) (p v : Int) : Prop := v = -4 ∨ ¬ hby G v (sd G p)
theorem nob_if {G : Bd} {p a b : Int} {P : Prop} (ha : P → nob G p a) (hb : ¬ P → nob G p b) : nob G p (ifp P a b) := by
  by_cases c : P
  · rw [ifp_p c]; exact ha c
  · rw [ifp_n c]; exact hb c
theorem nob_f {G : Bd} {p v : Int} (h : fre G v) : nob G p v := Or.inr (fun z => by
  have h1 := z.2.2.1
  have h2 := h.2.2
  omega)
theorem nob_o {G : Bd} {p v : Int} (h : hby G v (1 - sd G p)) : nob G p v := Or.inr (fun z => by
  have h1 := z.2.2.2
  have h2 := h.2.2.2
  omega)
theorem nob_sld {G : Bd} {p r c : Int} : ∀ (m : Nat) (k f : Int), nob G p f → nob G p (sld G p r c m k f) := by
  intro m
  induction m with
  | zero => exact fun k f hf => hf
  | succ m ih =>
    intro k f hf
    show nob G p (ifp _ _ _)
    exact nob_if nob_o (fun _ => nob_if (fun c => ih _ _ (nob_f c)) (fun _ => hf))
theorem nob_bii {G : Bd} {p d : Int} : nob G p (bii G p d) := by
  unfold bii
  exact nob_if (fun c => Or.inr c.2.1) (fun _ => Or.inl rfl)
theorem nob_ide {G : Bd} {p d : Int} : nob G p (ide G p d) := by
  have hs : ∀ r c : Int, nob G p (sli G p r c) := fun r c => nob_sld 5 1 (-4) (Or.inl rfl)
  unfold ide
  split
  · unfold kni
    exact nob_if (fun c => Or.inr c.2) (fun _ => nob_if (fun c => Or.inr c.2) (fun _ => Or.inl rfl))
  split
  · exact hs _ _
  split
  · exact nob_bii
  split
  · split
    · exact hs _ _
    · exact hs _ _
  split
  · unfold kgi
    exact nob_if (fun c => nob_f c.1) (fun _ => Or.inl rfl)
  split
  · exact nob_if nob_f (fun _ => nob_bii)
  · unfold pwi
    exact nob_if nob_f (fun _ => nob_if nob_o (fun _ => Or.inl rfl))
theorem DAY_ne {G : Bd} {M : Int → Prop} {ra : Int} (hO : OKB (setd G (dy G + 1))) (h : ¬ goer (setd G (dy G + 1)) M ra (dy G + 1) = -4) : ∃ g, 0 ≤ g ∧ g < nn G ∧ ¬ sq (DAY G M ra) g = sq G g := by
  rcases goer_R (G := setd G (dy G + 1)) (M := M) (ra := ra) (y := dy G + 1) hO with e | ⟨g0, g1, g2⟩
  · exact absurd e h
  · refine ⟨_, g0, g1, fun e => ?_⟩
    rw [DAY_go rfl h rfl] at e
    have e2 : (if goer (setd G (dy G + 1)) M ra (dy G + 1) = goer (setd G (dy G + 1)) M ra (dy G + 1) then ide (setd G (dy G + 1)) (goer (setd G (dy G + 1)) M ra (dy G + 1)) (dy G + 1) else sq (tof (setd G (dy G + 1)) (ons (setd G (dy G + 1)) (ide (setd G (dy G + 1)) (goer (setd G (dy G + 1)) M ra (dy G + 1)) (dy G + 1)))) (goer (setd G (dy G + 1)) M ra (dy G + 1))) = sq (setd G (dy G + 1)) (goer (setd G (dy G + 1)) M ra (dy G + 1)) := e
    rw [if_pos rfl] at e2
    have ha := ons_at hO g0 g1 g2.2.1
    have hp := (hO.pc _ g0 g1).2.2.2
    rcases @nob_ide (setd G (dy G + 1)) (goer (setd G (dy G + 1)) M ra (dy G + 1)) (dy G + 1) with z | z
    · exact g2.2.2.2 z
    · rw [e2] at z
      exact z ⟨hp.1, g2.2.1, by rw [ha]; exact g0, by rw [ha]⟩
theorem DAY_eq {G : Bd} {M : Int → Prop} {ra : Int} (h : goer (setd G (dy G + 1)) M ra (dy G + 1) = -4) (i : Int) : sq (DAY G M ra) i = sq G i := by
  rw [DAY_no h]
  rfl

