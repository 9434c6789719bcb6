/-! FALLS: the class's -/
theorem GB_no {C : Int → Prop} {w : Int → Int} {n : Int} (h : ∀ q : Int, 0 ≤ q → q < n → ¬ C q) : ∀ k : Int, 0 ≤ k → k ≤ n → GB C w k = -4 := by
  refine ind0 (fun _ => rfl) (fun k k0 ih hk => ?_)
  rw [GB_up k0, ifp_n (fun z => h k k0 (by omega) z.1)]
  exact ih (by omega)
theorem DAY_taken {G : Bd} (hO : OKB G) {M : Int → Prop} {ra p : Int} (p0 : 0 ≤ p) (p1 : p < nn G) (hp : sq G p = 36) : sq (DAY G M ra) p = 36 := by
  by_cases hg : goer (setd G (dy G + 1)) M ra (dy G + 1) = -4
  · rw [DAY_no hg]; exact hp
  · rw [DAY_go rfl hg rfl]
    have hO1 : OKB (setd G (dy G + 1)) := OKB_setd hO (by have := hO.2.2.2.1; omega)
    rcases goer_R (G := setd G (dy G + 1)) (M := M) (ra := ra) (y := dy G + 1) hO1 with e | ⟨e0, e1, e2⟩
    · exact absurd e hg
    · have h1 := e2.2.1
      generalize goer (setd G (dy G + 1)) M ra (dy G + 1) = g at *
      have hgp : ¬ p = g := fun e => by subst e; have : sq (setd G (dy G + 1)) p = 36 := hp; omega
      show (if p = g then _ else sq (tof (setd G (dy G + 1)) _) p) = 36
      rw [if_neg hgp]
      unfold tof
      split
      · exact hp
      · rw [sq_mov]
        split
        · rfl
        · exact hp
theorem DN_taken {G : Bd} (hO : OKB G) {M : Int → Prop} {p a : Int} (p0 : 0 ≤ p) (p1 : p < nn G) (a0 : 0 ≤ a) (ha : sq (DN G M a) p = 36) : ∀ k : Int, 0 ≤ k → sq (DN G M (a + k)) p = 36 := by
  refine ind0 (by rw [Int.add_zero]; exact ha) (fun k k0 ih => ?_)
  rw [show a + (k + 1) = (a + k) + 1 by omega, DN_up (by omega)]
  have f := DN_f (M := M) hO (a + k) (by omega)
  exact DAY_taken f.1 p0 (by rw [f.2.1]; exact p1) ih


