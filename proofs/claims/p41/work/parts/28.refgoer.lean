/-! WHO HEARS, WHO GOES: the reference -/
noncomputable def WS (G : Bd) (P : Int → Prop) : Int := SM (fun i => ifp (P i) (wo (kd G i) (fg G i)) 0) (nn G)
theorem WS_OS {G : Bd} (hO : OKB G) (s : Int) : WS G (OS G s) = WO G s := by
  unfold WS WO
  refine SM_ext (c := nn G) (fun i i0 i1 => ?_) _ hO.n.1 (by omega)
  by_cases hc : OC G s i
  · rw [ifp_p hc, ifp_p ⟨i1, hc⟩]
  · rw [ifp_n hc, ifp_n (fun z => hc z.2)]
theorem WS_ext {G : Bd} (hO : OKB G) {P P' : Int → Prop} (h : ∀ i, 0 ≤ i → i < nn G → (P i ↔ P' i)) : WS G P = WS G P' := by
  unfold WS
  refine SM_ext (c := nn G) (fun i i0 i1 => ?_) _ hO.n.1 (by omega)
  by_cases hc : P i
  · rw [ifp_p hc, ifp_p ((h i i0 i1).mp hc)]
  · rw [ifp_n hc, ifp_n (fun z => hc ((h i i0 i1).mpr z))]
theorem WS_R {G : Bd} (hO : OKB G) {P : Int → Prop} : 0 ≤ WS G P ∧ WS G P ≤ 90 := by
  have := woS_R hO P (nn G) hO.n.1 (by omega)
  have := hO.n
  unfold WS
  omega


