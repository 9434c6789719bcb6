/-! FALLS: the reference's falls -/
abbrev FC (G : Bd) (p : Int) : Prop := sq G p < 36 ∧ 0 ≤ FO G p
noncomputable def FF (G : Bd) : Int := GB (FC G) (fun p => - FO G p) (nn G)
noncomputable def vFalls (G : Bd) (p : Int) : Int := if p = -1 then FF G else if 0 ≤ p ∧ p < nn G then FO G p else -1


