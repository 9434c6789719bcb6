/-! FALLS: the reference's fallsOf -/
noncomputable def FO (G : Bd) (p : Int) : Int := fst1 (fun n => sq (DN G no0 n) p = 36) 61


