/-! SHELVES: the reference; copy on both sides -/
noncomputable def oCopy (S : Sv) (x i y j n : Int) : Int × Sv := if ¬ ((0 ≤ x ∧ x < 8) ∧ 0 ≤ y ∧ y < 8) then (-1, S) else if ho S x = 0 ∨ ho S y = 0 then (-11, S) else if ¬ (ho S x = 2 ∧ ho S y = 2 ∧ so S x = so S y) then (-12, S) else if ¬ (0 ≤ n ∧ 0 ≤ i ∧ 0 ≤ j ∧ i + n ≤ sz S x ∧ j + n ≤ sz S y) then (-13, S) else (n, (ho S, sk S, sf S, so S, sz S, fun a q => if a = y ∧ j ≤ q ∧ q < j + n then el S x (i + (q - j)) else el S a q))


