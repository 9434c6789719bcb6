/-! THE WORLD AS THE ABSTRACT MACHINE HAS IT -/
theorem fm_of {α β : Type} {f : α → Option β} : ∀ {l : List α} {r : List β}, l.map f = r.map some → l.filterMap f = r
  | [], [], _ => rfl
  | [], y :: r, h => by simp at h
  | x :: l, [], h => by simp at h
  | x :: l, y :: r, h => by
    simp only [List.map_cons, List.cons.injEq] at h
    rw [List.filterMap_cons_some h.1, fm_of h.2]
theorem lt8 {P : Nat → Prop} (h0 : P 0) (h1 : P 1) (h2 : P 2) (h3 : P 3) (h4 : P 4) (h5 : P 5) (h6 : P 6) (h7 : P 7) : ∀ j, j < 8 → P j := by
  intro j hj
  rcases (show j = 0 ∨ j = 1 ∨ j = 2 ∨ j = 3 ∨ j = 4 ∨ j = 5 ∨ j = 6 ∨ j = 7 by omega) with rfl | rfl | rfl | rfl | rfl | rfl | rfl | rfl <;> assumption
section CV2
variable {D : va_G} {A : Nat → Prop} {cI cS cB : ClassId} {a nv bs : Nat} {b n : Nat → Nat} {ub : Nat → Nat → Nat} {H : Heap} {xs : Nat → Int32}
set_option maxRecDepth 100000 in
set_option maxHeartbeats 8000000 in
theorem conv (bs : Nat) (xs : Nat → Int32) {LS LB : List (Nat × (Nat → Nat))} (h8 : LS.length = 8) (h8b : LB.length = 8) (hP : va_P D vwCl (wAll cI cS cB a nv b n ub LS LB) H) (hD : va_D A (wAll cI cS cB a nv b n ub LS LB)) : ∃ ad : Nat → Nat → Nat, ad 2 0 = a ∧ ad 12 0 = nv ∧ ad 22 0 = bs ∧ va_P D vwCl (wsA ad cI cS cB (h0M xs)) H ∧ va_D A (wsA ad cI cS cB (h0M xs)) := by
  match LS, h8 with
  | [(s0, t0), (s1, t1), (s2, t2), (s3, t3), (s4, t4), (s5, t5), (s6, t6), (s7, t7)], _ =>
    match LB, h8b with
    | [(c0, v0), (c1, v1), (c2, v2), (c3, v3), (c4, v4), (c5, v5), (c6, v6), (c7, v7)], _ =>
      refine ⟨(adF a nv bs (fun k => [b 0, b 1, b 2, b 3, c0, c1, c2, c3, c4, c5, c6, c7].getD k 0) (fun k => [ub 0, ub 1, ub 2, ub 3, v0, v1, v2, v3, v4, v5, v6, v7].getD k (fun _ => 0)) (fun k => [s0, s1, s2, s3, s4, s5, s6, s7].getD k 0) (fun k => [t0 0, t1 0, t2 0, t3 0, t4 0, t5 0, t6 0, t7 0].getD k 0) n), rfl, rfl, rfl, ?_, ?_⟩
      · have hP1 := va_P_cell hP (i := 13) (q := n 0) (x := aQ cS (fL [(s0, t0), (s1, t1), (s2, t2), (s3, t3), (s4, t4), (s5, t5), (s6, t6), (s7, t7)])) (y := aQ cS (fun j => some ((adF a nv bs (fun k => [b 0, b 1, b 2, b 3, c0, c1, c2, c3, c4, c5, c6, c7].getD k 0) (fun k => [ub 0, ub 1, ub 2, ub 3, v0, v1, v2, v3, v4, v5, v6, v7].getD k (fun _ => 0)) (fun k => [s0, s1, s2, s3, s4, s5, s6, s7].getD k 0) (fun k => [t0 0, t1 0, t2 0, t3 0, t4 0, t5 0, t6 0, t7 0].getD k 0) n) 1 j))) rfl (aQ_at (lt8 rfl rfl rfl rfl rfl rfl rfl rfl))
        have hP2 := va_P_cell hP1 (i := 14) (q := n 1) (x := aQ cB (fL [(c0, v0), (c1, v1), (c2, v2), (c3, v3), (c4, v4), (c5, v5), (c6, v6), (c7, v7)])) (y := aQ cB (fun j => some ((adF a nv bs (fun k => [b 0, b 1, b 2, b 3, c0, c1, c2, c3, c4, c5, c6, c7].getD k 0) (fun k => [ub 0, ub 1, ub 2, ub 3, v0, v1, v2, v3, v4, v5, v6, v7].getD k (fun _ => 0)) (fun k => [s0, s1, s2, s3, s4, s5, s6, s7].getD k 0) (fun k => [t0 0, t1 0, t2 0, t3 0, t4 0, t5 0, t6 0, t7 0].getD k 0) n) 0 (4 + j)))) rfl (aQ_at (lt8 rfl rfl rfl rfl rfl rfl rfl rfl))
        exact hP2.sub isA (fm_of conv_eq)
      · have hD1 := va_D_cell hD (i := 13) (q := n 0) (x := aQ cS (fL [(s0, t0), (s1, t1), (s2, t2), (s3, t3), (s4, t4), (s5, t5), (s6, t6), (s7, t7)])) (y := aQ cS (fun j => some ((adF a nv bs (fun k => [b 0, b 1, b 2, b 3, c0, c1, c2, c3, c4, c5, c6, c7].getD k 0) (fun k => [ub 0, ub 1, ub 2, ub 3, v0, v1, v2, v3, v4, v5, v6, v7].getD k (fun _ => 0)) (fun k => [s0, s1, s2, s3, s4, s5, s6, s7].getD k 0) (fun k => [t0 0, t1 0, t2 0, t3 0, t4 0, t5 0, t6 0, t7 0].getD k 0) n) 1 j))) rfl
        have hD2 := va_D_cell hD1 (i := 14) (q := n 1) (x := aQ cB (fL [(c0, v0), (c1, v1), (c2, v2), (c3, v3), (c4, v4), (c5, v5), (c6, v6), (c7, v7)])) (y := aQ cB (fun j => some ((adF a nv bs (fun k => [b 0, b 1, b 2, b 3, c0, c1, c2, c3, c4, c5, c6, c7].getD k 0) (fun k => [ub 0, ub 1, ub 2, ub 3, v0, v1, v2, v3, v4, v5, v6, v7].getD k (fun _ => 0)) (fun k => [s0, s1, s2, s3, s4, s5, s6, s7].getD k 0) (fun k => [t0 0, t1 0, t2 0, t3 0, t4 0, t5 0, t6 0, t7 0].getD k 0) n) 0 (4 + j)))) rfl
        exact hD2.sub isA (by decide +kernel) conv_eq
end CV2
