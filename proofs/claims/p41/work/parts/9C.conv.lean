/-! THE WORLD AS IT IS MADE, and as the abstract machine has it: by program (wip/p41/gen9C.py) -/
def adF (a nv bs : Nat) (bb : Nat → Nat) (ub : Nat → Nat → Nat) (ls lu n : Nat → Nat) : Nat → Nat → Nat := fun t j => match t with
  | 0 => bb j | 1 => ls j | 2 => a | 4 => ub j 0 | 5 => ub j 1 | 6 => ub j 2 | 7 => ub j 3 | 8 => ub j 4 | 9 => lu j | 10 => n 2 | 11 => n 3 | 12 => nv | 20 => n 0 | 21 => n 1 | _ => bs
theorem va_P_cell {D : va_G} {cl : List vw_C} {ws : va_W} {H : Heap} (hP : va_P D cl ws H) {i q : Nat} {x y : va_E} (hi : ws[i]? = some (q, x)) (hxy : va_at D cl (q, x) H → va_at D cl (q, y) H) : va_P D cl (ws.set i (q, y)) H := by
  intro k z hk
  by_cases e : i = k
  · subst e
    rw [List.getElem?_set_self (List.getElem?_eq_some_iff.mp hi).1] at hk
    cases hk
    exact hxy (hP i _ hi)
  · rw [List.getElem?_set_ne e] at hk
    exact hP k z hk
theorem va_D_cell {A : Nat → Prop} {ws : va_W} (hD : va_D A ws) {i q : Nat} {x y : va_E} (hi : ws[i]? = some (q, x)) : va_D A (ws.set i (q, y)) := by
  have key : ∀ (k : Nat) (z : Nat × va_E), (ws.set i (q, y))[k]? = some z → ∃ e, ws[k]? = some (z.1, e) := by
    intro k z hk
    by_cases e : i = k
    · subst e
      rw [List.getElem?_set_self (List.getElem?_eq_some_iff.mp hi).1] at hk
      cases hk
      exact ⟨x, hi⟩
    · rw [List.getElem?_set_ne e] at hk
      exact ⟨z.2, hk⟩
  refine ⟨fun j k u v hj hk e => ?_, fun k z hk => ?_⟩
  · obtain ⟨e1, h1⟩ := key j u hj
    obtain ⟨e2, h2⟩ := key k v hk
    exact hD.1 j k _ _ h1 h2 e
  · obtain ⟨e1, h1⟩ := key k z hk
    exact hD.2 k (z.1, e1) h1
theorem aQ_at {D : va_G} {cl : List vw_C} {q : Nat} {cQ : ClassId} {f g : Nat → Option Nat} {H : Heap} (h : ∀ j, j < 8 → f j = g j) (h1 : va_at D cl (q, aQ cQ f) H) : va_at D cl (q, aQ cQ g) H := by
  have e : vp_cell cQ (8, .inr (.inr (.inr (.inr f)))) = vp_cell cQ (8, .inr (.inr (.inr (.inr g)))) := by
    rw [vp_cell_q, vp_cell_q]
    unfold arrV
    congr 1
    apply Array.ext
    · simp
    · intro i h1 h2
      have hi : i < 8 := by simpa using h1
      simp [h i hi]
  show H[q]? = some (vp_cell cQ (8, .inr (.inr (.inr (.inr g)))))
  rw [← e]
  exact h1
def wAll (cI cS cB : ClassId) (a nv : Nat) (b n : Nat → Nat) (ub : Nat → Nat → Nat) (LS LB : List (Nat × (Nat → Nat))) : va_W := ((a, .inr (2, w3f b n)) :: (w3t cI cS cB b ub n (fL LS) (fL LB) ++ (eS cI LS ++ eB cI LB))) ++ [(nv, .inl (cI, 64, .inl zI))]
def isA : List Nat := [1, 7, 15, 21, 45, 51, 57, 63, 69, 75, 81, 87, 29, 31, 33, 35, 37, 39, 41, 43, 0, 2, 8, 16, 22, 46, 52, 58, 64, 70, 76, 82, 88, 3, 9, 17, 23, 47, 53, 59, 65, 71, 77, 83, 89, 4, 10, 18, 24, 48, 54, 60, 66, 72, 78, 84, 90, 5, 11, 19, 25, 49, 55, 61, 67, 73, 79, 85, 91, 6, 12, 20, 26, 50, 56, 62, 68, 74, 80, 86, 92, 30, 32, 34, 36, 38, 40, 42, 44, 27, 28, 93, 13, 14]
section CV
variable {D : va_G} {A : Nat → Prop} {cI cS cB : ClassId} {a nv bs : Nat} {b n : Nat → Nat} {ub : Nat → Nat → Nat} {H : Heap} {xs : Nat → Int32} {s0 c0 s1 c1 s2 c2 s3 c3 s4 c4 s5 c5 s6 c6 s7 c7 : Nat} {t0 v0 t1 v1 t2 v2 t3 v3 t4 v4 t5 v5 t6 v6 t7 v7 : Nat → Nat}
set_option maxRecDepth 100000 in
set_option maxHeartbeats 8000000 in
theorem conv_eq : isA.map (fun i => (((wAll cI cS cB a nv b n ub [(s0, t0), (s1, t1), (s2, t2), (s3, t3), (s4, t4), (s5, t5), (s6, t6), (s7, t7)] [(c0, v0), (c1, v1), (c2, v2), (c3, v3), (c4, v4), (c5, v5), (c6, v6), (c7, v7)]).set 13 (n 0, aQ cS (fun j => some ((adF a nv bs (fun k => [b 0, b 1, b 2, b 3, c0, c1, c2, c3, c4, c5, c6, c7].getD k 0) (fun k => [ub 0, ub 1, ub 2, ub 3, v0, v1, v2, v3, v4, v5, v6, v7].getD k (fun _ => 0)) (fun k => [s0, s1, s2, s3, s4, s5, s6, s7].getD k 0) (fun k => [t0 0, t1 0, t2 0, t3 0, t4 0, t5 0, t6 0, t7 0].getD k 0) n) 1 j)))).set 14 (n 1, aQ cB (fun j => some ((adF a nv bs (fun k => [b 0, b 1, b 2, b 3, c0, c1, c2, c3, c4, c5, c6, c7].getD k 0) (fun k => [ub 0, ub 1, ub 2, ub 3, v0, v1, v2, v3, v4, v5, v6, v7].getD k (fun _ => 0)) (fun k => [s0, s1, s2, s3, s4, s5, s6, s7].getD k 0) (fun k => [t0 0, t1 0, t2 0, t3 0, t4 0, t5 0, t6 0, t7 0].getD k 0) n) 0 (4 + j)))))[i]?) = (wsA (adF a nv bs (fun k => [b 0, b 1, b 2, b 3, c0, c1, c2, c3, c4, c5, c6, c7].getD k 0) (fun k => [ub 0, ub 1, ub 2, ub 3, v0, v1, v2, v3, v4, v5, v6, v7].getD k (fun _ => 0)) (fun k => [s0, s1, s2, s3, s4, s5, s6, s7].getD k 0) (fun k => [t0 0, t1 0, t2 0, t3 0, t4 0, t5 0, t6 0, t7 0].getD k 0) n) cI cS cB (h0M xs)).map some := by
  rfl
end CV
