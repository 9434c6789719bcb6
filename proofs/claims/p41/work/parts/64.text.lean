/-! THE TEXT OF A GAME: the value -/
def nd (l : Int) : Int := if l = 112 then 5 else if l = 109 then 3 else if l = 120 then 1 else if l = 116 then 1 else if l = 107 then 3 else if l = 100 then 2 else -4
theorem nd_R {l : Int} : nd l = -4 ∨ (1 ≤ nd l ∧ nd l ≤ 5) := by unfold nd; omega
theorem nd_c {l : Int} (h : ¬ nd l = -4) : (l = 112 ∧ nd l = 5) ∨ (l = 109 ∧ nd l = 3) ∨ (l = 120 ∧ nd l = 1) ∨ (l = 116 ∧ nd l = 1) ∨ (l = 107 ∧ nd l = 3) ∨ (l = 100 ∧ nd l = 2) := by unfold nd at h ⊢; omega
def wb (c : Int → Int) (n : Int) : Nat → Int → Int → Int
  | 0, _, dl => if dl = -4 then -4 else n
  | f + 1, p, dl => if n ≤ p then (if dl = -4 then -4 else n) else if dl = -4 then (if nd (c p) = -4 then p else wb c n f (p + 1) (nd (c p))) else if 0 < dl then (if 48 ≤ c p ∧ c p ≤ 57 then wb c n f (p + 1) (dl - 1) else p) else (if c p = 59 then wb c n f (p + 1) (-4) else p)
def WB (c : Int → Int) (n W p dl : Int) : Prop := ∃ f : Nat, n - p ≤ (f : Int) ∧ W = wb c n f p dl
section TX
variable {c : Int → Int} {n W p dl : Int}
theorem WB_end (hp : n ≤ p) (H : WB c n W p dl) : W = if dl = -4 then -4 else n := by
  obtain ⟨f, hf, e⟩ := H
  cases f with
  | zero => exact e
  | succ f => rw [e]; exact if_pos hp
theorem WB_l (hp : p < n) (H : WB c n W p (-4)) : (nd (c p) = -4 ∧ W = p) ∨ (¬ nd (c p) = -4 ∧ WB c n W (p + 1) (nd (c p))) := by
  obtain ⟨f, hf, e⟩ := H
  cases f with
  | zero => omega
  | succ f =>
    have e : W = if n ≤ p then (if (-4 : Int) = -4 then -4 else n) else if (-4 : Int) = -4 then (if nd (c p) = -4 then p else wb c n f (p + 1) (nd (c p))) else _ := e
    rw [if_neg (by omega), if_pos rfl] at e
    by_cases z : nd (c p) = -4
    · rw [if_pos z] at e; exact Or.inl ⟨z, e⟩
    · rw [if_neg z] at e; exact Or.inr ⟨z, f, by omega, e⟩
theorem WB_d (hp : p < n) (hd : 0 < dl) (H : WB c n W p dl) : ((48 ≤ c p ∧ c p ≤ 57) ∧ WB c n W (p + 1) (dl - 1)) ∨ (¬ (48 ≤ c p ∧ c p ≤ 57) ∧ W = p) := by
  obtain ⟨f, hf, e⟩ := H
  cases f with
  | zero => omega
  | succ f =>
    have e : W = if n ≤ p then _ else if dl = -4 then _ else if 0 < dl then (if 48 ≤ c p ∧ c p ≤ 57 then wb c n f (p + 1) (dl - 1) else p) else _ := e
    rw [if_neg (by omega), if_neg (by omega), if_pos hd] at e
    by_cases z : 48 ≤ c p ∧ c p ≤ 57
    · rw [if_pos z] at e; exact Or.inl ⟨z, f, by omega, e⟩
    · rw [if_neg z] at e; exact Or.inr ⟨z, e⟩
theorem WB_s (hp : p < n) (H : WB c n W p 0) : (c p = 59 ∧ WB c n W (p + 1) (-4)) ∨ (¬ c p = 59 ∧ W = p) := by
  obtain ⟨f, hf, e⟩ := H
  cases f with
  | zero => omega
  | succ f =>
    have e : W = if n ≤ p then _ else if (0 : Int) = -4 then _ else if (0 : Int) < 0 then _ else (if c p = 59 then wb c n f (p + 1) (-4) else p) := e
    rw [if_neg (by omega), if_neg (by omega), if_neg (by omega)] at e
    by_cases z : c p = 59
    · rw [if_pos z] at e; exact Or.inl ⟨z, f, by omega, e⟩
    · rw [if_neg z] at e; exact Or.inr ⟨z, e⟩
theorem WB_dg (n0 : 0 ≤ n) : ∀ (m : Nat) (q : Int), 0 ≤ q → WB c n (-4) q (m : Int) → (∀ j : Int, 0 ≤ j → j < (m : Int) → 48 ≤ c (q + j) ∧ c (q + j) ≤ 57) ∧ q + (m : Int) + 1 ≤ n ∧ WB c n (-4) (q + (m : Int) + 1) (-4)
  | 0, q, q0, H => by
    by_cases hq : q < n
    · rcases WB_s hq H with ⟨a, b⟩ | ⟨a, b⟩
      · refine ⟨fun j j0 j1 => by omega, by omega, ?_⟩
        rw [show q + ((0 : Nat) : Int) + 1 = q + 1 by omega]
        exact b
      · omega
    · have := WB_end (by omega) H
      rw [if_neg (by omega)] at this
      omega
  | m + 1, q, q0, H => by
    by_cases hq : q < n
    · rcases WB_d hq (by omega) H with ⟨a, b⟩ | ⟨a, b⟩
      · rw [show ((m + 1 : Nat) : Int) - 1 = (m : Int) by omega] at b
        obtain ⟨i1, i2, i3⟩ := WB_dg n0 m (q + 1) (by omega) b
        refine ⟨fun j j0 j1 => ?_, by omega, ?_⟩
        · by_cases z : j = 0
          · subst z; rw [Int.add_zero]; exact a
          · have := i1 (j - 1) (by omega) (by omega)
            rw [show q + 1 + (j - 1) = q + j by omega] at this
            exact this
        · rw [show q + ((m + 1 : Nat) : Int) + 1 = q + 1 + (m : Int) + 1 by omega]
          exact i3
      · omega
    · have := WB_end (by omega) H
      rw [if_neg (by omega)] at this
      omega
theorem WB_st (n0 : 0 ≤ n) {i : Int} (i0 : 0 ≤ i) (i1 : i < n) (H : WB c n (-4) i (-4)) : ¬ nd (c i) = -4 ∧ (∀ j : Int, 1 ≤ j → j ≤ nd (c i) → 48 ≤ c (i + j) ∧ c (i + j) ≤ 57) ∧ i + nd (c i) + 2 ≤ n ∧ WB c n (-4) (i + (2 + nd (c i))) (-4) := by
  rcases WB_l i1 H with ⟨a, b⟩ | ⟨a, b⟩
  · omega
  · have r := @nd_R (c i)
    obtain ⟨m, hm⟩ : ∃ m : Nat, nd (c i) = (m : Int) := ⟨(nd (c i)).toNat, by omega⟩
    rw [hm] at b
    obtain ⟨d1, d2, d3⟩ := WB_dg n0 m (i + 1) (by omega) b
    refine ⟨a, fun j j0 j1 => ?_, by omega, ?_⟩
    · have := d1 (j - 1) (by omega) (by omega)
      rw [show i + 1 + (j - 1) = i + j by omega] at this
      exact this
    · rw [show i + (2 + nd (c i)) = i + 1 + (m : Int) + 1 by omega]
      exact d3
theorem wb_R (n0 : 0 ≤ n) : ∀ (f : Nat) (p dl : Int), 0 ≤ p → wb c n f p dl = -4 ∨ (0 ≤ wb c n f p dl ∧ wb c n f p dl ≤ n)
  | 0, p, dl, p0 => by
    show (if dl = -4 then (-4 : Int) else n) = -4 ∨ (0 ≤ (if dl = -4 then (-4 : Int) else n) ∧ (if dl = -4 then (-4 : Int) else n) ≤ n)
    omega
  | f + 1, p, dl, p0 => by
    have i1 := wb_R n0 f (p + 1) (nd (c p)) (by omega)
    have i2 := wb_R n0 f (p + 1) (dl - 1) (by omega)
    have i3 := wb_R n0 f (p + 1) (-4) (by omega)
    rw [wb]
    split
    · omega
    · split
      · split
        · right; omega
        · exact i1
      · split
        · split
          · exact i2
          · right; omega
        · split
          · exact i3
          · right; omega
def oA (c : Int → Int) (i : Int) : Int := if c i = 100 then 10 * (c (i + 1) - 48) + (c (i + 1 + 1) - 48) else c (i + 1) - 48
def oB (c : Int → Int) (i : Int) : Int := if c i = 109 then 10 * (c (i + 2) - 48) + (c (i + 2 + 1) - 48) else c (i + 2) - 48
def oE (c : Int → Int) (i : Int) : Int := c (i + 3) - 48
def oF (c : Int → Int) (i : Int) : Int := 10 * (c (i + 4) - 48) + (c (i + 4 + 1) - 48)
def okR (V : Bd) (l a b e f : Int) : Prop := (l = 112 → nn V < 10 ∧ a < 8 ∧ (e = 0 ∨ e = 1) ∧ f < 36 ∧ ons V f = -4) ∧ (l = 109 → a < nn V ∧ b < 36 ∧ (ons V b = -4 ∨ ons V b = a)) ∧ (l = 120 → a < nn V ∧ sq V a < 36) ∧ (l = 116 → a = 0 ∨ a = 1) ∧ (l = 107 → a < nn V ∧ b < 8) ∧ (l = 100 → (1 ≤ a ∧ a ≤ 60) ∧ dy V + a ≤ 999)
noncomputable def vR (V : Bd) (l a b e f : Int) : Bd := if l = 112 then addp V a b e f else if l = 109 then mov V a b else if l = 120 then mov V a 36 else if l = 116 then sett V a else if l = 107 then stk V a b e else DN V no0 a
abbrev okTx (c : Int → Int) (V : Bd) (i : Int) : Prop := okR V (c i) (oA c i) (oB c i) (oE c i) (oF c i)
noncomputable abbrev vTx (c : Int → Int) (V : Bd) (i : Int) : Bd := vR V (c i) (oA c i) (oB c i) (oE c i) (oF c i)
theorem vR_ok {V : Bd} (hO : OKB V) (hd : dy V ≤ 999) {l a b e f : Int} (h : okR V l a b e f) (hl : l = 112 ∨ l = 109 ∨ l = 120 ∨ l = 116 ∨ l = 107 ∨ l = 100) (a0 : 0 ≤ a) (b0 : l = 112 ∨ l = 109 ∨ l = 107 → 0 ≤ b) (b1 : l = 112 → b < 10) (e0 : l = 107 → 0 ≤ e ∧ e < 10) (f0 : l = 112 → 0 ≤ f) : OKB (vR V l a b e f) ∧ dy (vR V l a b e f) ≤ 999 := by
  obtain ⟨h1, h2, h3, h4, h5, h6⟩ := h
  rcases hl with rfl | rfl | rfl | rfl | rfl | rfl
  · obtain ⟨z1, z2, z3, z4, z5⟩ := h1 rfl
    exact ⟨OKB_addp hO z1 ⟨a0, z2⟩ ⟨b0 (Or.inl rfl), b1 rfl⟩ z3 (f0 rfl) z4 z5, hd⟩
  · obtain ⟨z1, z2, z3⟩ := h2 rfl
    exact ⟨OKB_mov hO (b0 (Or.inr (Or.inl rfl))) (by omega) (fun _ => z3), hd⟩
  · exact ⟨OKB_off hO a, hd⟩
  · exact ⟨OKB_sett hO (h4 rfl), hd⟩
  · obtain ⟨z1, z2⟩ := h5 rfl
    exact ⟨OKB_stk hO ⟨b0 (Or.inr (Or.inr rfl)), z2⟩ (e0 rfl), hd⟩
  · obtain ⟨z1, z2⟩ := h6 rfl
    have g := DN_f (M := no0) hO a a0
    refine ⟨g.1, ?_⟩
    show dy (DN V no0 a) ≤ 999
    rw [g.2.2.1]; exact z2
/-- a good STATEMENT at i -/
def stG (c : Int → Int) (n i : Int) : Prop := ¬ nd (c i) = -4 ∧ (∀ j : Int, 1 ≤ j → j ≤ nd (c i) → 48 ≤ c (i + j) ∧ c (i + j) ≤ 57) ∧ i + nd (c i) + 2 ≤ n
theorem vT_ok {V : Bd} (hO : OKB V) (hd : dy V ≤ 999) {i : Int} (h : okTx c V i) (hs : stG c n i) : OKB (vTx c V i) ∧ dy (vTx c V i) ≤ 999 := by
  obtain ⟨s1, s2, s3⟩ := hs
  have hl := nd_c s1
  have g1 := s2 1 (by omega) (by omega)
  have g2 := s2 2 (by omega)
  have g3 := s2 3 (by omega)
  have g4 := s2 4 (by omega)
  have g5 := s2 5 (by omega)
  have e1 : i + 1 + 1 = i + 2 := by omega
  have e2 : i + 2 + 1 = i + 3 := by omega
  have e4 : i + 4 + 1 = i + 5 := by omega
  refine vR_ok hO hd h (by omega) ?_ ?_ ?_ ?_ ?_
  · unfold oA; rw [e1]; omega
  · unfold oB; rw [e2]; omega
  · unfold oB; omega
  · unfold oE; omega
  · unfold oF; rw [e4]; omega
theorem stG_r {i : Int} (hs : stG c n i) : 0 ≤ oA c i ∧ oA c i ≤ 99 ∧ (c i = 112 → 0 ≤ oB c i ∧ oB c i < 10) ∧ (c i = 109 → 0 ≤ oB c i ∧ oB c i ≤ 99) ∧ (c i = 107 → (0 ≤ oB c i ∧ oB c i < 10) ∧ 0 ≤ oE c i ∧ oE c i < 10) ∧ (c i = 112 → 0 ≤ oE c i ∧ oE c i < 10) ∧ (c i = 112 → 0 ≤ oF c i ∧ oF c i ≤ 99) := by
  obtain ⟨s1, s2, s3⟩ := hs
  have hl := nd_c s1
  have g1 := s2 1 (by omega) (by omega)
  have g2 := s2 2 (by omega)
  have g3 := s2 3 (by omega)
  have g4 := s2 4 (by omega)
  have g5 := s2 5 (by omega)
  have e1 : i + 1 + 1 = i + 2 := by omega
  have e2 : i + 2 + 1 = i + 3 := by omega
  have e4 : i + 4 + 1 = i + 5 := by omega
  unfold oA oB oE oF
  rw [e1, e2, e4]
  omega
noncomputable def ns (c : Int → Int) (n : Int) : Nat → Int → Int
  | 0, _ => 0
  | f + 1, i => if n ≤ i then 0 else 1 + ns c n f (i + (2 + nd (c i)))
noncomputable def rn (c : Int → Int) (n : Int) : Nat → Bd → Int → Int × Bd
  | 0, V, _ => (0, V)
  | f + 1, V, i => if n ≤ i then (0, V) else ifp (okTx c V i) (rn c n f (vTx c V i) (i + (2 + nd (c i)))) (-2000 - i, V)
end TX
noncomputable def wbS (S : Sv) (x : Int) : Int := if sz S x = 0 then 0 else wb (el S x) (sz S x) 101 0 (-4)
noncomputable def oGame (G : Bd) (S : Sv) (x : Int) : Int × Bd := if ¬ rfu S x 2 = 0 then (rfu S x 2, G) else if ¬ so S x = 0 then (-12, G) else if ¬ wbS S x = -4 then (-1000 - wbS S x, G) else if (rn (el S x) (sz S x) 101 G 0).1 = 0 then (ns (el S x) (sz S x) 101 0, (rn (el S x) (sz S x) 101 G 0).2) else ((rn (el S x) (sz S x) 101 G 0).1, G)
/-- bytes are bytes -/
def OKE (S : Sv) : Prop := ∀ d : Int, 0 ≤ d → d < 8 → ho S d = 2 → so S d = 0 → ∀ i : Int, 0 ≤ i → i < 100 → -128 ≤ el S d i ∧ el S d i ≤ 127
theorem OKE_keep {S S' : Sv} {d w k f v : Int} (h : OKE S) (e : oKeep S d w k f = (v, S')) : OKE S' := by
  unfold oKeep at e
  split at e
  · cases e
    intro a a0 a1 h2 h3
    have h2 : fu (ho S) d 0 a = 2 := h2
    by_cases c : a = d
    · subst c; rw [fu_s] at h2; omega
    · rw [fu_o c] at h2; exact h a a0 a1 h2 h3
  · split at e
    · cases e
      intro a a0 a1 h2 h3
      have h2 : fu (ho S) d 1 a = 2 := h2
      by_cases c : a = d
      · subst c; rw [fu_s] at h2; omega
      · rw [fu_o c] at h2; exact h a a0 a1 h2 h3
    · cases e; exact h
theorem OKE_row {S S' : Sv} {d s n v : Int} (h : OKE S) (e : oRow S d s n = (v, S')) : OKE S' := by
  unfold oRow at e
  split at e
  · split at e
    · cases e; exact h
    · cases e
      intro a a0 a1 h2 h3 i i0 i1
      show -128 ≤ (if a = d then 0 else el S a i) ∧ (if a = d then 0 else el S a i) ≤ 127
      by_cases c : a = d
      · rw [if_pos c]; omega
      · have h2 : fu (ho S) d 2 a = 2 := h2
        have h3 : fu (so S) d s a = 0 := h3
        rw [fu_o c] at h2 h3
        rw [if_neg c]
        exact h a a0 a1 h2 h3 i i0 i1
  · cases e; exact h
theorem OKE_put {S S' : Sv} {d i v u : Int} (h : OKE S) (e : oPut S d i v = (u, S')) : OKE S' := by
  unfold oPut at e
  split at e
  · split at e
    · cases e
      intro a a0 a1 h2 h3 j j0 j1
      show -128 ≤ (if a = d ∧ j = i then nar (so S d) v else el S a j) ∧ (if a = d ∧ j = i then nar (so S d) v else el S a j) ≤ 127
      by_cases c : a = d ∧ j = i
      · rw [if_pos c]
        have h3 : so S a = 0 := h3
        obtain ⟨c, -⟩ := c
        subst c
        have h4 : so S a = 0 := h3
        have h8a := Int8.le_toInt (I v).toInt8
        have h8b := Int8.toInt_lt (I v).toInt8
        unfold nar
        rw [if_pos h4]
        omega
      · rw [if_neg c]; exact h a a0 a1 h2 h3 j j0 j1
    · cases e; exact h
  · cases e; exact h
theorem OKE_copy {S S' : Sv} {x i y j n v : Int} (hK : OKS S) (h : OKE S) (e : oCopy S x i y j n = (v, S')) : OKE S' := by
  unfold oCopy at e
  split at e
  · cases e; exact h
  split at e
  · cases e; exact h
  split at e
  · cases e; exact h
  split at e
  · cases e; exact h
  · rename_i q1 q2 q3 q4
    cases e
    have q1 := Classical.not_not.mp q1
    have q3 := Classical.not_not.mp q3
    have q4 := Classical.not_not.mp q4
    intro a a0 a1 h2 h3 q q0 q5
    show -128 ≤ (if a = y ∧ j ≤ q ∧ q < j + n then el S x (i + (q - j)) else el S a q) ∧ (if a = y ∧ j ≤ q ∧ q < j + n then el S x (i + (q - j)) else el S a q) ≤ 127
    have gx := (hK x q1.1.1 q1.1.2).2.2 q3.1
    by_cases c : a = y ∧ j ≤ q ∧ q < j + n
    · rw [if_pos c]
      have h3 : so S a = 0 := h3
      obtain ⟨c, c2, c3⟩ := c
      subst c
      exact h x q1.1.1 q1.1.2 q3.1 (q3.2.2.trans h3) _ (by omega) (by omega)
    · rw [if_neg c]; exact h a a0 a1 h2 h3 q q0 q5
theorem OKS_keep {S S' : Sv} {d w k f v : Int} (h : OKS S) (e : oKeep S d w k f = (v, S')) : OKS S' := by
  unfold oKeep at e
  split at e
  · rename_i q
    cases e
    intro a a0 a1
    obtain ⟨g1, g2, g3⟩ := h a a0 a1
    show (fu (ho S) d 0 a = 0 ∨ fu (ho S) d 0 a = 1 ∨ fu (ho S) d 0 a = 2) ∧ (fu (ho S) d 0 a = 1 → _) ∧ (fu (ho S) d 0 a = 2 → _)
    by_cases c : a = d
    · subst c; rw [fu_s]; exact ⟨Or.inl rfl, fun z => by omega, fun z => by omega⟩
    · rw [fu_o c]; exact ⟨g1, g2, g3⟩
  · split at e
    · rename_i q1 q
      cases e
      intro a a0 a1
      obtain ⟨g1, g2, g3⟩ := h a a0 a1
      show (fu (ho S) d 1 a = 0 ∨ fu (ho S) d 1 a = 1 ∨ fu (ho S) d 1 a = 2) ∧ (fu (ho S) d 1 a = 1 → (0 ≤ fu (sk S) d k a ∧ fu (sk S) d k a < 8) ∧ 0 ≤ fu (sf S) d f a ∧ fu (sf S) d f a < 10) ∧ (fu (ho S) d 1 a = 2 → _)
      by_cases c : a = d
      · subst c; rw [fu_s, fu_s, fu_s]; exact ⟨Or.inr (Or.inl rfl), fun _ => q.2.2, fun z => by omega⟩
      · rw [fu_o c, fu_o c, fu_o c]; exact ⟨g1, g2, g3⟩
    · cases e; exact h
theorem OKS_row {S S' : Sv} {d s n v : Int} (h : OKS S) (e : oRow S d s n = (v, S')) : OKS S' := by
  unfold oRow at e
  split at e
  · rename_i q
    split at e
    · cases e; exact h
    · rename_i q2
      cases e
      intro a a0 a1
      obtain ⟨g1, g2, g3⟩ := h a a0 a1
      show (fu (ho S) d 2 a = 0 ∨ fu (ho S) d 2 a = 1 ∨ fu (ho S) d 2 a = 2) ∧ (fu (ho S) d 2 a = 1 → _) ∧ (fu (ho S) d 2 a = 2 → (0 ≤ fu (so S) d s a ∧ fu (so S) d s a ≤ 2) ∧ 0 ≤ fu (sz S) d n a ∧ fu (sz S) d n a ≤ 100)
      by_cases c : a = d
      · subst c; rw [fu_s, fu_s, fu_s]; exact ⟨Or.inr (Or.inr rfl), fun z => by omega, fun _ => ⟨q.2.1, by omega, q.2.2⟩⟩
      · rw [fu_o c, fu_o c, fu_o c]; exact ⟨g1, g2, g3⟩
  · cases e; exact h
theorem OKS_put {S S' : Sv} {d i v u : Int} (h : OKS S) (e : oPut S d i v = (u, S')) : OKS S' := by
  unfold oPut at e
  split at e
  · split at e
    · cases e; exact h
    · cases e; exact h
  · cases e; exact h
theorem OKS_copy {S S' : Sv} {x i y j n v : Int} (h : OKS S) (e : oCopy S x i y j n = (v, S')) : OKS S' := by
  unfold oCopy at e
  split at e
  · cases e; exact h
  split at e
  · cases e; exact h
  split at e
  · cases e; exact h
  split at e
  · cases e; exact h
  · cases e; exact h


