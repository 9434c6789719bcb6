/-! A BOARD AS A VALUE: how many, turn, thought, day; of each piece its kind, figure, side, square (36: taken) -/
abbrev Bd : Type := Int × Int × Int × Int × (Int → Int) × (Int → Int) × (Int → Int) × (Int → Int)
def nn (G : Bd) : Int := G.1
def tn (G : Bd) : Int := G.2.1
def th (G : Bd) : Int := G.2.2.1
def dy (G : Bd) : Int := G.2.2.2.1
def kd (G : Bd) : Int → Int := G.2.2.2.2.1
def fg (G : Bd) : Int → Int := G.2.2.2.2.2.1
def sd (G : Bd) : Int → Int := G.2.2.2.2.2.2.1
def sq (G : Bd) : Int → Int := G.2.2.2.2.2.2.2
def mkB (n t o d : Int) (k f s q : Int → Int) : Bd := (n, t, o, d, k, f, s, q)
noncomputable def ifp {α : Type} (P : Prop) (a b : α) : α := @ite α P (Classical.propDecidable P) a b
theorem ifp_p {α : Type} {P : Prop} {a b : α} (h : P) : ifp P a b = a := if_pos h
theorem ifp_n {α : Type} {P : Prop} {a b : α} (h : ¬ P) : ifp P a b = b := if_neg h
/-- who stands on a square; -4 -/
noncomputable def ons (G : Bd) (q : Int) : Int := @dite Int (∃ p : Int, 0 ≤ p ∧ p < nn G ∧ sq G p = q) (Classical.propDecidable _) (fun h => Classical.choose h) (fun _ => -4)
def OKB (G : Bd) : Prop := (0 ≤ nn G ∧ nn G ≤ 10) ∧ (tn G = 0 ∨ tn G = 1) ∧ (0 ≤ th G ∧ th G ≤ 9999) ∧ 0 ≤ dy G ∧ (∀ p : Int, 0 ≤ p → p < nn G → (0 ≤ kd G p ∧ kd G p < 8) ∧ (0 ≤ fg G p ∧ fg G p < 10) ∧ (sd G p = 0 ∨ sd G p = 1) ∧ (0 ≤ sq G p ∧ sq G p ≤ 36)) ∧ ∀ p q : Int, 0 ≤ p → p < nn G → 0 ≤ q → q < nn G → sq G p = sq G q → sq G p < 36 → p = q
theorem OKB.n {G : Bd} (h : OKB G) : 0 ≤ nn G ∧ nn G ≤ 10 := h.1
theorem OKB.pc {G : Bd} (h : OKB G) (p : Int) (h0 : 0 ≤ p) (h1 : p < nn G) : (0 ≤ kd G p ∧ kd G p < 8) ∧ (0 ≤ fg G p ∧ fg G p < 10) ∧ (sd G p = 0 ∨ sd G p = 1) ∧ (0 ≤ sq G p ∧ sq G p ≤ 36) := h.2.2.2.2.1 p h0 h1
theorem ons_c (G : Bd) (q : Int) : (ons G q = -4 ∧ ∀ p, 0 ≤ p → p < nn G → ¬ sq G p = q) ∨ (0 ≤ ons G q ∧ ons G q < nn G ∧ sq G (ons G q) = q) := by
  unfold ons
  by_cases h : ∃ p : Int, 0 ≤ p ∧ p < nn G ∧ sq G p = q
  · rw [dif_pos h]
    exact Or.inr (Classical.choose_spec h)
  · rw [dif_neg h]
    exact Or.inl ⟨rfl, fun p h0 h1 h2 => h ⟨p, h0, h1, h2⟩⟩
theorem ons_at {G : Bd} (hO : OKB G) {p : Int} (h0 : 0 ≤ p) (h1 : p < nn G) (h2 : sq G p < 36) : ons G (sq G p) = p := by
  rcases ons_c G (sq G p) with ⟨-, h⟩ | ⟨g0, g1, g2⟩
  · exact absurd rfl (h p h0 h1)
  · exact hO.2.2.2.2.2 _ _ g0 g1 h0 h1 g2 (by omega)
/-- the class's board b holds G -/
def RC (h : Mem) (b : Nat) (G : Bd) : Prop := hI h 0 b 5 = nn G ∧ hI h 0 b 6 = tn G ∧ hI h 0 b 7 = th G ∧ hI h 0 b 8 = dy G ∧ (∀ p : Int, 0 ≤ p → p < nn G → hI h 4 b p.toNat = kd G p ∧ hI h 5 b p.toNat = fg G p ∧ hI h 6 b p.toNat = sd G p ∧ hI h 7 b p.toNat = sq G p) ∧ ∀ q : Int, 0 ≤ q → q < 36 → hI h 8 b q.toNat = ons G q
theorem RC.n {h : Mem} {b : Nat} {G : Bd} (H : RC h b G) : hI h 0 b 5 = nn G := H.1
theorem RC.t {h : Mem} {b : Nat} {G : Bd} (H : RC h b G) : hI h 0 b 6 = tn G := H.2.1
theorem RC.o {h : Mem} {b : Nat} {G : Bd} (H : RC h b G) : hI h 0 b 7 = th G := H.2.2.1
theorem RC.d {h : Mem} {b : Nat} {G : Bd} (H : RC h b G) : hI h 0 b 8 = dy G := H.2.2.2.1
theorem RC.k {h : Mem} {b : Nat} {G : Bd} (H : RC h b G) {p : Int} (h0 : 0 ≤ p) (h1 : p < nn G) : hI h 4 b p.toNat = kd G p := (H.2.2.2.2.1 p h0 h1).1
theorem RC.f {h : Mem} {b : Nat} {G : Bd} (H : RC h b G) {p : Int} (h0 : 0 ≤ p) (h1 : p < nn G) : hI h 5 b p.toNat = fg G p := (H.2.2.2.2.1 p h0 h1).2.1
theorem RC.s {h : Mem} {b : Nat} {G : Bd} (H : RC h b G) {p : Int} (h0 : 0 ≤ p) (h1 : p < nn G) : hI h 6 b p.toNat = sd G p := (H.2.2.2.2.1 p h0 h1).2.2.1
theorem RC.q {h : Mem} {b : Nat} {G : Bd} (H : RC h b G) {p : Int} (h0 : 0 ≤ p) (h1 : p < nn G) : hI h 7 b p.toNat = sq G p := (H.2.2.2.2.1 p h0 h1).2.2.2
theorem RC.w {h : Mem} {b : Nat} {G : Bd} (H : RC h b G) {q : Int} (h0 : 0 ≤ q) (h1 : q < 36) : hI h 8 b q.toNat = ons G q := H.2.2.2.2.2 q h0 h1
section C1
variable {d : Nat} {h : Mem} {Q : Option AV → Mem → Prop} {b : Nat} {G : Bd}
theorem c_X0_has (hG : RC h b G) (hO : OKB G) {z : Int} (hz : inR z) (h1 : 0 ≤ z → z < nn G → Q (some (ai (I 1))) h) (h0 : ¬ (0 ≤ z ∧ z < nn G) → Q (some (ai (I 0))) h) : Rn mt (d + 1) 1 [ar 0 b, ai (I z)] h Q := by
  refine Rn.intro iX0_has rfl rfl ?_
  show Rch bX0_has _ _ _ _ 0 [some (ar 0 b), some (ai (I z))] [] _
  have e_n := hG.n
  have g_n := hO.n
  repeat' (first
    | exact h1 (by omega) (by omega)
    | exact h0 (by omega)
    | (show Rch _ _ _ _ _ 0 _ _ _; refine Rch.blk' (Rn_mono mt _) bl_X0_has_0 (i_iload_n rfl (t_if_lt 22 4 rfl rfl (by first | exact hI_R | exact band_R | exact bor_R | exact bshr_R | omega) (fun hc => ?_) (fun hc => ?_))) <;> (first | (exfalso; omega) | skip))
    | (show Rch _ _ _ _ _ 4 _ _ _; refine Rch.blk' (Rn_mono mt _) bl_X0_has_4 (i_iload_n rfl (i_aload_n rfl (i_gfi rfl (t_ic_ge 22 12 rfl rfl (by first | exact hI_R | exact band_R | exact bor_R | exact bshr_R | omega) (by first | exact hI_R | exact band_R | exact bor_R | exact bshr_R | omega) (fun hc => ?_) (fun hc => ?_))))) <;> (try (simp (disch := omega) only [e_n] at hc ⊢)) <;> (first | (exfalso; omega) | skip))
    | (show Rch _ _ _ _ _ 12 _ _ _; refine Rch.blk' (Rn_mono mt _) bl_X0_has_12 (i_iload_n rfl (i_bipush k_10 (t_ic_ge 22 18 rfl rfl (by first | exact hI_R | exact band_R | exact bor_R | exact bshr_R | omega) (by first | exact hI_R | exact band_R | exact bor_R | exact bshr_R | omega) (fun hc => ?_) (fun hc => ?_)))) <;> (first | (exfalso; omega) | skip))
    | (show Rch _ _ _ _ _ 18 _ _ _; refine Rch.blk' (Rn_mono mt _) bl_X0_has_18 (i_iconst k_1 (t_goto 23 rfl ?_)))
    | (show Rch _ _ _ _ _ 22 _ _ _; refine Rch.blk' (Rn_mono mt _) bl_X0_has_22 (i_iconst k_0 (t_none ?_)))
    | (show Rch _ _ _ _ _ 23 _ _ _; refine Rch.blk' (Rn_mono mt _) bl_X0_has_23 (t_zret (by omega) ?_)))
theorem c_X0_isThere (hG : RC h b G) (hO : OKB G) {z : Int} (hz : inR z) (h1 : 0 ≤ z → z < nn G → 0 ≤ sq G z → sq G z < 36 → Q (some (ai (I 1))) h) (h0 : ¬ (0 ≤ z ∧ z < nn G ∧ sq G z < 36) → Q (some (ai (I 0))) h) : Rn mt (d + 2) 2 [ar 0 b, ai (I z)] h Q := by
  refine Rn.intro iX0_isThere rfl rfl ?_
  show Rch bX0_isThere _ _ _ _ 0 [some (ar 0 b), some (ai (I z))] [] _
  have e_q := @RC.q _ _ _ hG
  have g_n := hO.n
  have g_p := hO.pc z
  repeat' (first
    | exact h1 (by omega) (by omega) (by omega) (by omega)
    | exact h0 (by omega)
    | (show Rn _ _ 1 _ _ _; refine c_X0_has (by assumption) (by assumption) (by first | omega | exact hI_R) (fun _ _ => ?_) (fun _ => ?_))
    | (show Rch _ _ _ _ _ 0 _ _ _; refine Rch.blk' (Rn_mono mt _) bl_X0_isThere_0 (i_aload_n rfl (i_iload_n rfl (t_cv2 (Rn_mono mt _) 5 rfl (Nat.le_of_ble_eq_true rfl) ?_))))
    | (show Rch _ _ _ _ _ 5 _ _ _; refine Rch.blk' (Rn_mono mt _) bl_X0_isThere_5 (t_if_eq 23 8 rfl rfl (by first | exact hI_R | exact band_R | exact bor_R | exact bshr_R | omega) (fun hc => ?_) (fun hc => ?_)) <;> (first | (exfalso; omega) | skip))
    | (show Rch _ _ _ _ _ 8 _ _ _; refine Rch.blk' (Rn_mono mt _) bl_X0_isThere_8 (i_aload_n rfl (i_gfr rfl (i_iload_n rfl (i_iald (n := 10) rfl (by omega) (by omega) (by omega) (i_bipush k_36 (t_ic_eq 23 19 rfl rfl (by first | exact hI_R | exact band_R | exact bor_R | exact bshr_R | omega) (by first | exact hI_R | exact band_R | exact bor_R | exact bshr_R | omega) (fun hc => ?_) (fun hc => ?_))))))) <;> (try (simp (disch := omega) only [e_q] at hc ⊢)) <;> (first | (exfalso; omega) | skip))
    | (show Rch _ _ _ _ _ 19 _ _ _; refine Rch.blk' (Rn_mono mt _) bl_X0_isThere_19 (i_iconst k_1 (t_goto 24 rfl ?_)))
    | (show Rch _ _ _ _ _ 23 _ _ _; refine Rch.blk' (Rn_mono mt _) bl_X0_isThere_23 (i_iconst k_0 (t_none ?_)))
    | (show Rch _ _ _ _ _ 24 _ _ _; refine Rch.blk' (Rn_mono mt _) bl_X0_isThere_24 (t_zret (by omega) ?_)))
end C1

