/-! A BOARD AS A VALUE: how many, turn, thought, day; of each piece its kind, figure, side, square (36: taken) -/
abbrev Bd : Type := Int × Int × Int × Int × (Int → Int) × (Int → Int) × (Int → Int) × (Int → Int)
def nn (G : Bd) : Int := G.1
def tn (G : Bd) : Int := G.2.1
def th (G : Bd) : Int := G.2.2.1
def dy (G : Bd) : Int := G.2.2.2.1
def kd (G : Bd) : Int → Int := G.2.2.2.2.1
def fg (G : Bd) : Int → Int := G.2.2.2.2.2.1
def sd (G : Bd) : Int → Int := G.2.2.2.2.2.2.1
def sq (G : Bd) : Int → Int := G.2.2.2.2.2.2.2
def mkB (n t o d : Int) (k f s q : Int → Int) : Bd := (n, t, o, d, k, f, s, q)
noncomputable def ifp {α : Type} (P : Prop) (a b : α) : α := @ite α P (Classical.propDecidable P) a b
theorem ifp_p {α : Type} {P : Prop} {a b : α} (h : P) : ifp P a b = a := if_pos h
theorem ifp_n {α : Type} {P : Prop} {a b : α} (h : ¬ P) : ifp P a b = b := if_neg h
/-- who stands on a square; -4 -/
noncomputable def ons (G : Bd) (q : Int) : Int := @dite Int (∃ p : Int, 0 ≤ p ∧ p < nn G ∧ sq G p = q) (Classical.propDecidable _) (fun h => Classical.choose h) (fun _ => -4)
def OKB (G : Bd) : Prop := (0 ≤ nn G ∧ nn G ≤ 10) ∧ (tn G = 0 ∨ tn G = 1) ∧ (0 ≤ th G ∧ th G ≤ 9999) ∧ 0 ≤ dy G ∧ (∀ p : Int, 0 ≤ p → p < nn G → (0 ≤ kd G p ∧ kd G p < 8) ∧ (0 ≤ fg G p ∧ fg G p < 10) ∧ (sd G p = 0 ∨ sd G p = 1) ∧ (0 ≤ sq G p ∧ sq G p ≤ 36)) ∧ ∀ p q : Int, 0 ≤ p → p < nn G → 0 ≤ q → q < nn G → sq G p = sq G q → sq G p < 36 → p = q
theorem OKB.n {G : Bd} (h : OKB G) : 0 ≤ nn G ∧ nn G ≤ 10 := h.1
theorem OKB.pc {G : Bd} (h : OKB G) (p : Int) (h0 : 0 ≤ p) (h1 : p < nn G) : (0 ≤ kd G p ∧ kd G p < 8) ∧ (0 ≤ fg G p ∧ fg G p < 10) ∧ (sd G p = 0 ∨ sd G p = 1) ∧ (0 ≤ sq G p ∧ sq G p ≤ 36) := h.2.2.2.2.1 p h0 h1
theorem ons_c (G : Bd) (q : Int) : (ons G q = -4 ∧ ∀ p, 0 ≤ p → p < nn G → ¬ sq G p = q) ∨ (0 ≤ ons G q ∧ ons G q < nn G ∧ sq G (ons G q) = q) := by
  unfold ons
  by_cases h : ∃ p : Int, 0 ≤ p ∧ p < nn G ∧ sq G p = q
  · rw [dif_pos h]
    exact Or.inr (Classical.choose_spec h)
  · rw [dif_neg h]
    exact Or.inl ⟨rfl, fun p h0 h1 h2 => h ⟨p, h0, h1, h2⟩⟩
theorem ons_at {G : Bd} (hO : OKB G) {p : Int} (h0 : 0 ≤ p) (h1 : p < nn G) (h2 : sq G p < 36) : ons G (sq G p) = p := by
  rcases ons_c G (sq G p) with ⟨-, h⟩ | ⟨g0, g1, g2⟩
  · exact absurd rfl (h p h0 h1)
  · exact hO.2.2.2.2.2 _ _ g0 g1 h0 h1 g2 (by omega)
/-- the class's board b holds G -/
def RC (h : Mem) (b : Nat) (G : Bd) : Prop := hI h 0 b 5 = nn G ∧ hI h 0 b 6 = tn G ∧ hI h 0 b 7 = th G ∧ hI h 0 b 8 = dy G ∧ (∀ p : Int, 0 ≤ p → p < nn G → hI h 4 b p.toNat = kd G p ∧ hI h 5 b p.toNat = fg G p ∧ hI h 6 b p.toNat = sd G p ∧ hI h 7 b p.toNat = sq G p) ∧ ∀ q : Int, 0 ≤ q → q < 36 → hI h 8 b q.toNat = ons G q
theorem RC.n {h : Mem} {b : Nat} {G : Bd} (H : RC h b G) : hI h 0 b 5 = nn G := H.1
theorem RC.t {h : Mem} {b : Nat} {G : Bd} (H : RC h b G) : hI h 0 b 6 = tn G := H.2.1
theorem RC.o {h : Mem} {b : Nat} {G : Bd} (H : RC h b G) : hI h 0 b 7 = th G := H.2.2.1
theorem RC.d {h : Mem} {b : Nat} {G : Bd} (H : RC h b G) : hI h 0 b 8 = dy G := H.2.2.2.1
theorem RC.k {h : Mem} {b : Nat} {G : Bd} (H : RC h b G) {p : Int} (h0 : 0 ≤ p) (h1 : p < nn G) : hI h 4 b p.toNat = kd G p := (H.2.2.2.2.1 p h0 h1).1
theorem RC.f {h : Mem} {b : Nat} {G : Bd} (H : RC h b G) {p : Int} (h0 : 0 ≤ p) (h1 : p < nn G) : hI h 5 b p.toNat = fg G p := (H.2.2.2.2.1 p h0 h1).2.1
theorem RC.s {h : Mem} {b : Nat} {G : Bd} (H : RC h b G) {p : Int} (h0 : 0 ≤ p) (h1 : p < nn G) : hI h 6 b p.toNat = sd G p := (H.2.2.2.2.1 p h0 h1).2.2.1
theorem RC.q {h : Mem} {b : Nat} {G : Bd} (H : RC h b G) {p : Int} (h0 : 0 ≤ p) (h1 : p < nn G) : hI h 7 b p.toNat = sq G p := (H.2.2.2.2.1 p h0 h1).2.2.2
theorem RC.w {h : Mem} {b : Nat} {G : Bd} (H : RC h b G) {q : Int} (h0 : 0 ≤ q) (h1 : q < 36) : hI h 8 b q.toNat = ons G q := H.2.2.2.2.2 q h0 h1
section C1
variable {d L : Nat} {h : Mem} {Q : Option AV → Mem → Prop} {b : Nat} {G : Bd}
theorem c_X0_has (hG : RC h b G) (hO : OKB G) {z : Int} (hz : inR z) (h1 : 0 ≤ z → z < nn G → Q (some (ai (I 1))) h) (h0 : ¬ (0 ≤ z ∧ z < nn G) → Q (some (ai (I 0))) h) : Rn mt L (d + 1) 1 [ar 0 b, ai (I z)] h Q := by
  refine Rn.intro iX0_has rfl rfl ?_
  show Rch bX0_has _ _ _ _ 0 [some (ar 0 b), some (ai (I z))] [] _
  have e_n := hG.n
  have g_n := hO.n
  repeat' (first
    | exact h1 (by omega) (by omega)
    | exact h0 (by omega)
    | (show Rch _ _ _ _ _ 0 _ _ _; refine Rch.blk' (Rn_mono mt _ _) bl_X0_has_0 (i_iload_n rfl (t_if_lt 22 4 rfl rfl (by first | exact hI_R | exact band_R | exact bor_R | exact bshr_R | exact lcm_R | omega | (simp (disch := omega) only [e_n]; omega)) (fun hc => ?_) (fun hc => ?_))) <;> (first | (exfalso; omega) | skip))
    | (show Rch _ _ _ _ _ 4 _ _ _; refine Rch.blk' (Rn_mono mt _ _) bl_X0_has_4 (i_iload_n rfl (i_aload_n rfl (i_gfi rfl (t_ic_ge 22 12 rfl rfl (by first | exact hI_R | exact band_R | exact bor_R | exact bshr_R | exact lcm_R | omega | (simp (disch := omega) only [e_n]; omega)) (by first | exact hI_R | exact band_R | exact bor_R | exact bshr_R | exact lcm_R | omega | (simp (disch := omega) only [e_n]; omega)) (fun hc => ?_) (fun hc => ?_))))) <;> (try (simp (disch := omega) only [e_n] at hc ⊢)) <;> (first | (exfalso; omega) | skip))
    | (show Rch _ _ _ _ _ 12 _ _ _; refine Rch.blk' (Rn_mono mt _ _) bl_X0_has_12 (i_iload_n rfl (i_bipush k_10 (t_ic_ge 22 18 rfl rfl (by first | exact hI_R | exact band_R | exact bor_R | exact bshr_R | exact lcm_R | omega | (simp (disch := omega) only [e_n]; omega)) (by first | exact hI_R | exact band_R | exact bor_R | exact bshr_R | exact lcm_R | omega | (simp (disch := omega) only [e_n]; omega)) (fun hc => ?_) (fun hc => ?_)))) <;> (first | (exfalso; omega) | skip))
    | (show Rch _ _ _ _ _ 18 _ _ _; refine Rch.blk' (Rn_mono mt _ _) bl_X0_has_18 (i_iconst k_1 (t_goto 23 rfl ?_)))
    | (show Rch _ _ _ _ _ 22 _ _ _; refine Rch.blk' (Rn_mono mt _ _) bl_X0_has_22 (i_iconst k_0 (t_none ?_)))
    | (show Rch _ _ _ _ _ 23 _ _ _; refine Rch.blk' (Rn_mono mt _ _) bl_X0_has_23 (t_zret (by omega) ?_)))
theorem c_X0_isThere (hG : RC h b G) (hO : OKB G) {z : Int} (hz : inR z) (h1 : 0 ≤ z → z < nn G → 0 ≤ sq G z → sq G z < 36 → Q (some (ai (I 1))) h) (h0 : ¬ (0 ≤ z ∧ z < nn G ∧ sq G z < 36) → Q (some (ai (I 0))) h) : Rn mt L (d + 2) 2 [ar 0 b, ai (I z)] h Q := by
  refine Rn.intro iX0_isThere rfl rfl ?_
  show Rch bX0_isThere _ _ _ _ 0 [some (ar 0 b), some (ai (I z))] [] _
  have e_q := @RC.q _ _ _ hG
  have g_n := hO.n
  have g_p := hO.pc z
  repeat' (first
    | exact h1 (by omega) (by omega) (by omega) (by omega)
    | exact h0 (by omega)
    | (show Rn _ _ _ 1 _ _ _; refine c_X0_has (by assumption) (by assumption) (by first | omega | exact hI_R) (fun _ _ => ?_) (fun _ => ?_))
    | (show Rch _ _ _ _ _ 0 _ _ _; refine Rch.blk' (Rn_mono mt _ _) bl_X0_isThere_0 (i_aload_n rfl (i_iload_n rfl (t_cv2 (Rn_mono mt _ _) 5 rfl (Nat.le_of_ble_eq_true rfl) ?_))))
    | (show Rch _ _ _ _ _ 5 _ _ _; refine Rch.blk' (Rn_mono mt _ _) bl_X0_isThere_5 (t_if_eq 23 8 rfl rfl (by first | exact hI_R | exact band_R | exact bor_R | exact bshr_R | exact lcm_R | omega | (simp (disch := omega) only [e_q]; omega)) (fun hc => ?_) (fun hc => ?_)) <;> (first | (exfalso; omega) | skip))
    | (show Rch _ _ _ _ _ 8 _ _ _; refine Rch.blk' (Rn_mono mt _ _) bl_X0_isThere_8 (i_aload_n rfl (i_gfr rfl (i_iload_n rfl (i_iald (n := 10) rfl (by first | omega | (simp (disch := omega) only [e_q]; omega)) (by first | omega | (simp (disch := omega) only [e_q]; omega)) (by first | omega | (simp (disch := omega) only [e_q]; omega)) (i_bipush k_36 (t_ic_eq 23 19 rfl rfl (by first | exact hI_R | exact band_R | exact bor_R | exact bshr_R | exact lcm_R | omega | (simp (disch := omega) only [e_q]; omega)) (by first | exact hI_R | exact band_R | exact bor_R | exact bshr_R | exact lcm_R | omega | (simp (disch := omega) only [e_q]; omega)) (fun hc => ?_) (fun hc => ?_))))))) <;> (try (simp (disch := omega) only [e_q] at hc ⊢)) <;> (first | (exfalso; omega) | skip))
    | (show Rch _ _ _ _ _ 19 _ _ _; refine Rch.blk' (Rn_mono mt _ _) bl_X0_isThere_19 (i_iconst k_1 (t_goto 24 rfl ?_)))
    | (show Rch _ _ _ _ _ 23 _ _ _; refine Rch.blk' (Rn_mono mt _ _) bl_X0_isThere_23 (i_iconst k_0 (t_none ?_)))
    | (show Rch _ _ _ _ _ 24 _ _ _; refine Rch.blk' (Rn_mono mt _ _) bl_X0_isThere_24 (t_zret (by omega) ?_)))
theorem c_X0_isThereOf (hG : RC h b G) (hO : OKB G) {z s : Int} (hz : inR z) (hs : inR s) (h1 : 0 ≤ z → z < nn G → sd G z = s → 0 ≤ sq G z → sq G z < 36 → Q (some (ai (I 1))) h) (h0 : ¬ (0 ≤ z ∧ z < nn G ∧ sd G z = s ∧ sq G z < 36) → Q (some (ai (I 0))) h) : Rn mt L (d + 1) 3 [ar 0 b, ai (I z), ai (I s)] h Q := by
  refine Rn.intro iX0_isThereOf rfl rfl ?_
  show Rch bX0_isThereOf _ _ _ _ 0 [some (ar 0 b), some (ai (I z)), some (ai (I s))] [] _
  have e_q := @RC.q _ _ _ hG
  have e_s := @RC.s _ _ _ hG
  have e_n := hG.n
  have g_n := hO.n
  have g_p := hO.pc z
  repeat' (first
    | exact h1 (by omega) (by omega) (by omega) (by omega) (by omega)
    | exact h0 (by omega)
    | (show Rch _ _ _ _ _ 0 _ _ _; refine Rch.blk' (Rn_mono mt _ _) bl_X0_isThereOf_0 (i_iload_n rfl (t_if_lt 43 4 rfl rfl (by first | exact hI_R | exact band_R | exact bor_R | exact bshr_R | exact lcm_R | omega | (simp (disch := omega) only [e_n, e_q, e_s]; omega)) (fun hc => ?_) (fun hc => ?_))) <;> (first | (exfalso; omega) | skip))
    | (show Rch _ _ _ _ _ 4 _ _ _; refine Rch.blk' (Rn_mono mt _ _) bl_X0_isThereOf_4 (i_iload_n rfl (i_aload_n rfl (i_gfi rfl (t_ic_ge 43 12 rfl rfl (by first | exact hI_R | exact band_R | exact bor_R | exact bshr_R | exact lcm_R | omega | (simp (disch := omega) only [e_n, e_q, e_s]; omega)) (by first | exact hI_R | exact band_R | exact bor_R | exact bshr_R | exact lcm_R | omega | (simp (disch := omega) only [e_n, e_q, e_s]; omega)) (fun hc => ?_) (fun hc => ?_))))) <;> (try (simp (disch := omega) only [e_n, e_q, e_s] at hc ⊢)) <;> (first | (exfalso; omega) | skip))
    | (show Rch _ _ _ _ _ 12 _ _ _; refine Rch.blk' (Rn_mono mt _ _) bl_X0_isThereOf_12 (i_iload_n rfl (i_bipush k_10 (t_ic_ge 43 18 rfl rfl (by first | exact hI_R | exact band_R | exact bor_R | exact bshr_R | exact lcm_R | omega | (simp (disch := omega) only [e_n, e_q, e_s]; omega)) (by first | exact hI_R | exact band_R | exact bor_R | exact bshr_R | exact lcm_R | omega | (simp (disch := omega) only [e_n, e_q, e_s]; omega)) (fun hc => ?_) (fun hc => ?_)))) <;> (first | (exfalso; omega) | skip))
    | (show Rch _ _ _ _ _ 18 _ _ _; refine Rch.blk' (Rn_mono mt _ _) bl_X0_isThereOf_18 (i_aload_n rfl (i_gfr rfl (i_iload_n rfl (i_iald (n := 10) rfl (by first | omega | (simp (disch := omega) only [e_n, e_q, e_s]; omega)) (by first | omega | (simp (disch := omega) only [e_n, e_q, e_s]; omega)) (by first | omega | (simp (disch := omega) only [e_n, e_q, e_s]; omega)) (i_iload_n rfl (t_ic_ne 43 28 rfl rfl (by first | exact hI_R | exact band_R | exact bor_R | exact bshr_R | exact lcm_R | omega | (simp (disch := omega) only [e_n, e_q, e_s]; omega)) (by first | exact hI_R | exact band_R | exact bor_R | exact bshr_R | exact lcm_R | omega | (simp (disch := omega) only [e_n, e_q, e_s]; omega)) (fun hc => ?_) (fun hc => ?_))))))) <;> (try (simp (disch := omega) only [e_n, e_q, e_s] at hc ⊢)) <;> (first | (exfalso; omega) | skip))
    | (show Rch _ _ _ _ _ 28 _ _ _; refine Rch.blk' (Rn_mono mt _ _) bl_X0_isThereOf_28 (i_aload_n rfl (i_gfr rfl (i_iload_n rfl (i_iald (n := 10) rfl (by first | omega | (simp (disch := omega) only [e_n, e_q, e_s]; omega)) (by first | omega | (simp (disch := omega) only [e_n, e_q, e_s]; omega)) (by first | omega | (simp (disch := omega) only [e_n, e_q, e_s]; omega)) (i_bipush k_36 (t_ic_eq 43 39 rfl rfl (by first | exact hI_R | exact band_R | exact bor_R | exact bshr_R | exact lcm_R | omega | (simp (disch := omega) only [e_n, e_q, e_s]; omega)) (by first | exact hI_R | exact band_R | exact bor_R | exact bshr_R | exact lcm_R | omega | (simp (disch := omega) only [e_n, e_q, e_s]; omega)) (fun hc => ?_) (fun hc => ?_))))))) <;> (try (simp (disch := omega) only [e_n, e_q, e_s] at hc ⊢)) <;> (first | (exfalso; omega) | skip))
    | (show Rch _ _ _ _ _ 39 _ _ _; refine Rch.blk' (Rn_mono mt _ _) bl_X0_isThereOf_39 (i_iconst k_1 (t_goto 44 rfl ?_)))
    | (show Rch _ _ _ _ _ 43 _ _ _; refine Rch.blk' (Rn_mono mt _ _) bl_X0_isThereOf_43 (i_iconst k_0 (t_none ?_)))
    | (show Rch _ _ _ _ _ 44 _ _ _; refine Rch.blk' (Rn_mono mt _ _) bl_X0_isThereOf_44 (t_zret (by omega) ?_)))
theorem c_X0_squareOrNone (hG : RC h b G) (hO : OKB G) {z : Int} (hz : inR z) (h1 : 0 ≤ z → z < nn G → 0 ≤ sq G z → sq G z < 36 → Q (some (ai (I (sq G z)))) h) (h0 : ¬ (0 ≤ z ∧ z < nn G ∧ sq G z < 36) → Q (some (ai (I (-4)))) h) : Rn mt L (d + 3) 4 [ar 0 b, ai (I z)] h Q := by
  refine Rn.intro iX0_squareOrNone rfl rfl ?_
  show Rch bX0_squareOrNone _ _ _ _ 0 [some (ar 0 b), some (ai (I z))] [] _
  have e_q := @RC.q _ _ _ hG
  have g_n := hO.n
  repeat' (first
    | exact h1 (by omega) (by omega) (by omega) (by omega)
    | exact h0 (by omega)
    | (show Rn _ _ _ 2 _ _ _; refine c_X0_isThere (by assumption) (by assumption) (by first | omega | exact hI_R) (fun _ _ _ _ => ?_) (fun _ => ?_))
    | (show Rch _ _ _ _ _ 0 _ _ _; refine Rch.blk' (Rn_mono mt _ _) bl_X0_squareOrNone_0 (i_aload_n rfl (i_iload_n rfl (t_cv2 (Rn_mono mt _ _) 5 rfl (Nat.le_of_ble_eq_true rfl) ?_))))
    | (show Rch _ _ _ _ _ 5 _ _ _; refine Rch.blk' (Rn_mono mt _ _) bl_X0_squareOrNone_5 (t_if_eq 17 8 rfl rfl (by first | exact hI_R | exact band_R | exact bor_R | exact bshr_R | exact lcm_R | omega | (simp (disch := omega) only [e_q]; omega)) (fun hc => ?_) (fun hc => ?_)) <;> (first | (exfalso; omega) | skip))
    | (show Rch _ _ _ _ _ 8 _ _ _; refine Rch.blk' (Rn_mono mt _ _) bl_X0_squareOrNone_8 (i_aload_n rfl (i_gfr rfl (i_iload_n rfl (i_iald (n := 10) rfl (by first | omega | (simp (disch := omega) only [e_q]; omega)) (by first | omega | (simp (disch := omega) only [e_q]; omega)) (by first | omega | (simp (disch := omega) only [e_q]; omega)) (t_goto 19 rfl ?_))))) <;> (try (simp (disch := omega) only [e_q])))
    | (show Rch _ _ _ _ _ 17 _ _ _; refine Rch.blk' (Rn_mono mt _ _) bl_X0_squareOrNone_17 (i_bipush k_m4 (t_none ?_)))
    | (show Rch _ _ _ _ _ 19 _ _ _; refine Rch.blk' (Rn_mono mt _ _) bl_X0_squareOrNone_19 (t_iret ?_)))
theorem ons_R (G : Bd) (hO : OKB G) (q : Int) : (ons G q = -4 ∨ (0 ≤ ons G q ∧ ons G q < nn G)) := by
  rcases ons_c G q with ⟨g, -⟩ | ⟨g, g', -⟩ <;> omega
theorem c_X0_isFree (hG : RC h b G) (hO : OKB G) {z : Int} (hz : inR z) (h1 : 0 ≤ z → z < 36 → ons G z = -4 → Q (some (ai (I 1))) h) (h0 : ¬ (0 ≤ z ∧ z < 36 ∧ ons G z = -4) → Q (some (ai (I 0))) h) : Rn mt L (d + 1) 5 [ar 0 b, ai (I z)] h Q := by
  refine Rn.intro iX0_isFree rfl rfl ?_
  show Rch bX0_isFree _ _ _ _ 0 [some (ar 0 b), some (ai (I z))] [] _
  have e_w := @RC.w _ _ _ hG
  repeat' (first
    | exact h1 (by omega) (by omega) (by omega)
    | exact h0 (by omega)
    | (show Rch _ _ _ _ _ 0 _ _ _; refine Rch.blk' (Rn_mono mt _ _) bl_X0_isFree_0 (i_iload_n rfl (t_if_lt 25 4 rfl rfl (by first | exact hI_R | exact band_R | exact bor_R | exact bshr_R | exact lcm_R | omega | (simp (disch := omega) only [e_w]; omega)) (fun hc => ?_) (fun hc => ?_))) <;> (first | (exfalso; omega) | skip))
    | (show Rch _ _ _ _ _ 4 _ _ _; refine Rch.blk' (Rn_mono mt _ _) bl_X0_isFree_4 (i_iload_n rfl (i_bipush k_36 (t_ic_ge 25 10 rfl rfl (by first | exact hI_R | exact band_R | exact bor_R | exact bshr_R | exact lcm_R | omega | (simp (disch := omega) only [e_w]; omega)) (by first | exact hI_R | exact band_R | exact bor_R | exact bshr_R | exact lcm_R | omega | (simp (disch := omega) only [e_w]; omega)) (fun hc => ?_) (fun hc => ?_)))) <;> (first | (exfalso; omega) | skip))
    | (show Rch _ _ _ _ _ 10 _ _ _; refine Rch.blk' (Rn_mono mt _ _) bl_X0_isFree_10 (i_aload_n rfl (i_gfr rfl (i_iload_n rfl (i_iald (n := 36) rfl (by first | omega | (simp (disch := omega) only [e_w]; omega)) (by first | omega | (simp (disch := omega) only [e_w]; omega)) (by first | omega | (simp (disch := omega) only [e_w]; omega)) (i_bipush k_m4 (t_ic_ne 25 21 rfl rfl (by first | exact hI_R | exact band_R | exact bor_R | exact bshr_R | exact lcm_R | omega | (simp (disch := omega) only [e_w]; omega)) (by first | exact hI_R | exact band_R | exact bor_R | exact bshr_R | exact lcm_R | omega | (simp (disch := omega) only [e_w]; omega)) (fun hc => ?_) (fun hc => ?_))))))) <;> (try (simp (disch := omega) only [e_w] at hc ⊢)) <;> (first | (exfalso; omega) | skip))
    | (show Rch _ _ _ _ _ 21 _ _ _; refine Rch.blk' (Rn_mono mt _ _) bl_X0_isFree_21 (i_iconst k_1 (t_goto 26 rfl ?_)))
    | (show Rch _ _ _ _ _ 25 _ _ _; refine Rch.blk' (Rn_mono mt _ _) bl_X0_isFree_25 (i_iconst k_0 (t_none ?_)))
    | (show Rch _ _ _ _ _ 26 _ _ _; refine Rch.blk' (Rn_mono mt _ _) bl_X0_isFree_26 (t_zret (by omega) ?_)))
theorem c_X0_isHeldBy (hG : RC h b G) (hO : OKB G) {z s : Int} (hz : inR z) (hs : inR s) (h1 : 0 ≤ z → z < 36 → 0 ≤ ons G z → ons G z < nn G → sd G (ons G z) = s → Q (some (ai (I 1))) h) (h0 : ¬ (0 ≤ z ∧ z < 36 ∧ 0 ≤ ons G z ∧ sd G (ons G z) = s) → Q (some (ai (I 0))) h) : Rn mt L (d + 1) 6 [ar 0 b, ai (I z), ai (I s)] h Q := by
  refine Rn.intro iX0_isHeldBy rfl rfl ?_
  show Rch bX0_isHeldBy _ _ _ _ 0 [some (ar 0 b), some (ai (I z)), some (ai (I s)), none] [] _
  have e_w := @RC.w _ _ _ hG
  have e_s := @RC.s _ _ _ hG
  have e_n := hG.n
  have g_n := hO.n
  have g_w := ons_R G hO z
  repeat' (first
    | exact h1 (by omega) (by omega) (by omega) (by omega) (by omega)
    | exact h0 (by omega)
    | (show Rch _ _ _ _ _ 0 _ _ _; refine Rch.blk' (Rn_mono mt _ _) bl_X0_isHeldBy_0 (i_iload_n rfl (t_if_lt 19 4 rfl rfl (by first | exact hI_R | exact band_R | exact bor_R | exact bshr_R | exact lcm_R | omega | (simp (disch := omega) only [e_n, e_w, e_s]; omega)) (fun hc => ?_) (fun hc => ?_))) <;> (first | (exfalso; omega) | skip))
    | (show Rch _ _ _ _ _ 4 _ _ _; refine Rch.blk' (Rn_mono mt _ _) bl_X0_isHeldBy_4 (i_iload_n rfl (i_bipush k_36 (t_ic_ge 19 10 rfl rfl (by first | exact hI_R | exact band_R | exact bor_R | exact bshr_R | exact lcm_R | omega | (simp (disch := omega) only [e_n, e_w, e_s]; omega)) (by first | exact hI_R | exact band_R | exact bor_R | exact bshr_R | exact lcm_R | omega | (simp (disch := omega) only [e_n, e_w, e_s]; omega)) (fun hc => ?_) (fun hc => ?_)))) <;> (first | (exfalso; omega) | skip))
    | (show Rch _ _ _ _ _ 10 _ _ _; refine Rch.blk' (Rn_mono mt _ _) bl_X0_isHeldBy_10 (i_aload_n rfl (i_gfr rfl (i_iload_n rfl (i_iald (n := 36) rfl (by first | omega | (simp (disch := omega) only [e_n, e_w, e_s]; omega)) (by first | omega | (simp (disch := omega) only [e_n, e_w, e_s]; omega)) (by first | omega | (simp (disch := omega) only [e_n, e_w, e_s]; omega)) (t_goto 21 rfl ?_))))) <;> (try (simp (disch := omega) only [e_n, e_w, e_s])))
    | (show Rch _ _ _ _ _ 19 _ _ _; refine Rch.blk' (Rn_mono mt _ _) bl_X0_isHeldBy_19 (i_bipush k_m4 (t_none ?_)))
    | (show Rch _ _ _ _ _ 21 _ _ _; refine Rch.blk' (Rn_mono mt _ _) bl_X0_isHeldBy_21 (i_istore3 trivial (i_iload_n rfl (t_if_lt 54 26 rfl rfl (by first | exact hI_R | exact band_R | exact bor_R | exact bshr_R | exact lcm_R | omega | (simp (disch := omega) only [e_n, e_w, e_s]; omega)) (fun hc => ?_) (fun hc => ?_)))) <;> (first | (exfalso; omega) | skip))
    | (show Rch _ _ _ _ _ 26 _ _ _; refine Rch.blk' (Rn_mono mt _ _) bl_X0_isHeldBy_26 (i_iload_n rfl (i_aload_n rfl (i_gfi rfl (t_ic_ge 54 34 rfl rfl (by first | exact hI_R | exact band_R | exact bor_R | exact bshr_R | exact lcm_R | omega | (simp (disch := omega) only [e_n, e_w, e_s]; omega)) (by first | exact hI_R | exact band_R | exact bor_R | exact bshr_R | exact lcm_R | omega | (simp (disch := omega) only [e_n, e_w, e_s]; omega)) (fun hc => ?_) (fun hc => ?_))))) <;> (try (simp (disch := omega) only [e_n, e_w, e_s] at hc ⊢)) <;> (first | (exfalso; omega) | skip))
    | (show Rch _ _ _ _ _ 34 _ _ _; refine Rch.blk' (Rn_mono mt _ _) bl_X0_isHeldBy_34 (i_iload_n rfl (i_bipush k_10 (t_ic_ge 54 40 rfl rfl (by first | exact hI_R | exact band_R | exact bor_R | exact bshr_R | exact lcm_R | omega | (simp (disch := omega) only [e_n, e_w, e_s]; omega)) (by first | exact hI_R | exact band_R | exact bor_R | exact bshr_R | exact lcm_R | omega | (simp (disch := omega) only [e_n, e_w, e_s]; omega)) (fun hc => ?_) (fun hc => ?_)))) <;> (first | (exfalso; omega) | skip))
    | (show Rch _ _ _ _ _ 40 _ _ _; refine Rch.blk' (Rn_mono mt _ _) bl_X0_isHeldBy_40 (i_aload_n rfl (i_gfr rfl (i_iload_n rfl (i_iald (n := 10) rfl (by first | omega | (simp (disch := omega) only [e_n, e_w, e_s]; omega)) (by first | omega | (simp (disch := omega) only [e_n, e_w, e_s]; omega)) (by first | omega | (simp (disch := omega) only [e_n, e_w, e_s]; omega)) (i_iload_n rfl (t_ic_ne 54 50 rfl rfl (by first | exact hI_R | exact band_R | exact bor_R | exact bshr_R | exact lcm_R | omega | (simp (disch := omega) only [e_n, e_w, e_s]; omega)) (by first | exact hI_R | exact band_R | exact bor_R | exact bshr_R | exact lcm_R | omega | (simp (disch := omega) only [e_n, e_w, e_s]; omega)) (fun hc => ?_) (fun hc => ?_))))))) <;> (try (simp (disch := omega) only [e_n, e_w, e_s] at hc ⊢)) <;> (first | (exfalso; omega) | skip))
    | (show Rch _ _ _ _ _ 50 _ _ _; refine Rch.blk' (Rn_mono mt _ _) bl_X0_isHeldBy_50 (i_iconst k_1 (t_goto 55 rfl ?_)))
    | (show Rch _ _ _ _ _ 54 _ _ _; refine Rch.blk' (Rn_mono mt _ _) bl_X0_isHeldBy_54 (i_iconst k_0 (t_none ?_)))
    | (show Rch _ _ _ _ _ 55 _ _ _; refine Rch.blk' (Rn_mono mt _ _) bl_X0_isHeldBy_55 (t_zret (by omega) ?_)))
theorem c_X3_isKind {z : Int} (hz : inR z) (h1 : 0 ≤ z → z < 8 → Q (some (ai (I 1))) h) (h0 : ¬ (0 ≤ z ∧ z < 8) → Q (some (ai (I 0))) h) : Rn mt L (d + 1) 7 [ai (I z)] h Q := by
  refine Rn.intro iX3_isKind rfl rfl ?_
  show Rch bX3_isKind _ _ _ _ 0 [some (ai (I z))] [] _
  repeat' (first
    | exact h1 (by omega) (by omega)
    | exact h0 (by omega)
    | (show Rch _ _ _ _ _ 0 _ _ _; refine Rch.blk' (Rn_mono mt _ _) bl_X3_isKind_0 (i_iload_n rfl (t_if_lt 14 4 rfl rfl (by first | exact hI_R | exact band_R | exact bor_R | exact bshr_R | exact lcm_R | omega) (fun hc => ?_) (fun hc => ?_))) <;> (first | (exfalso; omega) | skip))
    | (show Rch _ _ _ _ _ 4 _ _ _; refine Rch.blk' (Rn_mono mt _ _) bl_X3_isKind_4 (i_iload_n rfl (i_bipush k_8 (t_ic_ge 14 10 rfl rfl (by first | exact hI_R | exact band_R | exact bor_R | exact bshr_R | exact lcm_R | omega) (by first | exact hI_R | exact band_R | exact bor_R | exact bshr_R | exact lcm_R | omega) (fun hc => ?_) (fun hc => ?_)))) <;> (first | (exfalso; omega) | skip))
    | (show Rch _ _ _ _ _ 10 _ _ _; refine Rch.blk' (Rn_mono mt _ _) bl_X3_isKind_10 (i_iconst k_1 (t_goto 15 rfl ?_)))
    | (show Rch _ _ _ _ _ 14 _ _ _; refine Rch.blk' (Rn_mono mt _ _) bl_X3_isKind_14 (i_iconst k_0 (t_none ?_)))
    | (show Rch _ _ _ _ _ 15 _ _ _; refine Rch.blk' (Rn_mono mt _ _) bl_X3_isKind_15 (t_zret (by omega) ?_)))
theorem c_X3_isFigure {z : Int} (hz : inR z) (h1 : 0 ≤ z → z < 10 → Q (some (ai (I 1))) h) (h0 : ¬ (0 ≤ z ∧ z < 10) → Q (some (ai (I 0))) h) : Rn mt L (d + 1) 8 [ai (I z)] h Q := by
  refine Rn.intro iX3_isFigure rfl rfl ?_
  show Rch bX3_isFigure _ _ _ _ 0 [some (ai (I z))] [] _
  repeat' (first
    | exact h1 (by omega) (by omega)
    | exact h0 (by omega)
    | (show Rch _ _ _ _ _ 0 _ _ _; refine Rch.blk' (Rn_mono mt _ _) bl_X3_isFigure_0 (i_iload_n rfl (t_if_lt 14 4 rfl rfl (by first | exact hI_R | exact band_R | exact bor_R | exact bshr_R | exact lcm_R | omega) (fun hc => ?_) (fun hc => ?_))) <;> (first | (exfalso; omega) | skip))
    | (show Rch _ _ _ _ _ 4 _ _ _; refine Rch.blk' (Rn_mono mt _ _) bl_X3_isFigure_4 (i_iload_n rfl (i_bipush k_10 (t_ic_ge 14 10 rfl rfl (by first | exact hI_R | exact band_R | exact bor_R | exact bshr_R | exact lcm_R | omega) (by first | exact hI_R | exact band_R | exact bor_R | exact bshr_R | exact lcm_R | omega) (fun hc => ?_) (fun hc => ?_)))) <;> (first | (exfalso; omega) | skip))
    | (show Rch _ _ _ _ _ 10 _ _ _; refine Rch.blk' (Rn_mono mt _ _) bl_X3_isFigure_10 (i_iconst k_1 (t_goto 15 rfl ?_)))
    | (show Rch _ _ _ _ _ 14 _ _ _; refine Rch.blk' (Rn_mono mt _ _) bl_X3_isFigure_14 (i_iconst k_0 (t_none ?_)))
    | (show Rch _ _ _ _ _ 15 _ _ _; refine Rch.blk' (Rn_mono mt _ _) bl_X3_isFigure_15 (t_zret (by omega) ?_)))
theorem c_X3_isSide {z : Int} (hz : inR z) (h1 : z = 0 ∨ z = 1 → Q (some (ai (I 1))) h) (h0 : ¬ (z = 0 ∨ z = 1) → Q (some (ai (I 0))) h) : Rn mt L (d + 1) 9 [ai (I z)] h Q := by
  refine Rn.intro iX3_isSide rfl rfl ?_
  show Rch bX3_isSide _ _ _ _ 0 [some (ai (I z))] [] _
  repeat' (first
    | exact h1 (by omega)
    | exact h0 (by omega)
    | (show Rch _ _ _ _ _ 0 _ _ _; refine Rch.blk' (Rn_mono mt _ _) bl_X3_isSide_0 (i_iload_n rfl (t_if_eq 9 4 rfl rfl (by first | exact hI_R | exact band_R | exact bor_R | exact bshr_R | exact lcm_R | omega) (fun hc => ?_) (fun hc => ?_))) <;> (first | (exfalso; omega) | skip))
    | (show Rch _ _ _ _ _ 4 _ _ _; refine Rch.blk' (Rn_mono mt _ _) bl_X3_isSide_4 (i_iload_n rfl (i_iconst k_1 (t_ic_ne 13 9 rfl rfl (by first | exact hI_R | exact band_R | exact bor_R | exact bshr_R | exact lcm_R | omega) (by first | exact hI_R | exact band_R | exact bor_R | exact bshr_R | exact lcm_R | omega) (fun hc => ?_) (fun hc => ?_)))) <;> (first | (exfalso; omega) | skip))
    | (show Rch _ _ _ _ _ 9 _ _ _; refine Rch.blk' (Rn_mono mt _ _) bl_X3_isSide_9 (i_iconst k_1 (t_goto 14 rfl ?_)))
    | (show Rch _ _ _ _ _ 13 _ _ _; refine Rch.blk' (Rn_mono mt _ _) bl_X3_isSide_13 (i_iconst k_0 (t_none ?_)))
    | (show Rch _ _ _ _ _ 14 _ _ _; refine Rch.blk' (Rn_mono mt _ _) bl_X3_isSide_14 (t_zret (by omega) ?_)))
theorem c_X3_isSquare {z : Int} (hz : inR z) (h1 : 0 ≤ z → z < 36 → Q (some (ai (I 1))) h) (h0 : ¬ (0 ≤ z ∧ z < 36) → Q (some (ai (I 0))) h) : Rn mt L (d + 1) 11 [ai (I z)] h Q := by
  refine Rn.intro iX3_isSquare rfl rfl ?_
  show Rch bX3_isSquare _ _ _ _ 0 [some (ai (I z))] [] _
  repeat' (first
    | exact h1 (by omega) (by omega)
    | exact h0 (by omega)
    | (show Rch _ _ _ _ _ 0 _ _ _; refine Rch.blk' (Rn_mono mt _ _) bl_X3_isSquare_0 (i_iload_n rfl (t_if_lt 14 4 rfl rfl (by first | exact hI_R | exact band_R | exact bor_R | exact bshr_R | exact lcm_R | omega) (fun hc => ?_) (fun hc => ?_))) <;> (first | (exfalso; omega) | skip))
    | (show Rch _ _ _ _ _ 4 _ _ _; refine Rch.blk' (Rn_mono mt _ _) bl_X3_isSquare_4 (i_iload_n rfl (i_bipush k_36 (t_ic_ge 14 10 rfl rfl (by first | exact hI_R | exact band_R | exact bor_R | exact bshr_R | exact lcm_R | omega) (by first | exact hI_R | exact band_R | exact bor_R | exact bshr_R | exact lcm_R | omega) (fun hc => ?_) (fun hc => ?_)))) <;> (first | (exfalso; omega) | skip))
    | (show Rch _ _ _ _ _ 10 _ _ _; refine Rch.blk' (Rn_mono mt _ _) bl_X3_isSquare_10 (i_iconst k_1 (t_goto 15 rfl ?_)))
    | (show Rch _ _ _ _ _ 14 _ _ _; refine Rch.blk' (Rn_mono mt _ _) bl_X3_isSquare_14 (i_iconst k_0 (t_none ?_)))
    | (show Rch _ _ _ _ _ 15 _ _ _; refine Rch.blk' (Rn_mono mt _ _) bl_X3_isSquare_15 (t_zret (by omega) ?_)))
/-! geometry -/
def sqO (q r c : Int) : Int := if 0 ≤ q / 6 + r ∧ q / 6 + r < 6 ∧ 0 ≤ q % 6 + c ∧ q % 6 + c < 6 then 6 * (q / 6 + r) + (q % 6 + c) else -4
def sg (G : Bd) (p r : Int) : Int := if sd G p = 0 then r else -r
def ab (x : Int) : Int := if x < 0 then -x else x
def fr (a b : Int) : Int := if ab (a / 6 - b / 6) > ab (a % 6 - b % 6) then ab (a / 6 - b / 6) else ab (a % 6 - b % 6)
theorem sqO_R {q r c : Int} : -4 ≤ sqO q r c ∧ sqO q r c < 36 := by unfold sqO; omega
theorem c_X0_squareFrom (hG : RC h b G) (hO : OKB G) {z r c : Int} (h0 : 0 ≤ z) (h1 : z < nn G) (h2 : 0 ≤ sq G z) (h3 : sq G z < 36) (hr : -1000 ≤ r ∧ r ≤ 1000) (hc : -1000 ≤ c ∧ c ≤ 1000) (hq : -4 ≤ sqO (sq G z) (sg G z r) c → sqO (sq G z) (sg G z r) c < 36 → Q (some (ai (I (sqO (sq G z) (sg G z r) c)))) h) : Rn mt L (d + 1) 16 [ar 0 b, ai (I z), ai (I r), ai (I c)] h Q := by
  refine Rn.intro iX0_squareFrom rfl rfl ?_
  show Rch bX0_squareFrom _ _ _ _ 0 [some (ar 0 b), some (ai (I z)), some (ai (I r)), some (ai (I c)), none, none, none] [] _
  have e_q := @RC.q _ _ _ hG
  have e_s := @RC.s _ _ _ hG
  have g_n := hO.n
  have g_p := hO.pc z h0 h1
  have hq := hq sqO_R.1 sqO_R.2
  unfold sqO sg at hq
  repeat' (first
    | (refine Eq.mp ?_ hq; congr 4; omega)
    | (show Rch _ _ _ _ _ 0 _ _ _; refine Rch.blk' (Rn_mono mt _ _) bl_X0_squareFrom_0 (i_aload_n rfl (i_gfr rfl (i_iload_n rfl (i_iald (n := 10) rfl (by first | omega | (simp (disch := omega) only [e_q, e_s]; omega)) (by first | omega | (simp (disch := omega) only [e_q, e_s]; omega)) (by first | omega | (simp (disch := omega) only [e_q, e_s]; omega)) (i_bipush k_6 (i_idiv (by first | omega | (simp (disch := omega) only [e_q, e_s]; omega)) (by first | omega | (simp (disch := omega) only [e_q, e_s]; omega)) (by first | omega | (simp (disch := omega) only [e_q, e_s]; omega)) (by first | omega | (simp (disch := omega) only [e_q, e_s]; omega)) (i_aload_n rfl (i_gfr rfl (i_iload_n rfl (i_iald (n := 10) rfl (by first | omega | (simp (disch := omega) only [e_q, e_s]; omega)) (by first | omega | (simp (disch := omega) only [e_q, e_s]; omega)) (by first | omega | (simp (disch := omega) only [e_q, e_s]; omega)) (t_if_ne 22 18 rfl rfl (by first | exact hI_R | exact band_R | exact bor_R | exact bshr_R | exact lcm_R | omega | (simp (disch := omega) only [e_q, e_s]; omega)) (fun hc => ?_) (fun hc => ?_)))))))))))) <;> (try (simp (disch := omega) only [e_q, e_s] at hc ⊢)) <;> (first | (exfalso; omega) | skip))
    | (show Rch _ _ _ _ _ 18 _ _ _; refine Rch.blk' (Rn_mono mt _ _) bl_X0_squareFrom_18 (i_iload_n rfl (t_goto 24 rfl ?_)))
    | (show Rch _ _ _ _ _ 22 _ _ _; refine Rch.blk' (Rn_mono mt _ _) bl_X0_squareFrom_22 (i_iload_n rfl (i_ineg (t_none ?_))))
    | (show Rch _ _ _ _ _ 24 _ _ _; refine Rch.blk' (Rn_mono mt _ _) bl_X0_squareFrom_24 (i_iadd (i_istore4 trivial (i_aload_n rfl (i_gfr rfl (i_iload_n rfl (i_iald (n := 10) rfl (by first | omega | (simp (disch := omega) only [e_q, e_s]; omega)) (by first | omega | (simp (disch := omega) only [e_q, e_s]; omega)) (by first | omega | (simp (disch := omega) only [e_q, e_s]; omega)) (i_bipush k_6 (i_irem (by first | omega | (simp (disch := omega) only [e_q, e_s]; omega)) (by first | omega | (simp (disch := omega) only [e_q, e_s]; omega)) (by first | omega | (simp (disch := omega) only [e_q, e_s]; omega)) (by first | omega | (simp (disch := omega) only [e_q, e_s]; omega)) (i_iload_n rfl (i_iadd (i_istore5 trivial (i_iload rfl (t_if_lt 68 45 rfl rfl (by first | exact hI_R | exact band_R | exact bor_R | exact bshr_R | exact lcm_R | omega | (simp (disch := omega) only [e_q, e_s]; omega)) (fun hc => ?_) (fun hc => ?_)))))))))))))) <;> (try (simp (disch := omega) only [e_q, e_s] at hc ⊢)) <;> (first | (exfalso; omega) | skip))
    | (show Rch _ _ _ _ _ 45 _ _ _; refine Rch.blk' (Rn_mono mt _ _) bl_X0_squareFrom_45 (i_iload rfl (i_bipush k_6 (t_ic_ge 68 52 rfl rfl (by first | exact hI_R | exact band_R | exact bor_R | exact bshr_R | exact lcm_R | omega | (simp (disch := omega) only [e_q, e_s]; omega)) (by first | exact hI_R | exact band_R | exact bor_R | exact bshr_R | exact lcm_R | omega | (simp (disch := omega) only [e_q, e_s]; omega)) (fun hc => ?_) (fun hc => ?_)))) <;> (first | (exfalso; omega) | skip))
    | (show Rch _ _ _ _ _ 52 _ _ _; refine Rch.blk' (Rn_mono mt _ _) bl_X0_squareFrom_52 (i_iload rfl (t_if_lt 68 57 rfl rfl (by first | exact hI_R | exact band_R | exact bor_R | exact bshr_R | exact lcm_R | omega | (simp (disch := omega) only [e_q, e_s]; omega)) (fun hc => ?_) (fun hc => ?_))) <;> (first | (exfalso; omega) | skip))
    | (show Rch _ _ _ _ _ 57 _ _ _; refine Rch.blk' (Rn_mono mt _ _) bl_X0_squareFrom_57 (i_iload rfl (i_bipush k_6 (t_ic_ge 68 64 rfl rfl (by first | exact hI_R | exact band_R | exact bor_R | exact bshr_R | exact lcm_R | omega | (simp (disch := omega) only [e_q, e_s]; omega)) (by first | exact hI_R | exact band_R | exact bor_R | exact bshr_R | exact lcm_R | omega | (simp (disch := omega) only [e_q, e_s]; omega)) (fun hc => ?_) (fun hc => ?_)))) <;> (first | (exfalso; omega) | skip))
    | (show Rch _ _ _ _ _ 64 _ _ _; refine Rch.blk' (Rn_mono mt _ _) bl_X0_squareFrom_64 (i_iconst k_1 (t_goto 69 rfl ?_)))
    | (show Rch _ _ _ _ _ 68 _ _ _; refine Rch.blk' (Rn_mono mt _ _) bl_X0_squareFrom_68 (i_iconst k_0 (t_none ?_)))
    | (show Rch _ _ _ _ _ 69 _ _ _; refine Rch.blk' (Rn_mono mt _ _) bl_X0_squareFrom_69 (i_istore6 trivial (i_iload rfl (t_if_eq 87 76 rfl rfl (by first | exact hI_R | exact band_R | exact bor_R | exact bshr_R | exact lcm_R | omega | (simp (disch := omega) only [e_q, e_s]; omega)) (fun hc => ?_) (fun hc => ?_)))) <;> (first | (exfalso; omega) | skip))
    | (show Rch _ _ _ _ _ 76 _ _ _; refine Rch.blk' (Rn_mono mt _ _) bl_X0_squareFrom_76 (i_iload rfl (i_bipush k_6 (i_imul (i_iload rfl (i_iadd (t_goto 89 rfl ?_)))))))
    | (show Rch _ _ _ _ _ 87 _ _ _; refine Rch.blk' (Rn_mono mt _ _) bl_X0_squareFrom_87 (i_bipush k_m4 (t_none ?_)))
    | (show Rch _ _ _ _ _ 89 _ _ _; refine Rch.blk' (Rn_mono mt _ _) bl_X0_squareFrom_89 (t_iret ?_)))
theorem c_X3_far {x y : Int} (h0 : 0 ≤ x) (h1 : x ≤ 36) (h2 : 0 ≤ y) (h3 : y ≤ 36) (hq : 0 ≤ fr x y → fr x y ≤ 6 → Q (some (ai (I (fr x y)))) h) : Rn mt L (d + 1) 20 [ai (I x), ai (I y)] h Q := by
  refine Rn.intro iX3_far rfl rfl ?_
  show Rch bX3_far _ _ _ _ 0 [some (ai (I x)), some (ai (I y)), none, none] [] _
  have hq := hq (by unfold fr ab; omega) (by unfold fr ab; omega)
  unfold fr ab at hq
  repeat' (first
    | (refine Eq.mp ?_ hq; congr 4; omega)
    | (show Rch _ _ _ _ _ 0 _ _ _; refine Rch.blk' (Rn_mono mt _ _) bl_X3_far_0 (i_iload_n rfl (i_bipush k_6 (i_idiv (by omega) (by omega) (by omega) (by omega) (i_iload_n rfl (i_bipush k_6 (i_idiv (by omega) (by omega) (by omega) (by omega) (i_isub (i_istore2 trivial (i_iload_n rfl (i_bipush k_6 (i_irem (by omega) (by omega) (by omega) (by omega) (i_iload_n rfl (i_bipush k_6 (i_irem (by omega) (by omega) (by omega) (by omega) (i_isub (i_istore3 trivial (i_iload_n rfl (t_if_ge 29 24 rfl rfl (by first | exact hI_R | exact band_R | exact bor_R | exact bshr_R | exact lcm_R | omega) (fun hc => ?_) (fun hc => ?_))))))))))))))))))) <;> (first | (exfalso; omega) | skip))
    | (show Rch _ _ _ _ _ 24 _ _ _; refine Rch.blk' (Rn_mono mt _ _) bl_X3_far_24 (i_iload_n rfl (i_ineg (t_goto 30 rfl ?_))))
    | (show Rch _ _ _ _ _ 29 _ _ _; refine Rch.blk' (Rn_mono mt _ _) bl_X3_far_29 (i_iload_n rfl (t_none ?_)))
    | (show Rch _ _ _ _ _ 30 _ _ _; refine Rch.blk' (Rn_mono mt _ _) bl_X3_far_30 (i_istore2 trivial (i_iload_n rfl (t_if_ge 40 35 rfl rfl (by first | exact hI_R | exact band_R | exact bor_R | exact bshr_R | exact lcm_R | omega) (fun hc => ?_) (fun hc => ?_)))) <;> (first | (exfalso; omega) | skip))
    | (show Rch _ _ _ _ _ 35 _ _ _; refine Rch.blk' (Rn_mono mt _ _) bl_X3_far_35 (i_iload_n rfl (i_ineg (t_goto 41 rfl ?_))))
    | (show Rch _ _ _ _ _ 40 _ _ _; refine Rch.blk' (Rn_mono mt _ _) bl_X3_far_40 (i_iload_n rfl (t_none ?_)))
    | (show Rch _ _ _ _ _ 41 _ _ _; refine Rch.blk' (Rn_mono mt _ _) bl_X3_far_41 (i_istore3 trivial (i_iload_n rfl (i_iload_n rfl (t_ic_le 51 47 rfl rfl (by first | exact hI_R | exact band_R | exact bor_R | exact bshr_R | exact lcm_R | omega) (by first | exact hI_R | exact band_R | exact bor_R | exact bshr_R | exact lcm_R | omega) (fun hc => ?_) (fun hc => ?_))))) <;> (first | (exfalso; omega) | skip))
    | (show Rch _ _ _ _ _ 47 _ _ _; refine Rch.blk' (Rn_mono mt _ _) bl_X3_far_47 (i_iload_n rfl (t_goto 52 rfl ?_)))
    | (show Rch _ _ _ _ _ 51 _ _ _; refine Rch.blk' (Rn_mono mt _ _) bl_X3_far_51 (i_iload_n rfl (t_none ?_)))
    | (show Rch _ _ _ _ _ 52 _ _ _; refine Rch.blk' (Rn_mono mt _ _) bl_X3_far_52 (t_iret ?_)))
/-! kinds -/
def ea (k f : Int) : Int := if k = 1 then 3 else if k = 2 then f else if k = 3 ∨ k = 7 then 4 else if k = 4 then f + 3 else if k = 5 then 5 else if k = 6 then 0 else 2
def wo (k f : Int) : Int := if k = 1 then 3 else if k = 2 then 5 else if k = 3 ∨ k = 7 then 1 + f / 3 else if k = 4 ∨ k = 5 then 9 else if k = 6 then 4 else 1
def co (k f : Int) : Int := if k = 1 then 3 else if k = 2 ∨ k = 6 then 1 + f else if k = 3 then 2 else if k = 4 then 2 * (1 + f) else if k = 5 then 0 else 1
theorem c_X1_earsWith {x y : Int} (hx : inR x) (h2 : 0 ≤ y) (h3 : y ≤ 10) (hq : 0 ≤ ea x y → ea x y ≤ 20 → Q (some (ai (I (ea x y)))) h) : Rn mt L (d + 1) 24 [ai (I x), ai (I y)] h Q := by
  refine Rn.intro iX1_earsWith rfl rfl ?_
  show Rch bX1_earsWith _ _ _ _ 0 [some (ai (I x)), some (ai (I y))] [] _
  have hq := hq (by unfold ea; omega) (by unfold ea; omega)
  unfold ea at hq
  repeat' (first
    | (refine Eq.mp ?_ hq; congr 4; omega)
    | (show Rch _ _ _ _ _ 0 _ _ _; refine Rch.blk' (Rn_mono mt _ _) bl_X1_earsWith_0 (i_iload_n rfl (t_tsw 0 7 62 rfl rfl (by omega) rfl (by first | exact hI_R | exact band_R | exact bor_R | exact bshr_R | exact lcm_R | omega) (by omega) (sw_c 0 62 1 rfl rfl (by first | exact hI_R | exact band_R | exact bor_R | exact bshr_R | exact lcm_R | omega) (by omega) rfl (fun hc => ?_) (sw_c 1 48 2 rfl rfl (by first | exact hI_R | exact band_R | exact bor_R | exact bshr_R | exact lcm_R | omega) (by omega) rfl (fun hc => ?_) (sw_c 2 50 3 rfl rfl (by first | exact hI_R | exact band_R | exact bor_R | exact bshr_R | exact lcm_R | omega) (by omega) rfl (fun hc => ?_) (sw_c 3 52 4 rfl rfl (by first | exact hI_R | exact band_R | exact bor_R | exact bshr_R | exact lcm_R | omega) (by omega) rfl (fun hc => ?_) (sw_c 4 54 5 rfl rfl (by first | exact hI_R | exact band_R | exact bor_R | exact bshr_R | exact lcm_R | omega) (by omega) rfl (fun hc => ?_) (sw_c 5 58 6 rfl rfl (by first | exact hI_R | exact band_R | exact bor_R | exact bshr_R | exact lcm_R | omega) (by omega) rfl (fun hc => ?_) (sw_c 6 60 7 rfl rfl (by first | exact hI_R | exact band_R | exact bor_R | exact bshr_R | exact lcm_R | omega) (by omega) rfl (fun hc => ?_) (sw_c 7 52 8 rfl rfl (by first | exact hI_R | exact band_R | exact bor_R | exact bshr_R | exact lcm_R | omega) (by omega) rfl (fun hc => ?_) sw_n)))))))) (fun hc => ?_))) <;> (first | (exfalso; omega) | skip))
    | (show Rch _ _ _ _ _ 48 _ _ _; refine Rch.blk' (Rn_mono mt _ _) bl_X1_earsWith_48 (i_iconst k_3 (t_iret ?_)))
    | (show Rch _ _ _ _ _ 50 _ _ _; refine Rch.blk' (Rn_mono mt _ _) bl_X1_earsWith_50 (i_iload_n rfl (t_iret ?_)))
    | (show Rch _ _ _ _ _ 52 _ _ _; refine Rch.blk' (Rn_mono mt _ _) bl_X1_earsWith_52 (i_iconst k_4 (t_iret ?_)))
    | (show Rch _ _ _ _ _ 54 _ _ _; refine Rch.blk' (Rn_mono mt _ _) bl_X1_earsWith_54 (i_iload_n rfl (i_iconst k_3 (i_iadd (t_iret ?_)))))
    | (show Rch _ _ _ _ _ 58 _ _ _; refine Rch.blk' (Rn_mono mt _ _) bl_X1_earsWith_58 (i_iconst k_5 (t_iret ?_)))
    | (show Rch _ _ _ _ _ 60 _ _ _; refine Rch.blk' (Rn_mono mt _ _) bl_X1_earsWith_60 (i_iconst k_0 (t_iret ?_)))
    | (show Rch _ _ _ _ _ 62 _ _ _; refine Rch.blk' (Rn_mono mt _ _) bl_X1_earsWith_62 (i_iconst k_2 (t_iret ?_))))
theorem c_X1_worthWith {x y : Int} (hx : inR x) (h2 : 0 ≤ y) (h3 : y ≤ 10) (hq : 1 ≤ wo x y → wo x y ≤ 9 → Q (some (ai (I (wo x y)))) h) : Rn mt L (d + 1) 34 [ai (I x), ai (I y)] h Q := by
  refine Rn.intro iX1_worthWith rfl rfl ?_
  show Rch bX1_worthWith _ _ _ _ 0 [some (ai (I x)), some (ai (I y))] [] _
  have hq := hq (by unfold wo; omega) (by unfold wo; omega)
  unfold wo at hq
  repeat' (first
    | (refine Eq.mp ?_ hq; congr 4; omega)
    | (show Rch _ _ _ _ _ 0 _ _ _; refine Rch.blk' (Rn_mono mt _ _) bl_X1_worthWith_0 (i_iload_n rfl (t_tsw 0 7 66 rfl rfl (by omega) rfl (by first | exact hI_R | exact band_R | exact bor_R | exact bshr_R | exact lcm_R | omega) (by omega) (sw_c 0 66 1 rfl rfl (by first | exact hI_R | exact band_R | exact bor_R | exact bshr_R | exact lcm_R | omega) (by omega) rfl (fun hc => ?_) (sw_c 1 48 2 rfl rfl (by first | exact hI_R | exact band_R | exact bor_R | exact bshr_R | exact lcm_R | omega) (by omega) rfl (fun hc => ?_) (sw_c 2 50 3 rfl rfl (by first | exact hI_R | exact band_R | exact bor_R | exact bshr_R | exact lcm_R | omega) (by omega) rfl (fun hc => ?_) (sw_c 3 52 4 rfl rfl (by first | exact hI_R | exact band_R | exact bor_R | exact bshr_R | exact lcm_R | omega) (by omega) rfl (fun hc => ?_) (sw_c 4 58 5 rfl rfl (by first | exact hI_R | exact band_R | exact bor_R | exact bshr_R | exact lcm_R | omega) (by omega) rfl (fun hc => ?_) (sw_c 5 61 6 rfl rfl (by first | exact hI_R | exact band_R | exact bor_R | exact bshr_R | exact lcm_R | omega) (by omega) rfl (fun hc => ?_) (sw_c 6 64 7 rfl rfl (by first | exact hI_R | exact band_R | exact bor_R | exact bshr_R | exact lcm_R | omega) (by omega) rfl (fun hc => ?_) (sw_c 7 52 8 rfl rfl (by first | exact hI_R | exact band_R | exact bor_R | exact bshr_R | exact lcm_R | omega) (by omega) rfl (fun hc => ?_) sw_n)))))))) (fun hc => ?_))) <;> (first | (exfalso; omega) | skip))
    | (show Rch _ _ _ _ _ 48 _ _ _; refine Rch.blk' (Rn_mono mt _ _) bl_X1_worthWith_48 (i_iconst k_3 (t_iret ?_)))
    | (show Rch _ _ _ _ _ 50 _ _ _; refine Rch.blk' (Rn_mono mt _ _) bl_X1_worthWith_50 (i_iconst k_5 (t_iret ?_)))
    | (show Rch _ _ _ _ _ 52 _ _ _; refine Rch.blk' (Rn_mono mt _ _) bl_X1_worthWith_52 (i_iconst k_1 (i_iload_n rfl (i_iconst k_3 (i_idiv (by omega) (by omega) (by omega) (by omega) (i_iadd (t_iret ?_)))))))
    | (show Rch _ _ _ _ _ 58 _ _ _; refine Rch.blk' (Rn_mono mt _ _) bl_X1_worthWith_58 (i_bipush k_9 (t_iret ?_)))
    | (show Rch _ _ _ _ _ 61 _ _ _; refine Rch.blk' (Rn_mono mt _ _) bl_X1_worthWith_61 (i_bipush k_9 (t_iret ?_)))
    | (show Rch _ _ _ _ _ 64 _ _ _; refine Rch.blk' (Rn_mono mt _ _) bl_X1_worthWith_64 (i_iconst k_4 (t_iret ?_)))
    | (show Rch _ _ _ _ _ 66 _ _ _; refine Rch.blk' (Rn_mono mt _ _) bl_X1_worthWith_66 (i_iconst k_1 (t_iret ?_))))
end C1


