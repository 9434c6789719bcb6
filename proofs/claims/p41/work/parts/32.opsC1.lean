/-! THE CALLS' MEANINGS, and the class's simple calls -/
/-- all but what is in mind (class) -/
def JX (h h' : Mem) : Prop := ∀ (t b k : Nat), ¬ (((t = 0 ∨ (4 ≤ t ∧ t ≤ 8)) ∧ 2 ≤ b) ∨ t = 10 ∨ t = 11 ∨ (t = 2 ∧ k = 9)) → hI h' t b k = hI h t b k
/-- all but what is in mind (reference) -/
def JY (h h' : Mem) : Prop := ∀ (t b k : Nat), ¬ ((t = 12 ∧ (b = 1 ∨ b = 3)) ∨ t = 13 ∨ (t = 3 ∧ ¬ k = 4)) → hI h' t b k = hI h t b k
theorem JX.rf {h : Mem} : JX h h := fun _ _ _ _ => rfl
theorem JY.rf {h : Mem} : JY h h := fun _ _ _ _ => rfl
theorem JX.tr {h h1 h2 : Mem} (a : JX h h1) (c : JX h1 h2) : JX h h2 := fun t b k hn => (c t b k hn).trans (a t b k hn)
theorem JY.tr {h h1 h2 : Mem} (a : JY h h1) (c : JY h1 h2) : JY h h2 := fun t b k hn => (c t b k hn).trans (a t b k hn)
theorem FrC.jx {h h' : Mem} {b : Nat} (a : FrC h h' b) (hb : 2 ≤ b) : JX h h' := fun t b' k hn => a t b' k (fun z => hn (Or.inl ⟨z.2, by omega⟩))
theorem FrR.jy {h h' : Mem} {w : Nat} (a : FrR h h' w) (hb : w = 1 ∨ w = 3) : JY h h' := fun t b' k hn => a t b' k (fun z => hn (Or.inl ⟨z.1, by omega⟩))
theorem RC.jx {h h' : Mem} {b : Nat} {G : Bd} (H : RC h b G) (hJ : JX h h') (hb : b < 2) : RC h' b G := by
  have e : ∀ t k, t = 0 ∨ (4 ≤ t ∧ t ≤ 8) → hI h' t b k = hI h t b k := fun t k ht => hJ t b k (by omega)
  unfold RC
  rw [e 0 5 (by omega), e 0 6 (by omega), e 0 7 (by omega), e 0 8 (by omega)]
  refine ⟨H.1, H.2.1, H.2.2.1, H.2.2.2.1, fun p p0 p1 => ?_, fun q q0 q1 => ?_⟩
  · rw [e 4 _ (by omega), e 5 _ (by omega), e 6 _ (by omega), e 7 _ (by omega)]
    exact H.2.2.2.2.1 p p0 p1
  · rw [e 8 _ (by omega)]
    exact H.2.2.2.2.2 q q0 q1
theorem RR.jy {h h' : Mem} {w : Nat} {G : Bd} {M : Int → Prop} {ra : Int} (H : RR h w G M ra) (hJ : JY h h') (hw : w = 0 ∨ w = 2) : RR h' w G M ra := by
  have e : ∀ k, hI h' 12 w k = hI h 12 w k := fun k => hJ 12 w k (by omega)
  unfold RR
  simp only [e]
  exact H
noncomputable def ideN (G : Bd) (p : Int) : Int := if sq G p < 36 then ide G p (dy G + 1) else -4
noncomputable def vPiece (G : Bd) (p w : Int) : Int := if 0 ≤ p ∧ p < nn G ∧ 0 ≤ w ∧ w ≤ 6 then (if w = 0 then kd G p else if w = 1 then fg G p else if w = 2 then sd G p else if w = 3 then m4 (sq G p) else if w = 4 then ea (kd G p) (fg G p) else if w = 5 then wo (kd G p) (fg G p) else ideN G p) else -1
noncomputable def vOn (G : Bd) (q : Int) : Int := if 0 ≤ q ∧ q < 36 then ons G q else -1
noncomputable def oStands (G : Bd) (p q : Int) : Int × Bd := if (0 ≤ p ∧ p < nn G) ∧ 0 ≤ q ∧ q < 36 then (if ons G q = -4 ∨ ons G q = p then (m4 (sq G p), mov G p q) else (-3, G)) else (-1, G)
def oTakes (G : Bd) (p : Int) : Int × Bd := if 0 ≤ p ∧ p < nn G then (if sq G p < 36 then (sq G p, mov G p 36) else (-3, G)) else (-1, G)
def oTurn (G : Bd) (s : Int) : Int × Bd := if s = 0 ∨ s = 1 then (tn G, sett G s) else (-1, G)
noncomputable def oDays (G : Bd) (n : Int) : Int × Bd := if 1 ≤ n ∧ n ≤ 60 then (if dy G + n ≤ 999 then (NT (DN G no0 n), DN G no0 n) else (-3, G)) else (-1, G)
noncomputable def vSquareThen (G : Bd) (p n : Int) : Int := if (0 ≤ p ∧ p < nn G) ∧ 0 ≤ n ∧ n ≤ 60 then m4 (sq (DN G no0 n) p) else -1
noncomputable def vThen (G : Bd) (n w : Int) : Int := if (0 ≤ n ∧ n ≤ 60) ∧ 0 ≤ w ∧ w ≤ 3 then (if w = 0 then BT (TS (DN G no0 n)) else if w = 1 then th (DN G no0 n) else if w = 2 then WO (DN G no0 n) 0 else WO (DN G no0 n) 1) else -1
noncomputable def vNext (G : Bd) (w : Int) : Int := if 0 ≤ w ∧ w ≤ 2 then (if goer G no0 0 (dy G + 1) = -4 then (if w = 2 then 0 else -4) else if w = 0 then goer G no0 0 (dy G + 1) else if w = 1 then ide G (goer G no0 0 (dy G + 1)) (dy G + 1) else NH G 0 (goer G no0 0 (dy G + 1))) else -1
noncomputable def vHeard (G : Bd) (p : Int) : Int := if 0 ≤ p ∧ p < nn G then (if sq G p < 36 then BT (HS G 0 p) else -3) else -1
noncomputable def vCount (G : Bd) (w : Int) : Int := if w = 0 then nn G else if w = 1 then dy G else if w = 2 then tn G else if w = 3 then th G else if w = 4 then BT (TS G) else -1
section C9
variable {d L : Nat} {h : Mem} {Q : Option AV → Mem → Prop} {G : Bd}
theorem c_X3_piece (hG : RC h 0 G) (hO : OKB G) (hy : dy G ≤ 999) {p w : Int} (hp : inR p) (hw : inR w) (hq : ∀ v h', v = vPiece G p w → JX h h' → Q (some (ai (I v))) h') : Rn mt L (d + 4) 52 [ar 2 0, ai (I p), ai (I w)] h Q := by
  refine Rn.intro iX3_piece rfl rfl ?_
  show Rch bX3_piece _ _ _ _ 0 [some (ar 2 0), some (ai (I p)), some (ai (I w))] [] _
  have e_k := @RC.k _ _ _ hG
  have e_f := @RC.f _ _ _ hG
  have e_s := @RC.s _ _ _ hG
  have e_d := hG.d
  have g_n := hO.n
  have g_d := hO.2.2.2.1
  have g_p := hO.pc p
  have g_4 := @m4_R (sq G p)
  repeat' (first
    | exact hq _ _ (by unfold vPiece; omega) JX.rf
    | exact hq _ _ (by unfold vPiece ideN; omega) JX.rf
    | (show Rn _ _ _ 1 _ _ _; refine c_X0_has (by assumption) (by assumption) (by first | omega | exact hI_R) (fun _ _ => ?_) (fun _ => ?_))
    | (show Rn _ _ _ 4 _ _ _; refine c_X0_squareOrNone (by assumption) (by assumption) (by first | omega | exact hI_R) (fun _ _ _ _ => ?_) (fun _ => ?_))
    | (show Rn _ _ _ 24 _ _ _; refine c_X1_earsWith (by omega) (by omega) (by omega) (fun _ _ => ?_))
    | (show Rn _ _ _ 34 _ _ _; refine c_X1_worthWith (by omega) (by omega) (by omega) (fun _ _ => ?_))
    | (show Rn _ _ _ 23 _ _ _; refine c_X0_ideaOf (by assumption) (by assumption) (by first | omega | exact hI_R) (by omega) (by omega) (fun _ _ _ _ _ _ _ => ?_) (fun _ => ?_))
    | (show Rch _ _ _ _ _ 0 _ _ _; refine Rch.blk' (Rn_mono mt _ _) bl_X3_piece_0 (i_aload_n rfl (i_gfs rfl (i_iload_n rfl (t_cv2 (Rn_mono mt _ _) 8 rfl (Nat.le_of_ble_eq_true rfl) ?_)))) <;> (try (simp (disch := omega) only [e_k, e_f, e_s, e_d])))
    | (show Rch _ _ _ _ _ 8 _ _ _; refine Rch.blk' (Rn_mono mt _ _) bl_X3_piece_8 (t_if_ne 13 11 rfl rfl (by first | exact hI_R | exact band_R | exact bor_R | exact bshr_R | exact lcm_R | omega | (simp (disch := omega) only [e_k, e_f, e_s, e_d]; omega)) (fun hc => ?_) (fun hc => ?_)) <;> (first | (exfalso; omega) | skip))
    | (show Rch _ _ _ _ _ 11 _ _ _; refine Rch.blk' (Rn_mono mt _ _) bl_X3_piece_11 (i_iconst k_m1 (t_iret ?_)))
    | (show Rch _ _ _ _ _ 13 _ _ _; refine Rch.blk' (Rn_mono mt _ _) bl_X3_piece_13 (i_iload_n rfl (t_tsw 0 6 157 rfl rfl (by first | omega | (simp (disch := omega) only [e_k, e_f, e_s, e_d]; omega)) rfl (by first | exact hI_R | exact band_R | exact bor_R | exact bshr_R | exact lcm_R | omega | (simp (disch := omega) only [e_k, e_f, e_s, e_d]; omega)) (by first | omega | (simp (disch := omega) only [e_k, e_f, e_s, e_d]; omega)) (sw_c 0 56 1 rfl rfl (by first | exact hI_R | exact band_R | exact bor_R | exact bshr_R | exact lcm_R | omega | (simp (disch := omega) only [e_k, e_f, e_s, e_d]; omega)) (by first | omega | (simp (disch := omega) only [e_k, e_f, e_s, e_d]; omega)) rfl (fun hc => ?_) (sw_c 1 66 2 rfl rfl (by first | exact hI_R | exact band_R | exact bor_R | exact bshr_R | exact lcm_R | omega | (simp (disch := omega) only [e_k, e_f, e_s, e_d]; omega)) (by first | omega | (simp (disch := omega) only [e_k, e_f, e_s, e_d]; omega)) rfl (fun hc => ?_) (sw_c 2 76 3 rfl rfl (by first | exact hI_R | exact band_R | exact bor_R | exact bshr_R | exact lcm_R | omega | (simp (disch := omega) only [e_k, e_f, e_s, e_d]; omega)) (by first | omega | (simp (disch := omega) only [e_k, e_f, e_s, e_d]; omega)) rfl (fun hc => ?_) (sw_c 3 86 4 rfl rfl (by first | exact hI_R | exact band_R | exact bor_R | exact bshr_R | exact lcm_R | omega | (simp (disch := omega) only [e_k, e_f, e_s, e_d]; omega)) (by first | omega | (simp (disch := omega) only [e_k, e_f, e_s, e_d]; omega)) rfl (fun hc => ?_) (sw_c 4 95 5 rfl rfl (by first | exact hI_R | exact band_R | exact bor_R | exact bshr_R | exact lcm_R | omega | (simp (disch := omega) only [e_k, e_f, e_s, e_d]; omega)) (by first | omega | (simp (disch := omega) only [e_k, e_f, e_s, e_d]; omega)) rfl (fun hc => ?_) (sw_c 5 117 6 rfl rfl (by first | exact hI_R | exact band_R | exact bor_R | exact bshr_R | exact lcm_R | omega | (simp (disch := omega) only [e_k, e_f, e_s, e_d]; omega)) (by first | omega | (simp (disch := omega) only [e_k, e_f, e_s, e_d]; omega)) rfl (fun hc => ?_) (sw_c 6 139 7 rfl rfl (by first | exact hI_R | exact band_R | exact bor_R | exact bshr_R | exact lcm_R | omega | (simp (disch := omega) only [e_k, e_f, e_s, e_d]; omega)) (by first | omega | (simp (disch := omega) only [e_k, e_f, e_s, e_d]; omega)) rfl (fun hc => ?_) sw_n))))))) (fun hc => ?_))) <;> (first | (exfalso; omega) | skip))
    | (show Rch _ _ _ _ _ 56 _ _ _; refine Rch.blk' (Rn_mono mt _ _) bl_X3_piece_56 (i_aload_n rfl (i_gfs rfl (i_gfr rfl (i_iload_n rfl (i_iald (n := 10) rfl (by first | omega | (simp (disch := omega) only [e_k, e_f, e_s, e_d]; omega)) (by first | omega | (simp (disch := omega) only [e_k, e_f, e_s, e_d]; omega)) (by first | omega | (simp (disch := omega) only [e_k, e_f, e_s, e_d]; omega)) (t_iret ?_)))))) <;> (try (simp (disch := omega) only [e_k, e_f, e_s, e_d])))
    | (show Rch _ _ _ _ _ 66 _ _ _; refine Rch.blk' (Rn_mono mt _ _) bl_X3_piece_66 (i_aload_n rfl (i_gfs rfl (i_gfr rfl (i_iload_n rfl (i_iald (n := 10) rfl (by first | omega | (simp (disch := omega) only [e_k, e_f, e_s, e_d]; omega)) (by first | omega | (simp (disch := omega) only [e_k, e_f, e_s, e_d]; omega)) (by first | omega | (simp (disch := omega) only [e_k, e_f, e_s, e_d]; omega)) (t_iret ?_)))))) <;> (try (simp (disch := omega) only [e_k, e_f, e_s, e_d])))
    | (show Rch _ _ _ _ _ 76 _ _ _; refine Rch.blk' (Rn_mono mt _ _) bl_X3_piece_76 (i_aload_n rfl (i_gfs rfl (i_gfr rfl (i_iload_n rfl (i_iald (n := 10) rfl (by first | omega | (simp (disch := omega) only [e_k, e_f, e_s, e_d]; omega)) (by first | omega | (simp (disch := omega) only [e_k, e_f, e_s, e_d]; omega)) (by first | omega | (simp (disch := omega) only [e_k, e_f, e_s, e_d]; omega)) (t_iret ?_)))))) <;> (try (simp (disch := omega) only [e_k, e_f, e_s, e_d])))
    | (show Rch _ _ _ _ _ 86 _ _ _; refine Rch.blk' (Rn_mono mt _ _) bl_X3_piece_86 (i_aload_n rfl (i_gfs rfl (i_iload_n rfl (t_cv2 (Rn_mono mt _ _) 94 rfl (Nat.le_of_ble_eq_true rfl) ?_)))) <;> (try (simp (disch := omega) only [e_k, e_f, e_s, e_d])))
    | (show Rch _ _ _ _ _ 94 _ _ _; refine Rch.blk' (Rn_mono mt _ _) bl_X3_piece_94 (t_iret ?_))
    | (show Rch _ _ _ _ _ 95 _ _ _; refine Rch.blk' (Rn_mono mt _ _) bl_X3_piece_95 (i_aload_n rfl (i_gfs rfl (i_gfr rfl (i_iload_n rfl (i_iald (n := 10) rfl (by first | omega | (simp (disch := omega) only [e_k, e_f, e_s, e_d]; omega)) (by first | omega | (simp (disch := omega) only [e_k, e_f, e_s, e_d]; omega)) (by first | omega | (simp (disch := omega) only [e_k, e_f, e_s, e_d]; omega)) (i_aload_n rfl (i_gfs rfl (i_gfr rfl (i_iload_n rfl (i_iald (n := 10) rfl (by first | omega | (simp (disch := omega) only [e_k, e_f, e_s, e_d]; omega)) (by first | omega | (simp (disch := omega) only [e_k, e_f, e_s, e_d]; omega)) (by first | omega | (simp (disch := omega) only [e_k, e_f, e_s, e_d]; omega)) (t_cs2 (Rn_mono mt _ _) 116 rfl (Nat.le_of_ble_eq_true rfl) ?_))))))))))) <;> (try (simp (disch := omega) only [e_k, e_f, e_s, e_d])))
    | (show Rch _ _ _ _ _ 116 _ _ _; refine Rch.blk' (Rn_mono mt _ _) bl_X3_piece_116 (t_iret ?_))
    | (show Rch _ _ _ _ _ 117 _ _ _; refine Rch.blk' (Rn_mono mt _ _) bl_X3_piece_117 (i_aload_n rfl (i_gfs rfl (i_gfr rfl (i_iload_n rfl (i_iald (n := 10) rfl (by first | omega | (simp (disch := omega) only [e_k, e_f, e_s, e_d]; omega)) (by first | omega | (simp (disch := omega) only [e_k, e_f, e_s, e_d]; omega)) (by first | omega | (simp (disch := omega) only [e_k, e_f, e_s, e_d]; omega)) (i_aload_n rfl (i_gfs rfl (i_gfr rfl (i_iload_n rfl (i_iald (n := 10) rfl (by first | omega | (simp (disch := omega) only [e_k, e_f, e_s, e_d]; omega)) (by first | omega | (simp (disch := omega) only [e_k, e_f, e_s, e_d]; omega)) (by first | omega | (simp (disch := omega) only [e_k, e_f, e_s, e_d]; omega)) (t_cs2 (Rn_mono mt _ _) 138 rfl (Nat.le_of_ble_eq_true rfl) ?_))))))))))) <;> (try (simp (disch := omega) only [e_k, e_f, e_s, e_d])))
    | (show Rch _ _ _ _ _ 138 _ _ _; refine Rch.blk' (Rn_mono mt _ _) bl_X3_piece_138 (t_iret ?_))
    | (show Rch _ _ _ _ _ 139 _ _ _; refine Rch.blk' (Rn_mono mt _ _) bl_X3_piece_139 (i_aload_n rfl (i_gfs rfl (i_iload_n rfl (i_aload_n rfl (i_gfs rfl (i_gfi rfl (i_iconst k_1 (i_iadd (t_cv3 (Rn_mono mt _ _) 156 rfl (Nat.le_of_ble_eq_true rfl) ?_))))))))) <;> (try (simp (disch := omega) only [e_k, e_f, e_s, e_d])))
    | (show Rch _ _ _ _ _ 156 _ _ _; refine Rch.blk' (Rn_mono mt _ _) bl_X3_piece_156 (t_iret ?_))
    | (show Rch _ _ _ _ _ 157 _ _ _; refine Rch.blk' (Rn_mono mt _ _) bl_X3_piece_157 (i_iconst k_m1 (t_iret ?_))))
theorem c_X3_on (hG : RC h 0 G) (hO : OKB G) {q : Int} (hz : inR q) (hq : ∀ v h', v = vOn G q → JX h h' → Q (some (ai (I v))) h') : Rn mt L (d + 2) 53 [ar 2 0, ai (I q)] h Q := by
  refine Rn.intro iX3_on rfl rfl ?_
  show Rch bX3_on _ _ _ _ 0 [some (ar 2 0), some (ai (I q))] [] _
  have e_w := @RC.w _ _ _ hG
  repeat' (first
    | exact hq _ _ (by unfold vOn; omega) JX.rf
    | (show Rn _ _ _ 11 _ _ _; refine c_X3_isSquare (by first | omega | exact hI_R) (fun _ _ => ?_) (fun _ => ?_))
    | (show Rch _ _ _ _ _ 0 _ _ _; refine Rch.blk' (Rn_mono mt _ _) bl_X3_on_0 (i_iload_n rfl (t_cs1 (Rn_mono mt _ _) 4 rfl (Nat.le_of_ble_eq_true rfl) ?_)))
    | (show Rch _ _ _ _ _ 4 _ _ _; refine Rch.blk' (Rn_mono mt _ _) bl_X3_on_4 (t_if_eq 19 7 rfl rfl (by first | exact hI_R | exact band_R | exact bor_R | exact bshr_R | exact lcm_R | omega | (simp (disch := omega) only [e_w]; omega)) (fun hc => ?_) (fun hc => ?_)) <;> (first | (exfalso; omega) | skip))
    | (show Rch _ _ _ _ _ 7 _ _ _; refine Rch.blk' (Rn_mono mt _ _) bl_X3_on_7 (i_aload_n rfl (i_gfs rfl (i_gfr rfl (i_iload_n rfl (i_iald (n := 36) rfl (by first | omega | (simp (disch := omega) only [e_w]; omega)) (by first | omega | (simp (disch := omega) only [e_w]; omega)) (by first | omega | (simp (disch := omega) only [e_w]; omega)) (t_goto 20 rfl ?_)))))) <;> (try (simp (disch := omega) only [e_w])))
    | (show Rch _ _ _ _ _ 19 _ _ _; refine Rch.blk' (Rn_mono mt _ _) bl_X3_on_19 (i_iconst k_m1 (t_none ?_)))
    | (show Rch _ _ _ _ _ 20 _ _ _; refine Rch.blk' (Rn_mono mt _ _) bl_X3_on_20 (t_iret ?_)))
theorem c_X3_stands (hG : RC h 0 G) (hO : OKB G) {p q : Int} (hp : inR p) (hz : inR q) (hq : ∀ v G' h', oStands G p q = (v, G') → RC h' 0 G' → FrC h h' 0 → Q (some (ai (I v))) h') : Rn mt L (d + 4) 55 [ar 2 0, ai (I p), ai (I q)] h Q := by
  refine Rn.intro iX3_stands rfl rfl ?_
  show Rch bX3_stands _ _ _ _ 0 [some (ar 2 0), some (ai (I p)), some (ai (I q)), none] [] _
  have g_n := hO.n
  have g_p := hO.pc p
  have g_4 := @m4_R (sq G p)
  have k1 : ∀ v, v = m4 (sq G p) → (0 ≤ p ∧ p < nn G) ∧ 0 ≤ q ∧ q < 36 → (ons G q = -4 ∨ ons G q = p) → oStands G p q = (v, mov G p q) := fun v e a b => by unfold oStands; rw [if_pos a, if_pos b, e]
  have k2 : (0 ≤ p ∧ p < nn G) ∧ 0 ≤ q ∧ q < 36 → ¬ (ons G q = -4 ∨ ons G q = p) → oStands G p q = (-3, G) := fun a b => by unfold oStands; rw [if_pos a, if_neg b]
  have k3 : ¬ ((0 ≤ p ∧ p < nn G) ∧ 0 ≤ q ∧ q < 36) → oStands G p q = (-1, G) := fun a => by unfold oStands; rw [if_neg a]
  repeat' (first
    | exact hq _ _ _ (k1 _ (by omega) (by omega) (by omega)) (by assumption) (by assumption)
    | exact hq _ _ _ (k2 (by omega) (by omega)) hG FrC.rf
    | exact hq _ _ _ (k3 (by omega)) hG FrC.rf
    | (show Rn _ _ _ 1 _ _ _; refine c_X0_has (by assumption) (by assumption) (by first | omega | exact hI_R) (fun _ _ => ?_) (fun _ => ?_))
    | (show Rn _ _ _ 11 _ _ _; refine c_X3_isSquare (by first | omega | exact hI_R) (fun _ _ => ?_) (fun _ => ?_))
    | (show Rn _ _ _ 4 _ _ _; refine c_X0_squareOrNone (by assumption) (by assumption) (by first | omega | exact hI_R) (fun _ _ _ _ => ?_) (fun _ => ?_))
    | (show Rn _ _ _ 13 _ _ _; refine c_X0_movePiece (by assumption) (by assumption) (by first | omega | exact hI_R) (by first | omega | exact hI_R) (fun _ _ _ _ _ _ _ _ => ?_) (fun _ => ?_))
    | (show Rch _ _ _ _ _ 0 _ _ _; refine Rch.blk' (Rn_mono mt _ _) bl_X3_stands_0 (i_aload_n rfl (i_gfs rfl (i_iload_n rfl (t_cv2 (Rn_mono mt _ _) 8 rfl (Nat.le_of_ble_eq_true rfl) ?_)))))
    | (show Rch _ _ _ _ _ 8 _ _ _; refine Rch.blk' (Rn_mono mt _ _) bl_X3_stands_8 (t_if_eq 18 11 rfl rfl (by first | exact hI_R | exact band_R | exact bor_R | exact bshr_R | exact lcm_R | omega) (fun hc => ?_) (fun hc => ?_)) <;> (first | (exfalso; omega) | skip))
    | (show Rch _ _ _ _ _ 11 _ _ _; refine Rch.blk' (Rn_mono mt _ _) bl_X3_stands_11 (i_iload_n rfl (t_cs1 (Rn_mono mt _ _) 15 rfl (Nat.le_of_ble_eq_true rfl) ?_)))
    | (show Rch _ _ _ _ _ 15 _ _ _; refine Rch.blk' (Rn_mono mt _ _) bl_X3_stands_15 (t_if_ne 20 18 rfl rfl (by first | exact hI_R | exact band_R | exact bor_R | exact bshr_R | exact lcm_R | omega) (fun hc => ?_) (fun hc => ?_)) <;> (first | (exfalso; omega) | skip))
    | (show Rch _ _ _ _ _ 18 _ _ _; refine Rch.blk' (Rn_mono mt _ _) bl_X3_stands_18 (i_iconst k_m1 (t_iret ?_)))
    | (show Rch _ _ _ _ _ 20 _ _ _; refine Rch.blk' (Rn_mono mt _ _) bl_X3_stands_20 (i_aload_n rfl (i_gfs rfl (i_iload_n rfl (t_cv2 (Rn_mono mt _ _) 28 rfl (Nat.le_of_ble_eq_true rfl) ?_)))))
    | (show Rch _ _ _ _ _ 28 _ _ _; refine Rch.blk' (Rn_mono mt _ _) bl_X3_stands_28 (i_istore3 trivial (i_aload_n rfl (i_gfs rfl (i_iload_n rfl (i_iload_n rfl (t_cv3 (Rn_mono mt _ _) 38 rfl (Nat.le_of_ble_eq_true rfl) ?_)))))))
    | (show Rch _ _ _ _ _ 38 _ _ _; refine Rch.blk' (Rn_mono mt _ _) bl_X3_stands_38 (t_if_eq 45 41 rfl rfl (by first | exact hI_R | exact band_R | exact bor_R | exact bshr_R | exact lcm_R | omega) (fun hc => ?_) (fun hc => ?_)) <;> (first | (exfalso; omega) | skip))
    | (show Rch _ _ _ _ _ 41 _ _ _; refine Rch.blk' (Rn_mono mt _ _) bl_X3_stands_41 (i_iload_n rfl (t_goto 47 rfl ?_)))
    | (show Rch _ _ _ _ _ 45 _ _ _; refine Rch.blk' (Rn_mono mt _ _) bl_X3_stands_45 (i_bipush k_m3 (t_none ?_)))
    | (show Rch _ _ _ _ _ 47 _ _ _; refine Rch.blk' (Rn_mono mt _ _) bl_X3_stands_47 (t_iret ?_)))
theorem c_X3_takes (hG : RC h 0 G) (hO : OKB G) {p : Int} (hp : inR p) (hq : ∀ v G' h', oTakes G p = (v, G') → RC h' 0 G' → FrC h h' 0 → Q (some (ai (I v))) h') : Rn mt L (d + 4) 56 [ar 2 0, ai (I p)] h Q := by
  refine Rn.intro iX3_takes rfl rfl ?_
  show Rch bX3_takes _ _ _ _ 0 [some (ar 2 0), some (ai (I p)), none] [] _
  have g_n := hO.n
  have g_p := hO.pc p
  have k1 : (0 ≤ p ∧ p < nn G) → sq G p < 36 → oTakes G p = (sq G p, mov G p 36) := fun a b => by unfold oTakes; rw [if_pos a, if_pos b]
  have k2 : (0 ≤ p ∧ p < nn G) → ¬ sq G p < 36 → oTakes G p = (-3, G) := fun a b => by unfold oTakes; rw [if_pos a, if_neg b]
  have k3 : ¬ (0 ≤ p ∧ p < nn G) → oTakes G p = (-1, G) := fun a => by unfold oTakes; rw [if_neg a]
  repeat' (first
    | exact hq _ _ _ (k1 (by omega) (by omega)) (by assumption) (by assumption)
    | exact hq _ _ _ (k2 (by omega) (by omega)) hG FrC.rf
    | exact hq _ _ _ (k3 (by omega)) hG FrC.rf
    | (show Rn _ _ _ 1 _ _ _; refine c_X0_has (by assumption) (by assumption) (by first | omega | exact hI_R) (fun _ _ => ?_) (fun _ => ?_))
    | (show Rn _ _ _ 4 _ _ _; refine c_X0_squareOrNone (by assumption) (by assumption) (by first | omega | exact hI_R) (fun _ _ _ _ => ?_) (fun _ => ?_))
    | (show Rn _ _ _ 12 _ _ _; refine c_X0_takeOff (by assumption) (by assumption) (by first | omega | exact hI_R) (fun _ _ _ _ _ _ => ?_) (fun _ => ?_))
    | (show Rch _ _ _ _ _ 0 _ _ _; refine Rch.blk' (Rn_mono mt _ _) bl_X3_takes_0 (i_aload_n rfl (i_gfs rfl (i_iload_n rfl (t_cv2 (Rn_mono mt _ _) 8 rfl (Nat.le_of_ble_eq_true rfl) ?_)))))
    | (show Rch _ _ _ _ _ 8 _ _ _; refine Rch.blk' (Rn_mono mt _ _) bl_X3_takes_8 (t_if_ne 13 11 rfl rfl (by first | exact hI_R | exact band_R | exact bor_R | exact bshr_R | exact lcm_R | omega) (fun hc => ?_) (fun hc => ?_)) <;> (first | (exfalso; omega) | skip))
    | (show Rch _ _ _ _ _ 11 _ _ _; refine Rch.blk' (Rn_mono mt _ _) bl_X3_takes_11 (i_iconst k_m1 (t_iret ?_)))
    | (show Rch _ _ _ _ _ 13 _ _ _; refine Rch.blk' (Rn_mono mt _ _) bl_X3_takes_13 (i_aload_n rfl (i_gfs rfl (i_iload_n rfl (t_cv2 (Rn_mono mt _ _) 21 rfl (Nat.le_of_ble_eq_true rfl) ?_)))))
    | (show Rch _ _ _ _ _ 21 _ _ _; refine Rch.blk' (Rn_mono mt _ _) bl_X3_takes_21 (i_istore2 trivial (i_aload_n rfl (i_gfs rfl (i_iload_n rfl (t_cv2 (Rn_mono mt _ _) 30 rfl (Nat.le_of_ble_eq_true rfl) ?_))))))
    | (show Rch _ _ _ _ _ 30 _ _ _; refine Rch.blk' (Rn_mono mt _ _) bl_X3_takes_30 (t_if_eq 37 33 rfl rfl (by first | exact hI_R | exact band_R | exact bor_R | exact bshr_R | exact lcm_R | omega) (fun hc => ?_) (fun hc => ?_)) <;> (first | (exfalso; omega) | skip))
    | (show Rch _ _ _ _ _ 33 _ _ _; refine Rch.blk' (Rn_mono mt _ _) bl_X3_takes_33 (i_iload_n rfl (t_goto 39 rfl ?_)))
    | (show Rch _ _ _ _ _ 37 _ _ _; refine Rch.blk' (Rn_mono mt _ _) bl_X3_takes_37 (i_bipush k_m3 (t_none ?_)))
    | (show Rch _ _ _ _ _ 39 _ _ _; refine Rch.blk' (Rn_mono mt _ _) bl_X3_takes_39 (t_iret ?_)))
theorem c_X3_turn (hG : RC h 0 G) (hO : OKB G) {s : Int} (hs : inR s) (hq : ∀ v G' h', oTurn G s = (v, G') → RC h' 0 G' → FrC h h' 0 → Q (some (ai (I v))) h') : Rn mt L (d + 3) 57 [ar 2 0, ai (I s)] h Q := by
  refine Rn.intro iX3_turn rfl rfl ?_
  show Rch bX3_turn _ _ _ _ 0 [some (ar 2 0), some (ai (I s)), none] [] _
  have e_t := hG.t
  have k1 : (s = 0 ∨ s = 1) → oTurn G s = (tn G, sett G s) := fun a => by unfold oTurn; rw [if_pos a]
  have k3 : ¬ (s = 0 ∨ s = 1) → oTurn G s = (-1, G) := fun a => by unfold oTurn; rw [if_neg a]
  repeat' (first
    | exact hq _ _ _ (k1 (by omega)) (by assumption) (by assumption)
    | exact hq _ _ _ (k3 (by omega)) hG FrC.rf
    | (show Rn _ _ _ 15 _ _ _; refine c_X0_giveTurn (by assumption) (by first | omega | exact hI_R) (fun _ _ _ _ => ?_) (fun _ => ?_))
    | (show Rch _ _ _ _ _ 0 _ _ _; refine Rch.blk' (Rn_mono mt _ _) bl_X3_turn_0 (i_aload_n rfl (i_gfs rfl (i_gfi rfl (i_istore2 trivial (i_aload_n rfl (i_gfs rfl (i_iload_n rfl (t_cv2 (Rn_mono mt _ _) 16 rfl (Nat.le_of_ble_eq_true rfl) ?_)))))))) <;> (try (simp (disch := omega) only [e_t])))
    | (show Rch _ _ _ _ _ 16 _ _ _; refine Rch.blk' (Rn_mono mt _ _) bl_X3_turn_16 (t_if_eq 23 19 rfl rfl (by first | exact hI_R | exact band_R | exact bor_R | exact bshr_R | exact lcm_R | omega | (simp (disch := omega) only [e_t]; omega)) (fun hc => ?_) (fun hc => ?_)) <;> (first | (exfalso; omega) | skip))
    | (show Rch _ _ _ _ _ 19 _ _ _; refine Rch.blk' (Rn_mono mt _ _) bl_X3_turn_19 (i_iload_n rfl (t_goto 24 rfl ?_)))
    | (show Rch _ _ _ _ _ 23 _ _ _; refine Rch.blk' (Rn_mono mt _ _) bl_X3_turn_23 (i_iconst k_m1 (t_none ?_)))
    | (show Rch _ _ _ _ _ 24 _ _ _; refine Rch.blk' (Rn_mono mt _ _) bl_X3_turn_24 (t_iret ?_)))
theorem c_X3_days (hG : RC h 0 G) (hO : OKB G) (hy : dy G ≤ 999) {n : Int} (hn : inR n) (hq : ∀ v G' h', oDays G n = (v, G') → RC h' 0 G' → FrC h h' 0 → Q (some (ai (I v))) h') : Rn mt L (d + 7) 58 [ar 2 0, ai (I n)] h Q := by
  refine Rn.intro iX3_days rfl rfl ?_
  show Rch bX3_days _ _ _ _ 0 [some (ar 2 0), some (ai (I n))] [] _
  have k1 : (1 ≤ n ∧ n ≤ 60) → dy G + n ≤ 999 → oDays G n = (NT (DN G no0 n), DN G no0 n) := fun a b => by unfold oDays; rw [if_pos a, if_pos b]
  have k2 : (1 ≤ n ∧ n ≤ 60) → ¬ dy G + n ≤ 999 → oDays G n = (-3, G) := fun a b => by unfold oDays; rw [if_pos a, if_neg b]
  have k3 : ¬ (1 ≤ n ∧ n ≤ 60) → oDays G n = (-1, G) := fun a => by unfold oDays; rw [if_neg a]
  have k4 : 1 ≤ n → OKB (DN G no0 n) := fun a => (DN_f (M := no0) hO n (by omega)).1
  repeat' (first
    | (show Rn _ _ _ 30 _ _ _; refine c_X0_passWithinLast hG hO hn hy (fun _ _ _ _ _ _ => ?_) (fun _ => ?_))
    | (show Rn _ _ _ 32 _ _ _; refine c_X0_howManyThere (by assumption) (k4 (by omega)) (fun _ _ => ?_))
    | exact hq _ _ _ (k1 (by omega) (by omega)) (by assumption) (by assumption)
    | exact hq _ _ _ (k2 (by omega) (by omega)) hG FrC.rf
    | exact hq _ _ _ (k3 (by omega)) hG FrC.rf
    | (show Rn _ _ _ 32 _ _ _; refine c_X0_howManyThere (by assumption) (by assumption) (fun _ _ => ?_))
    | (show Rch _ _ _ _ _ 0 _ _ _; refine Rch.blk' (Rn_mono mt _ _) bl_X3_days_0 (i_iload_n rfl (i_iconst k_1 (t_ic_lt 11 5 rfl rfl (by first | exact hI_R | exact band_R | exact bor_R | exact bshr_R | exact lcm_R | omega) (by first | exact hI_R | exact band_R | exact bor_R | exact bshr_R | exact lcm_R | omega) (fun hc => ?_) (fun hc => ?_)))) <;> (first | (exfalso; omega) | skip))
    | (show Rch _ _ _ _ _ 5 _ _ _; refine Rch.blk' (Rn_mono mt _ _) bl_X3_days_5 (i_iload_n rfl (i_bipush k_60 (t_ic_le 13 11 rfl rfl (by first | exact hI_R | exact band_R | exact bor_R | exact bshr_R | exact lcm_R | omega) (by first | exact hI_R | exact band_R | exact bor_R | exact bshr_R | exact lcm_R | omega) (fun hc => ?_) (fun hc => ?_)))) <;> (first | (exfalso; omega) | skip))
    | (show Rch _ _ _ _ _ 11 _ _ _; refine Rch.blk' (Rn_mono mt _ _) bl_X3_days_11 (i_iconst k_m1 (t_iret ?_)))
    | (show Rch _ _ _ _ _ 13 _ _ _; refine Rch.blk' (Rn_mono mt _ _) bl_X3_days_13 (i_aload_n rfl (i_gfs rfl (i_iload_n rfl (t_cv2 (Rn_mono mt _ _) 21 rfl (Nat.le_of_ble_eq_true rfl) ?_)))))
    | (show Rch _ _ _ _ _ 21 _ _ _; refine Rch.blk' (Rn_mono mt _ _) bl_X3_days_21 (t_if_eq 34 24 rfl rfl (by first | exact hI_R | exact band_R | exact bor_R | exact bshr_R | exact lcm_R | omega) (fun hc => ?_) (fun hc => ?_)) <;> (first | (exfalso; omega) | skip))
    | (show Rch _ _ _ _ _ 24 _ _ _; refine Rch.blk' (Rn_mono mt _ _) bl_X3_days_24 (i_aload_n rfl (i_gfs rfl (t_cv1 (Rn_mono mt _ _) 31 rfl (Nat.le_of_ble_eq_true rfl) ?_))))
    | (show Rch _ _ _ _ _ 31 _ _ _; refine Rch.blk' (Rn_mono mt _ _) bl_X3_days_31 (t_goto 36 rfl ?_))
    | (show Rch _ _ _ _ _ 34 _ _ _; refine Rch.blk' (Rn_mono mt _ _) bl_X3_days_34 (i_bipush k_m3 (t_none ?_)))
    | (show Rch _ _ _ _ _ 36 _ _ _; refine Rch.blk' (Rn_mono mt _ _) bl_X3_days_36 (t_iret ?_)))
theorem c_X3_lookAhead (hG : RC h 0 G) (hO : OKB G) (hy : dy G ≤ 999) {n : Int} (n0 : 0 ≤ n) (n1 : n ≤ 100) (hq : ∀ h', RC h' 2 (DN G no0 n) → FrC h h' 2 → Q none h') : Rn mt L (d + 7) 59 [ar 2 0, ai (I n)] h Q := by
  refine Rn.intro iX3_lookAhead rfl rfl ?_
  show Rch bX3_lookAhead _ _ _ _ 0 [some (ar 2 0), some (ai (I n))] [] _
  refine Rch.blk' (Rn_mono mt _ _) bl_X3_lookAhead_0 (i_aload_n rfl (i_gfs rfl (i_aload_n rfl (i_gfs rfl (t_cv2 (Rn_mono mt _ _) 11 rfl (Nat.le_of_ble_eq_true rfl) ?_)))))
  refine c_X0_becomes hG hO (by decide) (fun h1 hG1 hF1 => ?_)
  refine Rch.blk' (Rn_mono mt _ _) bl_X3_lookAhead_11 (i_aload_n rfl (i_gfs rfl (i_iload_n rfl (t_cv2 (Rn_mono mt _ _) 19 rfl (Nat.le_of_ble_eq_true rfl) ?_))))
  refine c_X0_passDays hG1 hO n0 (by omega) (by omega) (fun h2 hG2 hF2 => ?_)
  repeat' (first
    | exact hq _ hG2 (hF1.tr hF2)
    | (show Rch _ _ _ _ _ 0 _ _ _; refine Rch.blk' (Rn_mono mt _ _) bl_X3_lookAhead_0 (i_aload_n rfl (i_gfs rfl (i_aload_n rfl (i_gfs rfl (t_cv2 (Rn_mono mt _ _) 11 rfl (Nat.le_of_ble_eq_true rfl) ?_))))))
    | (show Rch _ _ _ _ _ 11 _ _ _; refine Rch.blk' (Rn_mono mt _ _) bl_X3_lookAhead_11 (i_aload_n rfl (i_gfs rfl (i_iload_n rfl (t_cv2 (Rn_mono mt _ _) 19 rfl (Nat.le_of_ble_eq_true rfl) ?_)))))
    | (show Rch _ _ _ _ _ 19 _ _ _; refine Rch.blk' (Rn_mono mt _ _) bl_X3_lookAhead_19 (t_vret ?_)))
theorem c_X3_then (hG : RC h 0 G) (hO : OKB G) (hy : dy G ≤ 999) {n w : Int} (hn : inR n) (hw : inR w) (hq : ∀ v h', v = vThen G n w → JX h h' → Q (some (ai (I v))) h') : Rn mt L (d + 8) 60 [ar 2 0, ai (I n), ai (I w)] h Q := by
  refine Rn.intro iX3_then rfl rfl ?_
  show Rch bX3_then _ _ _ _ 0 [some (ar 2 0), some (ai (I n)), some (ai (I w))] [] _
  have k4 : 0 ≤ n → OKB (DN G no0 n) := fun a => (DN_f (M := no0) hO n a).1
  repeat' (first
    | (show Rn _ _ _ 59 _ _ _; refine c_X3_lookAhead hG hO hy (by omega) (by omega) (fun _ hGm hFm => ?_); have e_o := hGm.o)
    | (show Rn _ _ _ 33 _ _ _; refine c_X0_bitsThere (by assumption) (k4 (by omega)) ?_)
    | (show Rn _ _ _ 35 _ _ _; refine c_X0_worthOf (by assumption) (k4 (by omega)) (by omega) (fun _ _ => ?_))
    | exact hq _ _ (by unfold vThen; omega) (FrC.jx (by assumption) (by omega))
    | (rw [e_o]; exact hq _ _ (by unfold vThen; omega) (FrC.jx (by assumption) (by omega)))
    | exact hq _ _ (by unfold vThen; omega) JX.rf
    | (show Rn _ _ _ 33 _ _ _; refine c_X0_bitsThere (by assumption) (by assumption) ?_)
    | (show Rn _ _ _ 35 _ _ _; refine c_X0_worthOf (by assumption) (by assumption) (by first | omega | exact hI_R) (fun _ _ => ?_))
    | (show Rch _ _ _ _ _ 0 _ _ _; refine Rch.blk' (Rn_mono mt _ _) bl_X3_then_0 (i_iload_n rfl (t_if_lt 19 4 rfl rfl (by first | exact hI_R | exact band_R | exact bor_R | exact bshr_R | exact lcm_R | omega | (simp (disch := omega) only [RC.o]; omega)) (fun hc => ?_) (fun hc => ?_))) <;> (first | (exfalso; omega) | skip))
    | (show Rch _ _ _ _ _ 4 _ _ _; refine Rch.blk' (Rn_mono mt _ _) bl_X3_then_4 (i_iload_n rfl (i_bipush k_60 (t_ic_gt 19 10 rfl rfl (by first | exact hI_R | exact band_R | exact bor_R | exact bshr_R | exact lcm_R | omega | (simp (disch := omega) only [RC.o]; omega)) (by first | exact hI_R | exact band_R | exact bor_R | exact bshr_R | exact lcm_R | omega | (simp (disch := omega) only [RC.o]; omega)) (fun hc => ?_) (fun hc => ?_)))) <;> (first | (exfalso; omega) | skip))
    | (show Rch _ _ _ _ _ 10 _ _ _; refine Rch.blk' (Rn_mono mt _ _) bl_X3_then_10 (i_iload_n rfl (t_if_lt 19 14 rfl rfl (by first | exact hI_R | exact band_R | exact bor_R | exact bshr_R | exact lcm_R | omega | (simp (disch := omega) only [RC.o]; omega)) (fun hc => ?_) (fun hc => ?_))) <;> (first | (exfalso; omega) | skip))
    | (show Rch _ _ _ _ _ 14 _ _ _; refine Rch.blk' (Rn_mono mt _ _) bl_X3_then_14 (i_iload_n rfl (i_iconst k_3 (t_ic_le 21 19 rfl rfl (by first | exact hI_R | exact band_R | exact bor_R | exact bshr_R | exact lcm_R | omega | (simp (disch := omega) only [RC.o]; omega)) (by first | exact hI_R | exact band_R | exact bor_R | exact bshr_R | exact lcm_R | omega | (simp (disch := omega) only [RC.o]; omega)) (fun hc => ?_) (fun hc => ?_)))) <;> (first | (exfalso; omega) | skip))
    | (show Rch _ _ _ _ _ 19 _ _ _; refine Rch.blk' (Rn_mono mt _ _) bl_X3_then_19 (i_iconst k_m1 (t_iret ?_)))
    | (show Rch _ _ _ _ _ 21 _ _ _; refine Rch.blk' (Rn_mono mt _ _) bl_X3_then_21 (i_aload_n rfl (i_iload_n rfl (t_cv2 (Rn_mono mt _ _) 26 rfl (Nat.le_of_ble_eq_true rfl) ?_))))
    | (show Rch _ _ _ _ _ 26 _ _ _; refine Rch.blk' (Rn_mono mt _ _) bl_X3_then_26 (i_iload_n rfl (t_tsw 0 2 77 rfl rfl (by first | omega | (simp (disch := omega) only [RC.o]; omega)) rfl (by first | exact hI_R | exact band_R | exact bor_R | exact bshr_R | exact lcm_R | omega | (simp (disch := omega) only [RC.o]; omega)) (by first | omega | (simp (disch := omega) only [RC.o]; omega)) (sw_c 0 52 1 rfl rfl (by first | exact hI_R | exact band_R | exact bor_R | exact bshr_R | exact lcm_R | omega | (simp (disch := omega) only [RC.o]; omega)) (by first | omega | (simp (disch := omega) only [RC.o]; omega)) rfl (fun hc => ?_) (sw_c 1 60 2 rfl rfl (by first | exact hI_R | exact band_R | exact bor_R | exact bshr_R | exact lcm_R | omega | (simp (disch := omega) only [RC.o]; omega)) (by first | omega | (simp (disch := omega) only [RC.o]; omega)) rfl (fun hc => ?_) (sw_c 2 68 3 rfl rfl (by first | exact hI_R | exact band_R | exact bor_R | exact bshr_R | exact lcm_R | omega | (simp (disch := omega) only [RC.o]; omega)) (by first | omega | (simp (disch := omega) only [RC.o]; omega)) rfl (fun hc => ?_) sw_n))) (fun hc => ?_))) <;> (first | (exfalso; omega) | skip))
    | (show Rch _ _ _ _ _ 52 _ _ _; refine Rch.blk' (Rn_mono mt _ _) bl_X3_then_52 (i_aload_n rfl (i_gfs rfl (t_cv1 (Rn_mono mt _ _) 59 rfl (Nat.le_of_ble_eq_true rfl) ?_))) <;> (try (simp (disch := omega) only [RC.o])))
    | (show Rch _ _ _ _ _ 59 _ _ _; refine Rch.blk' (Rn_mono mt _ _) bl_X3_then_59 (t_iret ?_))
    | (show Rch _ _ _ _ _ 60 _ _ _; refine Rch.blk' (Rn_mono mt _ _) bl_X3_then_60 (i_aload_n rfl (i_gfs rfl (i_gfi rfl (t_iret ?_)))) <;> (try (simp (disch := omega) only [RC.o])))
    | (show Rch _ _ _ _ _ 68 _ _ _; refine Rch.blk' (Rn_mono mt _ _) bl_X3_then_68 (i_aload_n rfl (i_gfs rfl (i_iconst k_0 (t_cv2 (Rn_mono mt _ _) 76 rfl (Nat.le_of_ble_eq_true rfl) ?_)))) <;> (try (simp (disch := omega) only [RC.o])))
    | (show Rch _ _ _ _ _ 76 _ _ _; refine Rch.blk' (Rn_mono mt _ _) bl_X3_then_76 (t_iret ?_))
    | (show Rch _ _ _ _ _ 77 _ _ _; refine Rch.blk' (Rn_mono mt _ _) bl_X3_then_77 (i_aload_n rfl (i_gfs rfl (i_iconst k_1 (t_cv2 (Rn_mono mt _ _) 85 rfl (Nat.le_of_ble_eq_true rfl) ?_)))) <;> (try (simp (disch := omega) only [RC.o])))
    | (show Rch _ _ _ _ _ 85 _ _ _; refine Rch.blk' (Rn_mono mt _ _) bl_X3_then_85 (t_iret ?_)))
theorem c_X3_next (hG : RC h 0 G) (hO : OKB G) (hy : dy G ≤ 999) {w : Int} (hw : inR w) (hq : ∀ v h', v = vNext G w → JX h h' → Q (some (ai (I v))) h') : Rn mt L (d + 5) 64 [ar 2 0, ai (I w)] h Q := by
  refine Rn.intro iX3_next rfl rfl ?_
  show Rch bX3_next _ _ _ _ 0 [some (ar 2 0), some (ai (I w)), none, none] [] _
  have e_d := hG.d
  have g_d := hO.2.2.2.1
  have g_n := hO.n
  have g_g := goer_R (G := G) (M := no0) (ra := 0) (y := dy G + 1) hO
  have g_g1 : goer G no0 0 (dy G + 1) = -4 ∨ (0 ≤ goer G no0 0 (dy G + 1) ∧ goer G no0 0 (dy G + 1) < nn G ∧ sq G (goer G no0 0 (dy G + 1)) < 36) := g_g.elim Or.inl (fun z => Or.inr ⟨z.1, z.2.1, z.2.2.2.1⟩)
  clear g_g
  have g_h : NH G 0 (goer G no0 0 (dy G + 1)) = cnt (HS G 0 (goer G no0 0 (dy G + 1))) 10 := rfl
  have hgo : ∀ {Q' : Option AV → Mem → Prop}, (Q' (some (ai (I (goer G no0 0 (dy G + 1))))) h) → Rn mt L (d + 4) 28 [ar 0 0, ai (I (dy G + 1)), ai (I 0), ai (I 0)] h Q' := by
    intro Q' hk
    have := c_X0_goerOn (L := L) (d := d) (M := no0) (ra := 0) (Q := Q') hG hO (Or.inl rfl) (y := dy G + 1) (by omega) (by omega) (fun v hv _ => by rw [hv]; exact hk)
    rw [show BT no0 = 0 from BT_emp] at this
    exact this
  have h0b : ∀ {Q' : Option AV → Mem → Prop}, Q' (some (ai (I 0))) h → Rn mt L (d + 4) 26 [ai (I 0)] h Q' := by
    intro Q' hk
    have e0 : cnt no0 10 = 0 := by
      have : ∀ k : Int, 0 ≤ k → cnt no0 k = 0 := ind0 rfl (fun k a b => by rw [cnt_u0 a (fun z => z)]; exact b)
      exact this 10 (by omega)
    have := c_J6_bitCount_0f7a4 (L := L) (d := d + 3) (h := h) (P := no0) (Q := Q') (fun _ _ => by rw [e0]; exact hk)
    rw [show BT no0 = 0 from BT_emp] at this
    exact this
  repeat' (first
    | (show Rn _ _ _ 28 _ _ _; refine hgo ?_)
    | (show Rn _ _ _ 26 [ai (I 0)] _ _; refine h0b ?_)
    | exact hq _ _ (by unfold vNext; omega) JX.rf
    | exact hq _ _ (by subst_vars; unfold vNext; omega) JX.rf
    | (show Rn _ _ _ 28 _ _ _; refine c_X0_goerOn (by assumption) (by assumption) (by omega) (by omega) (by omega) (fun _ _ _ => ?_))
    | (show Rn _ _ _ 23 _ _ _; refine c_X0_ideaOf (by assumption) (by assumption) (by first | omega | exact hI_R) (by omega) (by omega) (fun _ _ _ _ _ _ _ => ?_) (fun _ => ?_))
    | (show Rn _ _ _ 25 _ _ _; refine c_X0_hearersOf (by assumption) (by assumption) (by omega) (by first | omega | exact hI_R) (fun _ _ _ => ?_) (fun _ => ?_) <;> (first | (exfalso; omega) | skip))
    | (show Rn _ _ _ 26 _ _ _; refine c_J6_bitCount_0f7a4 (fun _ _ => ?_))
    | (show Rch _ _ _ _ _ 0 _ _ _; refine Rch.blk' (Rn_mono mt _ _) bl_X3_next_0 (i_iload_n rfl (t_if_lt 9 4 rfl rfl (by first | exact hI_R | exact band_R | exact bor_R | exact bshr_R | exact lcm_R | omega | (simp (disch := omega) only [e_d]; omega)) (fun hc => ?_) (fun hc => ?_))) <;> (first | (exfalso; omega) | skip))
    | (show Rch _ _ _ _ _ 4 _ _ _; refine Rch.blk' (Rn_mono mt _ _) bl_X3_next_4 (i_iload_n rfl (i_iconst k_2 (t_ic_le 11 9 rfl rfl (by first | exact hI_R | exact band_R | exact bor_R | exact bshr_R | exact lcm_R | omega | (simp (disch := omega) only [e_d]; omega)) (by first | exact hI_R | exact band_R | exact bor_R | exact bshr_R | exact lcm_R | omega | (simp (disch := omega) only [e_d]; omega)) (fun hc => ?_) (fun hc => ?_)))) <;> (first | (exfalso; omega) | skip))
    | (show Rch _ _ _ _ _ 9 _ _ _; refine Rch.blk' (Rn_mono mt _ _) bl_X3_next_9 (i_iconst k_m1 (t_iret ?_)))
    | (show Rch _ _ _ _ _ 11 _ _ _; refine Rch.blk' (Rn_mono mt _ _) bl_X3_next_11 (i_aload_n rfl (i_gfs rfl (i_gfi rfl (i_iconst k_1 (i_iadd (i_istore2 trivial (i_aload_n rfl (i_gfs rfl (i_iload_n rfl (i_iconst k_0 (i_iconst k_0 (t_cv4 (Rn_mono mt _ _) 31 rfl (Nat.le_of_ble_eq_true rfl) ?_)))))))))))) <;> (try (simp (disch := omega) only [e_d])))
    | (show Rch _ _ _ _ _ 31 _ _ _; refine Rch.blk' (Rn_mono mt _ _) bl_X3_next_31 (i_istore3 trivial (i_iload_n rfl (t_if_ne 38 36 rfl rfl (by first | exact hI_R | exact band_R | exact bor_R | exact bshr_R | exact lcm_R | omega | (simp (disch := omega) only [e_d]; omega)) (fun hc => ?_) (fun hc => ?_)))) <;> (first | (exfalso; omega) | skip))
    | (show Rch _ _ _ _ _ 36 _ _ _; refine Rch.blk' (Rn_mono mt _ _) bl_X3_next_36 (i_iload_n rfl (t_iret ?_)))
    | (show Rch _ _ _ _ _ 38 _ _ _; refine Rch.blk' (Rn_mono mt _ _) bl_X3_next_38 (i_iload_n rfl (i_iconst k_1 (t_ic_ne 53 43 rfl rfl (by first | exact hI_R | exact band_R | exact bor_R | exact bshr_R | exact lcm_R | omega | (simp (disch := omega) only [e_d]; omega)) (by first | exact hI_R | exact band_R | exact bor_R | exact bshr_R | exact lcm_R | omega | (simp (disch := omega) only [e_d]; omega)) (fun hc => ?_) (fun hc => ?_)))) <;> (first | (exfalso; omega) | skip))
    | (show Rch _ _ _ _ _ 43 _ _ _; refine Rch.blk' (Rn_mono mt _ _) bl_X3_next_43 (i_aload_n rfl (i_gfs rfl (i_iload_n rfl (i_iload_n rfl (t_cv3 (Rn_mono mt _ _) 52 rfl (Nat.le_of_ble_eq_true rfl) ?_))))) <;> (try (simp (disch := omega) only [e_d])))
    | (show Rch _ _ _ _ _ 52 _ _ _; refine Rch.blk' (Rn_mono mt _ _) bl_X3_next_52 (t_iret ?_))
    | (show Rch _ _ _ _ _ 53 _ _ _; refine Rch.blk' (Rn_mono mt _ _) bl_X3_next_53 (i_aload_n rfl (i_gfs rfl (i_iload_n rfl (i_iconst k_0 (t_cv3 (Rn_mono mt _ _) 62 rfl (Nat.le_of_ble_eq_true rfl) ?_))))) <;> (try (simp (disch := omega) only [e_d])))
    | (show Rch _ _ _ _ _ 62 _ _ _; refine Rch.blk' (Rn_mono mt _ _) bl_X3_next_62 (t_cs1 (Rn_mono mt _ _) 65 rfl (Nat.le_of_ble_eq_true rfl) ?_))
    | (show Rch _ _ _ _ _ 65 _ _ _; refine Rch.blk' (Rn_mono mt _ _) bl_X3_next_65 (t_iret ?_)))
theorem c_X3_heard (hG : RC h 0 G) (hO : OKB G) {p : Int} (hp : inR p) (hq : ∀ v h', v = vHeard G p → JX h h' → Q (some (ai (I v))) h') : Rn mt L (d + 4) 65 [ar 2 0, ai (I p)] h Q := by
  refine Rn.intro iX3_heard rfl rfl ?_
  show Rch bX3_heard _ _ _ _ 0 [some (ar 2 0), some (ai (I p))] [] _
  repeat' (first
    | exact hq _ _ (by unfold vHeard; omega) JX.rf
    | (show Rn _ _ _ 1 _ _ _; refine c_X0_has (by assumption) (by assumption) (by first | omega | exact hI_R) (fun _ _ => ?_) (fun _ => ?_))
    | (show Rn _ _ _ 2 _ _ _; refine c_X0_isThere (by assumption) (by assumption) (by first | omega | exact hI_R) (fun _ _ _ _ => ?_) (fun _ => ?_))
    | (show Rn _ _ _ 25 _ _ _; refine c_X0_hearersOf (by assumption) (by assumption) (by omega) (by first | omega | exact hI_R) (fun _ _ _ => ?_) (fun _ => ?_) <;> (first | (exfalso; omega) | skip))
    | (show Rch _ _ _ _ _ 0 _ _ _; refine Rch.blk' (Rn_mono mt _ _) bl_X3_heard_0 (i_aload_n rfl (i_gfs rfl (i_iload_n rfl (t_cv2 (Rn_mono mt _ _) 8 rfl (Nat.le_of_ble_eq_true rfl) ?_)))))
    | (show Rch _ _ _ _ _ 8 _ _ _; refine Rch.blk' (Rn_mono mt _ _) bl_X3_heard_8 (t_if_ne 13 11 rfl rfl (by first | exact hI_R | exact band_R | exact bor_R | exact bshr_R | exact lcm_R | omega) (fun hc => ?_) (fun hc => ?_)) <;> (first | (exfalso; omega) | skip))
    | (show Rch _ _ _ _ _ 11 _ _ _; refine Rch.blk' (Rn_mono mt _ _) bl_X3_heard_11 (i_iconst k_m1 (t_iret ?_)))
    | (show Rch _ _ _ _ _ 13 _ _ _; refine Rch.blk' (Rn_mono mt _ _) bl_X3_heard_13 (i_aload_n rfl (i_gfs rfl (i_iload_n rfl (t_cv2 (Rn_mono mt _ _) 21 rfl (Nat.le_of_ble_eq_true rfl) ?_)))))
    | (show Rch _ _ _ _ _ 21 _ _ _; refine Rch.blk' (Rn_mono mt _ _) bl_X3_heard_21 (t_if_eq 36 24 rfl rfl (by first | exact hI_R | exact band_R | exact bor_R | exact bshr_R | exact lcm_R | omega) (fun hc => ?_) (fun hc => ?_)) <;> (first | (exfalso; omega) | skip))
    | (show Rch _ _ _ _ _ 24 _ _ _; refine Rch.blk' (Rn_mono mt _ _) bl_X3_heard_24 (i_aload_n rfl (i_gfs rfl (i_iload_n rfl (i_iconst k_0 (t_cv3 (Rn_mono mt _ _) 33 rfl (Nat.le_of_ble_eq_true rfl) ?_))))))
    | (show Rch _ _ _ _ _ 33 _ _ _; refine Rch.blk' (Rn_mono mt _ _) bl_X3_heard_33 (t_goto 38 rfl ?_))
    | (show Rch _ _ _ _ _ 36 _ _ _; refine Rch.blk' (Rn_mono mt _ _) bl_X3_heard_36 (i_bipush k_m3 (t_none ?_)))
    | (show Rch _ _ _ _ _ 38 _ _ _; refine Rch.blk' (Rn_mono mt _ _) bl_X3_heard_38 (t_iret ?_)))
theorem c_X3_count (hG : RC h 0 G) (hO : OKB G) {w : Int} (hw : inR w) (hq : ∀ v h', v = vCount G w → JX h h' → Q (some (ai (I v))) h') : Rn mt L (d + 4) 74 [ar 2 0, ai (I w)] h Q := by
  refine Rn.intro iX3_count rfl rfl ?_
  show Rch bX3_count _ _ _ _ 0 [some (ar 2 0), some (ai (I w))] [] _
  have e_n := hG.n
  have e_t := hG.t
  have e_o := hG.o
  have e_d := hG.d
  repeat' (first
    | exact hq _ _ (by unfold vCount; omega) JX.rf
    | (show Rn _ _ _ 33 _ _ _; refine c_X0_bitsThere (by assumption) (by assumption) ?_)
    | (show Rch _ _ _ _ _ 0 _ _ _; refine Rch.blk' (Rn_mono mt _ _) bl_X3_count_0 (i_iload_n rfl (t_tsw 0 4 76 rfl rfl (by first | omega | (simp (disch := omega) only [e_n, e_t, e_o, e_d]; omega)) rfl (by first | exact hI_R | exact band_R | exact bor_R | exact bshr_R | exact lcm_R | omega | (simp (disch := omega) only [e_n, e_t, e_o, e_d]; omega)) (by first | omega | (simp (disch := omega) only [e_n, e_t, e_o, e_d]; omega)) (sw_c 0 36 1 rfl rfl (by first | exact hI_R | exact band_R | exact bor_R | exact bshr_R | exact lcm_R | omega | (simp (disch := omega) only [e_n, e_t, e_o, e_d]; omega)) (by first | omega | (simp (disch := omega) only [e_n, e_t, e_o, e_d]; omega)) rfl (fun hc => ?_) (sw_c 1 44 2 rfl rfl (by first | exact hI_R | exact band_R | exact bor_R | exact bshr_R | exact lcm_R | omega | (simp (disch := omega) only [e_n, e_t, e_o, e_d]; omega)) (by first | omega | (simp (disch := omega) only [e_n, e_t, e_o, e_d]; omega)) rfl (fun hc => ?_) (sw_c 2 52 3 rfl rfl (by first | exact hI_R | exact band_R | exact bor_R | exact bshr_R | exact lcm_R | omega | (simp (disch := omega) only [e_n, e_t, e_o, e_d]; omega)) (by first | omega | (simp (disch := omega) only [e_n, e_t, e_o, e_d]; omega)) rfl (fun hc => ?_) (sw_c 3 60 4 rfl rfl (by first | exact hI_R | exact band_R | exact bor_R | exact bshr_R | exact lcm_R | omega | (simp (disch := omega) only [e_n, e_t, e_o, e_d]; omega)) (by first | omega | (simp (disch := omega) only [e_n, e_t, e_o, e_d]; omega)) rfl (fun hc => ?_) (sw_c 4 68 5 rfl rfl (by first | exact hI_R | exact band_R | exact bor_R | exact bshr_R | exact lcm_R | omega | (simp (disch := omega) only [e_n, e_t, e_o, e_d]; omega)) (by first | omega | (simp (disch := omega) only [e_n, e_t, e_o, e_d]; omega)) rfl (fun hc => ?_) sw_n))))) (fun hc => ?_))) <;> (first | (exfalso; omega) | skip))
    | (show Rch _ _ _ _ _ 36 _ _ _; refine Rch.blk' (Rn_mono mt _ _) bl_X3_count_36 (i_aload_n rfl (i_gfs rfl (i_gfi rfl (t_iret ?_)))) <;> (try (simp (disch := omega) only [e_n, e_t, e_o, e_d])))
    | (show Rch _ _ _ _ _ 44 _ _ _; refine Rch.blk' (Rn_mono mt _ _) bl_X3_count_44 (i_aload_n rfl (i_gfs rfl (i_gfi rfl (t_iret ?_)))) <;> (try (simp (disch := omega) only [e_n, e_t, e_o, e_d])))
    | (show Rch _ _ _ _ _ 52 _ _ _; refine Rch.blk' (Rn_mono mt _ _) bl_X3_count_52 (i_aload_n rfl (i_gfs rfl (i_gfi rfl (t_iret ?_)))) <;> (try (simp (disch := omega) only [e_n, e_t, e_o, e_d])))
    | (show Rch _ _ _ _ _ 60 _ _ _; refine Rch.blk' (Rn_mono mt _ _) bl_X3_count_60 (i_aload_n rfl (i_gfs rfl (i_gfi rfl (t_iret ?_)))) <;> (try (simp (disch := omega) only [e_n, e_t, e_o, e_d])))
    | (show Rch _ _ _ _ _ 68 _ _ _; refine Rch.blk' (Rn_mono mt _ _) bl_X3_count_68 (i_aload_n rfl (i_gfs rfl (t_cv1 (Rn_mono mt _ _) 75 rfl (Nat.le_of_ble_eq_true rfl) ?_))) <;> (try (simp (disch := omega) only [e_n, e_t, e_o, e_d])))
    | (show Rch _ _ _ _ _ 75 _ _ _; refine Rch.blk' (Rn_mono mt _ _) bl_X3_count_75 (t_iret ?_))
    | (show Rch _ _ _ _ _ 76 _ _ _; refine Rch.blk' (Rn_mono mt _ _) bl_X3_count_76 (i_iconst k_m1 (t_iret ?_))))
end C9


