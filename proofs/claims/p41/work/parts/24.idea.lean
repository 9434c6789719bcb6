/-! IDEAS, the class's -/
abbrev RH (L : Nat) (bs : List Blk) (e : Nat) (Q : Option AV → Mem → Prop) (pc : Nat) (ls : Lc) (h : Mem) : Prop := Rch bs (Rn mt L e) L (fun _ _ _ _ => False) Q pc ls [] h
abbrev hby (G : Bd) (q s : Int) : Prop := 0 ≤ q ∧ q < 36 ∧ 0 ≤ ons G q ∧ sd G (ons G q) = s
abbrev fre (G : Bd) (q : Int) : Prop := 0 ≤ q ∧ q < 36 ∧ ons G q = -4
abbrev bk (G : Bd) (p r c : Int) : Int := sqO (sq G p) (sg G p r) c
noncomputable def pwi (G : Bd) (p : Int) : Int := ifp (fre G (bk G p 1 0)) (bk G p 1 0) (ifp (hby G (bk G p 1 1) (1 - sd G p)) (bk G p 1 1) (-4))
noncomputable def kni (G : Bd) (p : Int) : Int := ifp (¬ bk G p 2 1 = -4 ∧ ¬ hby G (bk G p 2 1) (sd G p)) (bk G p 2 1) (ifp (¬ bk G p 2 (-1) = -4 ∧ ¬ hby G (bk G p 2 (-1)) (sd G p)) (bk G p 2 (-1)) (-4))
noncomputable def bii (G : Bd) (p d : Int) : Int := ifp (¬ bk G p 1 1 = -4 ∧ ¬ hby G (bk G p 1 1) (sd G p) ∧ d % (fg G p + 2) = 0) (bk G p 1 1) (-4)
noncomputable def kgi (G : Bd) (p : Int) : Int := ifp (fre G (bk G p (-1) 0) ∧ ∃ o, 0 ≤ o ∧ o < nn G ∧ sd G o = 1 - sd G p ∧ sq G o < 36 ∧ fr (sq G o) (sq G p) ≤ 1) (bk G p (-1) 0) (-4)
noncomputable def sld (G : Bd) (p r c : Int) : Nat → Int → Int → Int
  | 0, _, f => f
  | m + 1, k, f => ifp (hby G (bk G p (k * r) (k * c)) (1 - sd G p)) (bk G p (k * r) (k * c)) (ifp (fre G (bk G p (k * r) (k * c))) (sld G p r c m (k + 1) (bk G p (k * r) (k * c))) f)
noncomputable def sli (G : Bd) (p r c : Int) : Int := sld G p r c 5 1 (-4)
noncomputable def ide (G : Bd) (p d : Int) : Int := if kd G p = 1 then kni G p else if kd G p = 2 ∨ kd G p = 6 then sli G p 1 0 else if kd G p = 3 then bii G p d else if kd G p = 4 then (if sli G p 1 0 = -4 then sli G p 0 1 else sli G p 1 0) else if kd G p = 5 then kgi G p else if kd G p = 7 then ifp (fre G (bk G p 0 (-1))) (bk G p 0 (-1)) (bii G p d) else pwi G p
theorem sg_R {G : Bd} {p r : Int} : sg G p r = r ∨ sg G p r = -r := by unfold sg; omega
section C2
variable {d L : Nat} {h : Mem} {Q : Option AV → Mem → Prop} {b : Nat} {G : Bd}
theorem c_X0_pawnIdea (hG : RC h b G) (hO : OKB G) {z : Int} (h0 : 0 ≤ z) (h1 : z < nn G) (h2 : 0 ≤ sq G z) (h3 : sq G z < 36) (hq : ∀ v, v = pwi G z → -4 ≤ v → v < 36 → Q (some (ai (I v))) h) : Rn mt L (d + 2) 22 [ar 0 b, ai (I z)] h Q := by
  refine Rn.intro iX0_pawnIdea rfl rfl ?_
  show Rch bX0_pawnIdea _ _ _ _ 0 [some (ar 0 b), some (ai (I z)), none, none] [] _
  have e_s := @RC.s _ _ _ hG
  have g_n := hO.n
  have g_p := hO.pc z h0 h1
  have q1 : (0 ≤ sqO (sq G z) (sg G z 1) 0 ∧ sqO (sq G z) (sg G z 1) 0 < 36 ∧ ons G (sqO (sq G z) (sg G z 1) 0) = -4) → pwi G z = sqO (sq G z) (sg G z 1) 0 := fun a => ifp_p a
  have q2 : ¬ (0 ≤ sqO (sq G z) (sg G z 1) 0 ∧ sqO (sq G z) (sg G z 1) 0 < 36 ∧ ons G (sqO (sq G z) (sg G z 1) 0) = -4) → (0 ≤ sqO (sq G z) (sg G z 1) 1 ∧ sqO (sq G z) (sg G z 1) 1 < 36 ∧ 0 ≤ ons G (sqO (sq G z) (sg G z 1) 1) ∧ sd G (ons G (sqO (sq G z) (sg G z 1) 1)) = 1 - sd G z) → pwi G z = sqO (sq G z) (sg G z 1) 1 := fun a b => (ifp_n a).trans (ifp_p b)
  have q3 : ¬ (0 ≤ sqO (sq G z) (sg G z 1) 0 ∧ sqO (sq G z) (sg G z 1) 0 < 36 ∧ ons G (sqO (sq G z) (sg G z 1) 0) = -4) → ¬ (0 ≤ sqO (sq G z) (sg G z 1) 1 ∧ sqO (sq G z) (sg G z 1) 1 < 36 ∧ 0 ≤ ons G (sqO (sq G z) (sg G z 1) 1) ∧ sd G (ons G (sqO (sq G z) (sg G z 1) 1)) = 1 - sd G z) → pwi G z = -4 := fun a b => (ifp_n a).trans (ifp_n b)
  repeat' (first
    | exact hq _ (q1 (by omega)).symm (by omega) (by omega)
    | exact hq _ (q2 (by omega) (by omega)).symm (by omega) (by omega)
    | exact hq _ (q3 (by omega) (by omega)).symm (by omega) (by omega)
    | (show Rn _ _ _ 16 _ _ _; refine c_X0_squareFrom (by assumption) (by assumption) (by omega) (by omega) (by omega) (by omega) (by omega) (by omega) (fun _ _ => ?_))
    | (show Rn _ _ _ 5 _ _ _; refine c_X0_isFree (by assumption) (by assumption) (by first | omega | exact hI_R) (fun _ _ _ => ?_) (fun _ => ?_))
    | (show Rn _ _ _ 6 _ _ _; refine c_X0_isHeldBy (by assumption) (by assumption) (by first | omega | exact hI_R) (by first | omega | exact hI_R) (fun _ _ _ _ _ => ?_) (fun _ => ?_))
    | (show Rch _ _ _ _ _ 0 _ _ _; refine Rch.blk' (Rn_mono mt _ _) bl_X0_pawnIdea_0 (i_aload_n rfl (i_iload_n rfl (i_iconst k_1 (i_iconst k_0 (t_cv4 (Rn_mono mt _ _) 7 rfl (Nat.le_of_ble_eq_true rfl) ?_))))))
    | (show Rch _ _ _ _ _ 7 _ _ _; refine Rch.blk' (Rn_mono mt _ _) bl_X0_pawnIdea_7 (i_istore2 trivial (i_aload_n rfl (i_iload_n rfl (t_cv2 (Rn_mono mt _ _) 13 rfl (Nat.le_of_ble_eq_true rfl) ?_)))))
    | (show Rch _ _ _ _ _ 13 _ _ _; refine Rch.blk' (Rn_mono mt _ _) bl_X0_pawnIdea_13 (t_if_eq 18 16 rfl rfl (by first | exact hI_R | exact band_R | exact bor_R | exact bshr_R | exact lcm_R | omega | (simp (disch := omega) only [e_s]; omega)) (fun hc => ?_) (fun hc => ?_)) <;> (first | (exfalso; omega) | skip))
    | (show Rch _ _ _ _ _ 16 _ _ _; refine Rch.blk' (Rn_mono mt _ _) bl_X0_pawnIdea_16 (i_iload_n rfl (t_iret ?_)))
    | (show Rch _ _ _ _ _ 18 _ _ _; refine Rch.blk' (Rn_mono mt _ _) bl_X0_pawnIdea_18 (i_aload_n rfl (i_iload_n rfl (i_iconst k_1 (i_iconst k_1 (t_cv4 (Rn_mono mt _ _) 25 rfl (Nat.le_of_ble_eq_true rfl) ?_))))))
    | (show Rch _ _ _ _ _ 25 _ _ _; refine Rch.blk' (Rn_mono mt _ _) bl_X0_pawnIdea_25 (i_istore3 trivial (i_aload_n rfl (i_iload_n rfl (i_iconst k_1 (i_aload_n rfl (i_gfr rfl (i_iload_n rfl (i_iald (n := 10) rfl (by first | omega | (simp (disch := omega) only [e_s]; omega)) (by first | omega | (simp (disch := omega) only [e_s]; omega)) (by first | omega | (simp (disch := omega) only [e_s]; omega)) (i_isub (t_cv3 (Rn_mono mt _ _) 39 rfl (Nat.le_of_ble_eq_true rfl) ?_)))))))))) <;> (try (simp (disch := omega) only [e_s])))
    | (show Rch _ _ _ _ _ 39 _ _ _; refine Rch.blk' (Rn_mono mt _ _) bl_X0_pawnIdea_39 (t_if_eq 46 42 rfl rfl (by first | exact hI_R | exact band_R | exact bor_R | exact bshr_R | exact lcm_R | omega | (simp (disch := omega) only [e_s]; omega)) (fun hc => ?_) (fun hc => ?_)) <;> (first | (exfalso; omega) | skip))
    | (show Rch _ _ _ _ _ 42 _ _ _; refine Rch.blk' (Rn_mono mt _ _) bl_X0_pawnIdea_42 (i_iload_n rfl (t_goto 48 rfl ?_)))
    | (show Rch _ _ _ _ _ 46 _ _ _; refine Rch.blk' (Rn_mono mt _ _) bl_X0_pawnIdea_46 (i_bipush k_m4 (t_none ?_)))
    | (show Rch _ _ _ _ _ 48 _ _ _; refine Rch.blk' (Rn_mono mt _ _) bl_X0_pawnIdea_48 (t_iret ?_)))
theorem c_X0_knightIdea (hG : RC h b G) (hO : OKB G) {z : Int} (h0 : 0 ≤ z) (h1 : z < nn G) (h2 : 0 ≤ sq G z) (h3 : sq G z < 36) (hq : ∀ v, v = kni G z → -4 ≤ v → v < 36 → Q (some (ai (I v))) h) : Rn mt L (d + 2) 17 [ar 0 b, ai (I z)] h Q := by
  refine Rn.intro iX0_knightIdea rfl rfl ?_
  show Rch bX0_knightIdea _ _ _ _ 0 [some (ar 0 b), some (ai (I z)), none, none] [] _
  have e_s := @RC.s _ _ _ hG
  have g_n := hO.n
  have g_p := hO.pc z h0 h1
  have q1 : (¬ sqO (sq G z) (sg G z 2) 1 = -4 ∧ ¬ (0 ≤ sqO (sq G z) (sg G z 2) 1 ∧ sqO (sq G z) (sg G z 2) 1 < 36 ∧ 0 ≤ ons G (sqO (sq G z) (sg G z 2) 1) ∧ sd G (ons G (sqO (sq G z) (sg G z 2) 1)) = sd G z)) → kni G z = sqO (sq G z) (sg G z 2) 1 := fun a => ifp_p a
  have q2 : ¬ (¬ sqO (sq G z) (sg G z 2) 1 = -4 ∧ ¬ (0 ≤ sqO (sq G z) (sg G z 2) 1 ∧ sqO (sq G z) (sg G z 2) 1 < 36 ∧ 0 ≤ ons G (sqO (sq G z) (sg G z 2) 1) ∧ sd G (ons G (sqO (sq G z) (sg G z 2) 1)) = sd G z)) → (¬ sqO (sq G z) (sg G z 2) (-1) = -4 ∧ ¬ (0 ≤ sqO (sq G z) (sg G z 2) (-1) ∧ sqO (sq G z) (sg G z 2) (-1) < 36 ∧ 0 ≤ ons G (sqO (sq G z) (sg G z 2) (-1)) ∧ sd G (ons G (sqO (sq G z) (sg G z 2) (-1))) = sd G z)) → kni G z = sqO (sq G z) (sg G z 2) (-1) := fun a b => (ifp_n a).trans (ifp_p b)
  have q3 : ¬ (¬ sqO (sq G z) (sg G z 2) 1 = -4 ∧ ¬ (0 ≤ sqO (sq G z) (sg G z 2) 1 ∧ sqO (sq G z) (sg G z 2) 1 < 36 ∧ 0 ≤ ons G (sqO (sq G z) (sg G z 2) 1) ∧ sd G (ons G (sqO (sq G z) (sg G z 2) 1)) = sd G z)) → ¬ (¬ sqO (sq G z) (sg G z 2) (-1) = -4 ∧ ¬ (0 ≤ sqO (sq G z) (sg G z 2) (-1) ∧ sqO (sq G z) (sg G z 2) (-1) < 36 ∧ 0 ≤ ons G (sqO (sq G z) (sg G z 2) (-1)) ∧ sd G (ons G (sqO (sq G z) (sg G z 2) (-1))) = sd G z)) → kni G z = -4 := fun a b => (ifp_n a).trans (ifp_n b)
  repeat' (first
    | exact hq _ (q1 (by omega)).symm (by omega) (by omega)
    | exact hq _ (q2 (by omega) (by omega)).symm (by omega) (by omega)
    | exact hq _ (q3 (by omega) (by omega)).symm (by omega) (by omega)
    | (show Rn _ _ _ 16 _ _ _; refine c_X0_squareFrom (by assumption) (by assumption) (by omega) (by omega) (by omega) (by omega) (by omega) (by omega) (fun _ _ => ?_))
    | (show Rn _ _ _ 6 _ _ _; refine c_X0_isHeldBy (by assumption) (by assumption) (by first | omega | exact hI_R) (by first | omega | exact hI_R) (fun _ _ _ _ _ => ?_) (fun _ => ?_))
    | (show Rch _ _ _ _ _ 0 _ _ _; refine Rch.blk' (Rn_mono mt _ _) bl_X0_knightIdea_0 (i_aload_n rfl (i_iload_n rfl (i_iconst k_2 (i_iconst k_1 (t_cv4 (Rn_mono mt _ _) 7 rfl (Nat.le_of_ble_eq_true rfl) ?_))))))
    | (show Rch _ _ _ _ _ 7 _ _ _; refine Rch.blk' (Rn_mono mt _ _) bl_X0_knightIdea_7 (i_istore2 trivial (i_iload_n rfl (i_bipush k_m4 (t_ic_eq 30 14 rfl rfl (by first | exact hI_R | exact band_R | exact bor_R | exact bshr_R | exact lcm_R | omega | (simp (disch := omega) only [e_s]; omega)) (by first | exact hI_R | exact band_R | exact bor_R | exact bshr_R | exact lcm_R | omega | (simp (disch := omega) only [e_s]; omega)) (fun hc => ?_) (fun hc => ?_))))) <;> (first | (exfalso; omega) | skip))
    | (show Rch _ _ _ _ _ 14 _ _ _; refine Rch.blk' (Rn_mono mt _ _) bl_X0_knightIdea_14 (i_aload_n rfl (i_iload_n rfl (i_aload_n rfl (i_gfr rfl (i_iload_n rfl (i_iald (n := 10) rfl (by first | omega | (simp (disch := omega) only [e_s]; omega)) (by first | omega | (simp (disch := omega) only [e_s]; omega)) (by first | omega | (simp (disch := omega) only [e_s]; omega)) (t_cv3 (Rn_mono mt _ _) 25 rfl (Nat.le_of_ble_eq_true rfl) ?_))))))) <;> (try (simp (disch := omega) only [e_s])))
    | (show Rch _ _ _ _ _ 25 _ _ _; refine Rch.blk' (Rn_mono mt _ _) bl_X0_knightIdea_25 (t_if_ne 30 28 rfl rfl (by first | exact hI_R | exact band_R | exact bor_R | exact bshr_R | exact lcm_R | omega | (simp (disch := omega) only [e_s]; omega)) (fun hc => ?_) (fun hc => ?_)) <;> (first | (exfalso; omega) | skip))
    | (show Rch _ _ _ _ _ 28 _ _ _; refine Rch.blk' (Rn_mono mt _ _) bl_X0_knightIdea_28 (i_iload_n rfl (t_iret ?_)))
    | (show Rch _ _ _ _ _ 30 _ _ _; refine Rch.blk' (Rn_mono mt _ _) bl_X0_knightIdea_30 (i_aload_n rfl (i_iload_n rfl (i_iconst k_2 (i_iconst k_m1 (t_cv4 (Rn_mono mt _ _) 37 rfl (Nat.le_of_ble_eq_true rfl) ?_))))))
    | (show Rch _ _ _ _ _ 37 _ _ _; refine Rch.blk' (Rn_mono mt _ _) bl_X0_knightIdea_37 (i_istore3 trivial (i_iload_n rfl (i_bipush k_m4 (t_ic_eq 62 44 rfl rfl (by first | exact hI_R | exact band_R | exact bor_R | exact bshr_R | exact lcm_R | omega | (simp (disch := omega) only [e_s]; omega)) (by first | exact hI_R | exact band_R | exact bor_R | exact bshr_R | exact lcm_R | omega | (simp (disch := omega) only [e_s]; omega)) (fun hc => ?_) (fun hc => ?_))))) <;> (first | (exfalso; omega) | skip))
    | (show Rch _ _ _ _ _ 44 _ _ _; refine Rch.blk' (Rn_mono mt _ _) bl_X0_knightIdea_44 (i_aload_n rfl (i_iload_n rfl (i_aload_n rfl (i_gfr rfl (i_iload_n rfl (i_iald (n := 10) rfl (by first | omega | (simp (disch := omega) only [e_s]; omega)) (by first | omega | (simp (disch := omega) only [e_s]; omega)) (by first | omega | (simp (disch := omega) only [e_s]; omega)) (t_cv3 (Rn_mono mt _ _) 55 rfl (Nat.le_of_ble_eq_true rfl) ?_))))))) <;> (try (simp (disch := omega) only [e_s])))
    | (show Rch _ _ _ _ _ 55 _ _ _; refine Rch.blk' (Rn_mono mt _ _) bl_X0_knightIdea_55 (t_if_ne 62 58 rfl rfl (by first | exact hI_R | exact band_R | exact bor_R | exact bshr_R | exact lcm_R | omega | (simp (disch := omega) only [e_s]; omega)) (fun hc => ?_) (fun hc => ?_)) <;> (first | (exfalso; omega) | skip))
    | (show Rch _ _ _ _ _ 58 _ _ _; refine Rch.blk' (Rn_mono mt _ _) bl_X0_knightIdea_58 (i_iload_n rfl (t_goto 64 rfl ?_)))
    | (show Rch _ _ _ _ _ 62 _ _ _; refine Rch.blk' (Rn_mono mt _ _) bl_X0_knightIdea_62 (i_bipush k_m4 (t_none ?_)))
    | (show Rch _ _ _ _ _ 64 _ _ _; refine Rch.blk' (Rn_mono mt _ _) bl_X0_knightIdea_64 (t_iret ?_)))
theorem c_X0_bishopIdea (hG : RC h b G) (hO : OKB G) {z y : Int} (h0 : 0 ≤ z) (h1 : z < nn G) (h2 : 0 ≤ sq G z) (h3 : sq G z < 36) (h4 : 0 ≤ y) (h5 : y < 1000000) (hq : ∀ v, v = bii G z y → -4 ≤ v → v < 36 → Q (some (ai (I v))) h) : Rn mt L (d + 2) 19 [ar 0 b, ai (I z), ai (I y)] h Q := by
  refine Rn.intro iX0_bishopIdea rfl rfl ?_
  show Rch bX0_bishopIdea _ _ _ _ 0 [some (ar 0 b), some (ai (I z)), some (ai (I y)), none, none, none] [] _
  have e_s := @RC.s _ _ _ hG
  have e_f := @RC.f _ _ _ hG
  have g_n := hO.n
  have g_p := hO.pc z h0 h1
  have g_m := Int.emod_lt_of_pos y (b := fg G z + 2) (by omega)
  have g_m2 := Int.emod_nonneg y (b := fg G z + 2) (by omega)
  have q1 : (¬ sqO (sq G z) (sg G z 1) 1 = -4 ∧ ¬ (0 ≤ sqO (sq G z) (sg G z 1) 1 ∧ sqO (sq G z) (sg G z 1) 1 < 36 ∧ 0 ≤ ons G (sqO (sq G z) (sg G z 1) 1) ∧ sd G (ons G (sqO (sq G z) (sg G z 1) 1)) = sd G z) ∧ y % (fg G z + 2) = 0) → bii G z y = sqO (sq G z) (sg G z 1) 1 := fun a => ifp_p a
  have q2 : ¬ (¬ sqO (sq G z) (sg G z 1) 1 = -4 ∧ ¬ (0 ≤ sqO (sq G z) (sg G z 1) 1 ∧ sqO (sq G z) (sg G z 1) 1 < 36 ∧ 0 ≤ ons G (sqO (sq G z) (sg G z 1) 1) ∧ sd G (ons G (sqO (sq G z) (sg G z 1) 1)) = sd G z) ∧ y % (fg G z + 2) = 0) → bii G z y = -4 := fun a => ifp_n a
  repeat' (first
    | exact hq _ (q1 (by omega)).symm (by omega) (by omega)
    | exact hq _ (q2 (by omega)).symm (by omega) (by omega)
    | (show Rn _ _ _ 16 _ _ _; refine c_X0_squareFrom (by assumption) (by assumption) (by omega) (by omega) (by omega) (by omega) (by omega) (by omega) (fun _ _ => ?_))
    | (show Rn _ _ _ 6 _ _ _; refine c_X0_isHeldBy (by assumption) (by assumption) (by first | omega | exact hI_R) (by first | omega | exact hI_R) (fun _ _ _ _ _ => ?_) (fun _ => ?_))
    | (show Rch _ _ _ _ _ 0 _ _ _; refine Rch.blk' (Rn_mono mt _ _) bl_X0_bishopIdea_0 (i_aload_n rfl (i_iload_n rfl (i_iconst k_1 (i_iconst k_1 (t_cv4 (Rn_mono mt _ _) 7 rfl (Nat.le_of_ble_eq_true rfl) ?_))))))
    | (show Rch _ _ _ _ _ 7 _ _ _; refine Rch.blk' (Rn_mono mt _ _) bl_X0_bishopIdea_7 (i_istore3 trivial (i_aload_n rfl (i_gfr rfl (i_iload_n rfl (i_iald (n := 10) rfl (by first | omega | (simp (disch := omega) only [e_s, e_f]; omega)) (by first | omega | (simp (disch := omega) only [e_s, e_f]; omega)) (by first | omega | (simp (disch := omega) only [e_s, e_f]; omega)) (i_iconst k_2 (i_iadd (i_istore4 trivial (i_iload rfl (t_if_le 34 23 rfl rfl (by first | exact hI_R | exact band_R | exact bor_R | exact bshr_R | exact lcm_R | omega | (simp (disch := omega) only [e_s, e_f]; omega)) (fun hc => ?_) (fun hc => ?_))))))))))) <;> (try (simp (disch := omega) only [e_s, e_f] at hc ⊢)) <;> (first | (exfalso; omega) | skip))
    | (show Rch _ _ _ _ _ 23 _ _ _; refine Rch.blk' (Rn_mono mt _ _) bl_X0_bishopIdea_23 (i_iload_n rfl (i_iload rfl (i_irem (by first | omega | (simp (disch := omega) only [e_s, e_f]; omega)) (by first | omega | (simp (disch := omega) only [e_s, e_f]; omega)) (by first | omega | (simp (disch := omega) only [e_s, e_f]; omega)) (by first | omega | (simp (disch := omega) only [e_s, e_f]; omega)) (t_if_ne 34 30 rfl rfl (by first | exact hI_R | exact band_R | exact bor_R | exact bshr_R | exact lcm_R | omega | (simp (disch := omega) only [e_s, e_f]; omega)) (fun hc => ?_) (fun hc => ?_))))) <;> (first | (exfalso; omega) | skip))
    | (show Rch _ _ _ _ _ 30 _ _ _; refine Rch.blk' (Rn_mono mt _ _) bl_X0_bishopIdea_30 (i_iconst k_1 (t_goto 35 rfl ?_)))
    | (show Rch _ _ _ _ _ 34 _ _ _; refine Rch.blk' (Rn_mono mt _ _) bl_X0_bishopIdea_34 (i_iconst k_0 (t_none ?_)))
    | (show Rch _ _ _ _ _ 35 _ _ _; refine Rch.blk' (Rn_mono mt _ _) bl_X0_bishopIdea_35 (i_istore5 trivial (i_iload rfl (t_if_eq 66 42 rfl rfl (by first | exact hI_R | exact band_R | exact bor_R | exact bshr_R | exact lcm_R | omega | (simp (disch := omega) only [e_s, e_f]; omega)) (fun hc => ?_) (fun hc => ?_)))) <;> (first | (exfalso; omega) | skip))
    | (show Rch _ _ _ _ _ 42 _ _ _; refine Rch.blk' (Rn_mono mt _ _) bl_X0_bishopIdea_42 (i_iload_n rfl (i_bipush k_m4 (t_ic_eq 66 48 rfl rfl (by first | exact hI_R | exact band_R | exact bor_R | exact bshr_R | exact lcm_R | omega | (simp (disch := omega) only [e_s, e_f]; omega)) (by first | exact hI_R | exact band_R | exact bor_R | exact bshr_R | exact lcm_R | omega | (simp (disch := omega) only [e_s, e_f]; omega)) (fun hc => ?_) (fun hc => ?_)))) <;> (first | (exfalso; omega) | skip))
    | (show Rch _ _ _ _ _ 48 _ _ _; refine Rch.blk' (Rn_mono mt _ _) bl_X0_bishopIdea_48 (i_aload_n rfl (i_iload_n rfl (i_aload_n rfl (i_gfr rfl (i_iload_n rfl (i_iald (n := 10) rfl (by first | omega | (simp (disch := omega) only [e_s, e_f]; omega)) (by first | omega | (simp (disch := omega) only [e_s, e_f]; omega)) (by first | omega | (simp (disch := omega) only [e_s, e_f]; omega)) (t_cv3 (Rn_mono mt _ _) 59 rfl (Nat.le_of_ble_eq_true rfl) ?_))))))) <;> (try (simp (disch := omega) only [e_s, e_f])))
    | (show Rch _ _ _ _ _ 59 _ _ _; refine Rch.blk' (Rn_mono mt _ _) bl_X0_bishopIdea_59 (t_if_ne 66 62 rfl rfl (by first | exact hI_R | exact band_R | exact bor_R | exact bshr_R | exact lcm_R | omega | (simp (disch := omega) only [e_s, e_f]; omega)) (fun hc => ?_) (fun hc => ?_)) <;> (first | (exfalso; omega) | skip))
    | (show Rch _ _ _ _ _ 62 _ _ _; refine Rch.blk' (Rn_mono mt _ _) bl_X0_bishopIdea_62 (i_iload_n rfl (t_goto 68 rfl ?_)))
    | (show Rch _ _ _ _ _ 66 _ _ _; refine Rch.blk' (Rn_mono mt _ _) bl_X0_bishopIdea_66 (i_bipush k_m4 (t_none ?_)))
    | (show Rch _ _ _ _ _ 68 _ _ _; refine Rch.blk' (Rn_mono mt _ _) bl_X0_bishopIdea_68 (t_iret ?_)))
theorem c_X0_kingIdea (hG : RC h b G) (hO : OKB G) {z : Int} (h0 : 0 ≤ z) (h1 : z < nn G) (h2 : 0 ≤ sq G z) (h3 : sq G z < 36) (hq : ∀ v, v = kgi G z → -4 ≤ v → v < 36 → Q (some (ai (I v))) h) : Rn mt L (d + 2) 21 [ar 0 b, ai (I z)] h Q := by
  refine Rn.intro iX0_kingIdea rfl rfl ?_
  show Rch bX0_kingIdea _ _ _ _ 0 [some (ar 0 b), some (ai (I z)), none, none] [] _
  have e_s := @RC.s _ _ _ hG
  have e_q := @RC.q _ _ _ hG
  have e_n := hG.n
  have g_n := hO.n
  have g_p := hO.pc z h0 h1
  have g_b := sqO_R (q := sq G z) (r := sg G z (-1)) (c := 0)
  have q2 : ¬ (0 ≤ sqO (sq G z) (sg G z (-1)) 0 ∧ sqO (sq G z) (sg G z (-1)) 0 < 36 ∧ ons G (sqO (sq G z) (sg G z (-1)) 0) = -4) → kgi G z = -4 := fun a => ifp_n (fun q => a q.1)
  have key : (0 ≤ sqO (sq G z) (sg G z (-1)) 0 ∧ sqO (sq G z) (sg G z (-1)) 0 < 36 ∧ ons G (sqO (sq G z) (sg G z (-1)) 0) = -4) → ∀ k : Int, k ≤ nn G → 0 ≤ k → (∀ o, 0 ≤ o → o < k → ¬ (sd G o = 1 - sd G z ∧ sq G o < 36 ∧ fr (sq G o) (sq G z) ≤ 1)) → RH L bX0_kingIdea (d + 1) Q 21 [some (ar 0 b), some (ai (I z)), some (ai (I (sqO (sq G z) (sg G z (-1)) 0))), some (ai (I k))] h := by
    intro hf
    refine up_ind (fun k hk ih hk0 hi => ?_)
    have g_k := hO.pc k hk0
    have hn : ¬ (sd G k = 1 - sd G z ∧ sq G k < 36 ∧ fr (sq G k) (sq G z) ≤ 1) → ∀ o, 0 ≤ o → o < k + 1 → ¬ (sd G o = 1 - sd G z ∧ sq G o < 36 ∧ fr (sq G o) (sq G z) ≤ 1) := by
      intro hx o o0 o1
      by_cases ho : o = k
      · subst ho; exact hx
      · exact hi o o0 (by omega)
    refine Rch.blk' (Rn_mono mt _ _) bl_X0_kingIdea_21 (i_iload_n rfl (i_aload_n rfl (i_gfi rfl (t_ic_ge 72 29 rfl rfl (by first | exact hI_R | exact band_R | exact bor_R | exact bshr_R | exact lcm_R | omega | (simp (disch := omega) only [e_n, e_s, e_q]; omega)) (by first | exact hI_R | exact band_R | exact bor_R | exact bshr_R | exact lcm_R | omega | (simp (disch := omega) only [e_n, e_s, e_q]; omega)) (fun hc => ?_) (fun hc => ?_))))) <;> (try (simp (disch := omega) only [e_n, e_s, e_q] at hc ⊢)) <;> (first | (exfalso; omega) | skip)
    repeat' (first
      | exact ih (by omega) (by omega) (hn (by omega))
      | exact hq _ (ifp_p ⟨hf, k, by omega, by omega, by omega, by omega, by omega⟩).symm (by omega) (by omega)
      | exact hq _ (ifp_n (fun ⟨_, o, o0, o1, o2⟩ => hi o o0 (by omega) o2)).symm (by omega) (by omega)
      | (show Rn _ _ _ 16 _ _ _; refine c_X0_squareFrom (by assumption) (by assumption) (by omega) (by omega) (by omega) (by omega) (by omega) (by omega) (fun _ _ => ?_))
      | (show Rn _ _ _ 5 _ _ _; refine c_X0_isFree (by assumption) (by assumption) (by first | omega | exact hI_R) (fun _ _ _ => ?_) (fun _ => ?_))
      | (show Rn _ _ _ 3 _ _ _; refine c_X0_isThereOf (by assumption) (by assumption) (by first | omega | exact hI_R) (by first | omega | exact hI_R) (fun _ _ _ _ _ => ?_) (fun _ => ?_))
      | (show Rn _ _ _ 20 _ _ _; refine c_X3_far (by omega) (by omega) (by omega) (by omega) (fun _ _ => ?_))
      | (show Rch _ _ _ _ _ 0 _ _ _; refine Rch.blk' (Rn_mono mt _ _) bl_X0_kingIdea_0 (i_aload_n rfl (i_iload_n rfl (i_iconst k_m1 (i_iconst k_0 (t_cv4 (Rn_mono mt _ _) 7 rfl (Nat.le_of_ble_eq_true rfl) ?_))))))
      | (show Rch _ _ _ _ _ 7 _ _ _; refine Rch.blk' (Rn_mono mt _ _) bl_X0_kingIdea_7 (i_istore2 trivial (i_aload_n rfl (i_iload_n rfl (t_cv2 (Rn_mono mt _ _) 13 rfl (Nat.le_of_ble_eq_true rfl) ?_)))))
      | (show Rch _ _ _ _ _ 13 _ _ _; refine Rch.blk' (Rn_mono mt _ _) bl_X0_kingIdea_13 (t_if_ne 19 16 rfl rfl (by first | exact hI_R | exact band_R | exact bor_R | exact bshr_R | exact lcm_R | omega | (simp (disch := omega) only [e_n, e_s, e_q]; omega)) (fun hc => ?_) (fun hc => ?_)) <;> (first | (exfalso; omega) | skip))
      | (show Rch _ _ _ _ _ 16 _ _ _; refine Rch.blk' (Rn_mono mt _ _) bl_X0_kingIdea_16 (i_bipush k_m4 (t_iret ?_)))
      | (show Rch _ _ _ _ _ 19 _ _ _; refine Rch.blk' (Rn_mono mt _ _) bl_X0_kingIdea_19 (i_iconst k_0 (i_istore3 trivial (t_none ?_))))
      | (show Rch _ _ _ _ _ 29 _ _ _; refine Rch.blk' (Rn_mono mt _ _) bl_X0_kingIdea_29 (i_aload_n rfl (i_iload_n rfl (i_iconst k_1 (i_aload_n rfl (i_gfr rfl (i_iload_n rfl (i_iald (n := 10) rfl (by first | omega | (simp (disch := omega) only [e_n, e_s, e_q]; omega)) (by first | omega | (simp (disch := omega) only [e_n, e_s, e_q]; omega)) (by first | omega | (simp (disch := omega) only [e_n, e_s, e_q]; omega)) (i_isub (t_cv3 (Rn_mono mt _ _) 42 rfl (Nat.le_of_ble_eq_true rfl) ?_))))))))) <;> (try (simp (disch := omega) only [e_n, e_s, e_q])))
      | (show Rch _ _ _ _ _ 42 _ _ _; refine Rch.blk' (Rn_mono mt _ _) bl_X0_kingIdea_42 (t_if_eq 66 45 rfl rfl (by first | exact hI_R | exact band_R | exact bor_R | exact bshr_R | exact lcm_R | omega | (simp (disch := omega) only [e_n, e_s, e_q]; omega)) (fun hc => ?_) (fun hc => ?_)) <;> (first | (exfalso; omega) | skip))
      | (show Rch _ _ _ _ _ 45 _ _ _; refine Rch.blk' (Rn_mono mt _ _) bl_X0_kingIdea_45 (i_aload_n rfl (i_gfr rfl (i_iload_n rfl (i_iald (n := 10) rfl (by first | omega | (simp (disch := omega) only [e_n, e_s, e_q]; omega)) (by first | omega | (simp (disch := omega) only [e_n, e_s, e_q]; omega)) (by first | omega | (simp (disch := omega) only [e_n, e_s, e_q]; omega)) (i_aload_n rfl (i_gfr rfl (i_iload_n rfl (i_iald (n := 10) rfl (by first | omega | (simp (disch := omega) only [e_n, e_s, e_q]; omega)) (by first | omega | (simp (disch := omega) only [e_n, e_s, e_q]; omega)) (by first | omega | (simp (disch := omega) only [e_n, e_s, e_q]; omega)) (t_cs2 (Rn_mono mt _ _) 60 rfl (Nat.le_of_ble_eq_true rfl) ?_))))))))) <;> (try (simp (disch := omega) only [e_n, e_s, e_q])))
      | (show Rch _ _ _ _ _ 60 _ _ _; refine Rch.blk' (Rn_mono mt _ _) bl_X0_kingIdea_60 (i_iconst k_1 (t_ic_gt 66 64 rfl rfl (by first | exact hI_R | exact band_R | exact bor_R | exact bshr_R | exact lcm_R | omega | (simp (disch := omega) only [e_n, e_s, e_q]; omega)) (by first | exact hI_R | exact band_R | exact bor_R | exact bshr_R | exact lcm_R | omega | (simp (disch := omega) only [e_n, e_s, e_q]; omega)) (fun hc => ?_) (fun hc => ?_))) <;> (first | (exfalso; omega) | skip))
      | (show Rch _ _ _ _ _ 64 _ _ _; refine Rch.blk' (Rn_mono mt _ _) bl_X0_kingIdea_64 (i_iload_n rfl (t_iret ?_)))
      | (show Rch _ _ _ _ _ 66 _ _ _; refine Rch.blk' (Rn_mono mt _ _) bl_X0_kingIdea_66 (i_iinc3 trivial k_1 (t_goto 21 rfl ?_)))
      | (show Rch _ _ _ _ _ 72 _ _ _; refine Rch.blk' (Rn_mono mt _ _) bl_X0_kingIdea_72 (i_bipush k_m4 (t_iret ?_))))
  repeat' (first
    | exact key ⟨by omega, by omega, by omega⟩ 0 (by omega) (by omega) (fun o _ _ => by omega)
    | exact hq _ (q2 (by omega)).symm (by omega) (by omega)
    | (show Rn _ _ _ 16 _ _ _; refine c_X0_squareFrom (by assumption) (by assumption) (by omega) (by omega) (by omega) (by omega) (by omega) (by omega) (fun _ _ => ?_))
    | (show Rn _ _ _ 5 _ _ _; refine c_X0_isFree (by assumption) (by assumption) (by first | omega | exact hI_R) (fun _ _ _ => ?_) (fun _ => ?_))
    | (show Rn _ _ _ 3 _ _ _; refine c_X0_isThereOf (by assumption) (by assumption) (by first | omega | exact hI_R) (by first | omega | exact hI_R) (fun _ _ _ _ _ => ?_) (fun _ => ?_))
    | (show Rn _ _ _ 20 _ _ _; refine c_X3_far (by omega) (by omega) (by omega) (by omega) (fun _ _ => ?_))
    | (show Rch _ _ _ _ _ 0 _ _ _; refine Rch.blk' (Rn_mono mt _ _) bl_X0_kingIdea_0 (i_aload_n rfl (i_iload_n rfl (i_iconst k_m1 (i_iconst k_0 (t_cv4 (Rn_mono mt _ _) 7 rfl (Nat.le_of_ble_eq_true rfl) ?_))))))
    | (show Rch _ _ _ _ _ 7 _ _ _; refine Rch.blk' (Rn_mono mt _ _) bl_X0_kingIdea_7 (i_istore2 trivial (i_aload_n rfl (i_iload_n rfl (t_cv2 (Rn_mono mt _ _) 13 rfl (Nat.le_of_ble_eq_true rfl) ?_)))))
    | (show Rch _ _ _ _ _ 13 _ _ _; refine Rch.blk' (Rn_mono mt _ _) bl_X0_kingIdea_13 (t_if_ne 19 16 rfl rfl (by first | exact hI_R | exact band_R | exact bor_R | exact bshr_R | exact lcm_R | omega | (simp (disch := omega) only [e_s]; omega)) (fun hc => ?_) (fun hc => ?_)) <;> (first | (exfalso; omega) | skip))
    | (show Rch _ _ _ _ _ 16 _ _ _; refine Rch.blk' (Rn_mono mt _ _) bl_X0_kingIdea_16 (i_bipush k_m4 (t_iret ?_)))
    | (show Rch _ _ _ _ _ 19 _ _ _; refine Rch.blk' (Rn_mono mt _ _) bl_X0_kingIdea_19 (i_iconst k_0 (i_istore3 trivial (t_none ?_))))
    | (show Rch _ _ _ _ _ 29 _ _ _; refine Rch.blk' (Rn_mono mt _ _) bl_X0_kingIdea_29 (i_aload_n rfl (i_iload_n rfl (i_iconst k_1 (i_aload_n rfl (i_gfr rfl (i_iload_n rfl (i_iald (n := 10) rfl (by first | omega | (simp (disch := omega) only [e_s]; omega)) (by first | omega | (simp (disch := omega) only [e_s]; omega)) (by first | omega | (simp (disch := omega) only [e_s]; omega)) (i_isub (t_cv3 (Rn_mono mt _ _) 42 rfl (Nat.le_of_ble_eq_true rfl) ?_))))))))) <;> (try (simp (disch := omega) only [e_s])))
    | (show Rch _ _ _ _ _ 42 _ _ _; refine Rch.blk' (Rn_mono mt _ _) bl_X0_kingIdea_42 (t_if_eq 66 45 rfl rfl (by first | exact hI_R | exact band_R | exact bor_R | exact bshr_R | exact lcm_R | omega | (simp (disch := omega) only [e_s]; omega)) (fun hc => ?_) (fun hc => ?_)) <;> (first | (exfalso; omega) | skip))
    | (show Rch _ _ _ _ _ 45 _ _ _; refine Rch.blk' (Rn_mono mt _ _) bl_X0_kingIdea_45 (i_aload_n rfl (i_gfr rfl (i_iload_n rfl (i_iald (n := 10) rfl (by first | omega | (simp (disch := omega) only [e_s]; omega)) (by first | omega | (simp (disch := omega) only [e_s]; omega)) (by first | omega | (simp (disch := omega) only [e_s]; omega)) (i_aload_n rfl (i_gfr rfl (i_iload_n rfl (i_iald (n := 10) rfl (by first | omega | (simp (disch := omega) only [e_s]; omega)) (by first | omega | (simp (disch := omega) only [e_s]; omega)) (by first | omega | (simp (disch := omega) only [e_s]; omega)) (t_cs2 (Rn_mono mt _ _) 60 rfl (Nat.le_of_ble_eq_true rfl) ?_))))))))) <;> (try (simp (disch := omega) only [e_s])))
    | (show Rch _ _ _ _ _ 60 _ _ _; refine Rch.blk' (Rn_mono mt _ _) bl_X0_kingIdea_60 (i_iconst k_1 (t_ic_gt 66 64 rfl rfl (by first | exact hI_R | exact band_R | exact bor_R | exact bshr_R | exact lcm_R | omega | (simp (disch := omega) only [e_s]; omega)) (by first | exact hI_R | exact band_R | exact bor_R | exact bshr_R | exact lcm_R | omega | (simp (disch := omega) only [e_s]; omega)) (fun hc => ?_) (fun hc => ?_))) <;> (first | (exfalso; omega) | skip))
    | (show Rch _ _ _ _ _ 64 _ _ _; refine Rch.blk' (Rn_mono mt _ _) bl_X0_kingIdea_64 (i_iload_n rfl (t_iret ?_)))
    | (show Rch _ _ _ _ _ 66 _ _ _; refine Rch.blk' (Rn_mono mt _ _) bl_X0_kingIdea_66 (i_iinc3 trivial k_1 (t_goto 21 rfl ?_)))
    | (show Rch _ _ _ _ _ 72 _ _ _; refine Rch.blk' (Rn_mono mt _ _) bl_X0_kingIdea_72 (i_bipush k_m4 (t_iret ?_))))
theorem c_X0_slideIdea (hG : RC h b G) (hO : OKB G) {z r c : Int} (hrc : (r = 1 ∧ c = 0) ∨ (r = 0 ∧ c = 1)) (h0 : 0 ≤ z) (h1 : z < nn G) (h2 : 0 ≤ sq G z) (h3 : sq G z < 36) (hq : ∀ v, v = sli G z r c → -4 ≤ v → v < 36 → Q (some (ai (I v))) h) : Rn mt L (d + 2) 18 [ar 0 b, ai (I z), ai (I r), ai (I c)] h Q := by
  refine Rn.intro iX0_slideIdea rfl rfl ?_
  show Rch bX0_slideIdea _ _ _ _ 0 [some (ar 0 b), some (ai (I z)), some (ai (I r)), some (ai (I c)), none, none, none] [] _
  have e_s := @RC.s _ _ _ hG
  have g_n := hO.n
  have g_p := hO.pc z h0 h1
  have key : ∀ k : Int, k ≤ 6 → 1 ≤ k → ∀ (f : Int) (u : Option AV), -4 ≤ f → f < 36 → sld G z r c (6 - k).toNat k f = sli G z r c → RH L bX0_slideIdea (d + 1) Q 7 [some (ar 0 b), some (ai (I z)), some (ai (I r)), some (ai (I c)), some (ai (I f)), some (ai (I k)), u] h := by
    refine up_ind (fun k hk ih hk0 f u hf0 hf1 hs => ?_)
    have hkr : 0 ≤ k * r ∧ k * r ≤ 6 ∧ 0 ≤ k * c ∧ k * c ≤ 6 := by rcases hrc with ⟨rfl, rfl⟩ | ⟨rfl, rfl⟩ <;> omega
    by_cases hk6 : k = 6
    · subst hk6
      refine Rch.blk' (Rn_mono mt _ _) bl_X0_slideIdea_7 (i_iload rfl (i_bipush k_6 (t_ic_ge 71 14 rfl rfl (by first | exact hI_R | exact band_R | exact bor_R | exact bshr_R | exact lcm_R | omega) (by first | exact hI_R | exact band_R | exact bor_R | exact bshr_R | exact lcm_R | omega) (fun hc => ?_) (fun hc => ?_)))) <;> (first | (exfalso; omega) | skip)
      repeat' (first
        | exact hq _ hs (by omega) (by omega)
        | (show Rn _ _ _ 16 _ _ _; refine c_X0_squareFrom (by assumption) (by assumption) (by omega) (by omega) (by omega) (by omega) (by omega) (by omega) (fun _ _ => ?_))
        | (show Rn _ _ _ 6 _ _ _; refine c_X0_isHeldBy (by assumption) (by assumption) (by first | omega | exact hI_R) (by first | omega | exact hI_R) (fun _ _ _ _ _ => ?_) (fun _ => ?_))
        | (show Rn _ _ _ 5 _ _ _; refine c_X0_isFree (by assumption) (by assumption) (by first | omega | exact hI_R) (fun _ _ _ => ?_) (fun _ => ?_))
        | (show Rch _ _ _ _ _ 0 _ _ _; refine Rch.blk' (Rn_mono mt _ _) bl_X0_slideIdea_0 (i_bipush k_m4 (i_istore4 trivial (i_iconst k_1 (i_istore5 trivial (t_none ?_))))))
        | (show Rch _ _ _ _ _ 14 _ _ _; refine Rch.blk' (Rn_mono mt _ _) bl_X0_slideIdea_14 (i_aload_n rfl (i_iload_n rfl (i_iload rfl (i_iload_n rfl (i_imul (i_iload rfl (i_iload_n rfl (i_imul (t_cv4 (Rn_mono mt _ _) 27 rfl (Nat.le_of_ble_eq_true rfl) ?_))))))))))
        | (show Rch _ _ _ _ _ 27 _ _ _; refine Rch.blk' (Rn_mono mt _ _) bl_X0_slideIdea_27 (i_istore6 trivial (i_aload_n rfl (i_iload rfl (i_iconst k_1 (i_aload_n rfl (i_gfr rfl (i_iload_n rfl (i_iald (n := 10) rfl (by omega) (by omega) (by omega) (i_isub (t_cv3 (Rn_mono mt _ _) 43 rfl (Nat.le_of_ble_eq_true rfl) ?_)))))))))))
        | (show Rch _ _ _ _ _ 43 _ _ _; refine Rch.blk' (Rn_mono mt _ _) bl_X0_slideIdea_43 (t_if_eq 49 46 rfl rfl (by first | exact hI_R | exact band_R | exact bor_R | exact bshr_R | exact lcm_R | omega) (fun hc => ?_) (fun hc => ?_)) <;> (first | (exfalso; omega) | skip))
        | (show Rch _ _ _ _ _ 46 _ _ _; refine Rch.blk' (Rn_mono mt _ _) bl_X0_slideIdea_46 (i_iload rfl (t_iret ?_)))
        | (show Rch _ _ _ _ _ 49 _ _ _; refine Rch.blk' (Rn_mono mt _ _) bl_X0_slideIdea_49 (i_aload_n rfl (i_iload rfl (t_cv2 (Rn_mono mt _ _) 55 rfl (Nat.le_of_ble_eq_true rfl) ?_))))
        | (show Rch _ _ _ _ _ 55 _ _ _; refine Rch.blk' (Rn_mono mt _ _) bl_X0_slideIdea_55 (t_if_ne 61 58 rfl rfl (by first | exact hI_R | exact band_R | exact bor_R | exact bshr_R | exact lcm_R | omega) (fun hc => ?_) (fun hc => ?_)) <;> (first | (exfalso; omega) | skip))
        | (show Rch _ _ _ _ _ 58 _ _ _; refine Rch.blk' (Rn_mono mt _ _) bl_X0_slideIdea_58 (i_iload rfl (t_iret ?_)))
        | (show Rch _ _ _ _ _ 61 _ _ _; refine Rch.blk' (Rn_mono mt _ _) bl_X0_slideIdea_61 (i_iload rfl (i_istore4 trivial (i_iinc5 trivial k_1 (t_goto 7 rfl ?_)))))
        | (show Rch _ _ _ _ _ 71 _ _ _; refine Rch.blk' (Rn_mono mt _ _) bl_X0_slideIdea_71 (i_iload rfl (t_iret ?_))))
    · have e : (6 - k).toNat = (6 - (k + 1)).toNat + 1 := by omega
      rw [e, sld] at hs
      have q1 : (0 ≤ sqO (sq G z) (sg G z (k * r)) (k * c) ∧ sqO (sq G z) (sg G z (k * r)) (k * c) < 36 ∧ 0 ≤ ons G (sqO (sq G z) (sg G z (k * r)) (k * c)) ∧ sd G (ons G (sqO (sq G z) (sg G z (k * r)) (k * c))) = 1 - sd G z) → sqO (sq G z) (sg G z (k * r)) (k * c) = sli G z r c := fun a => (ifp_p a).symm.trans hs
      have q2 : ¬ (0 ≤ sqO (sq G z) (sg G z (k * r)) (k * c) ∧ sqO (sq G z) (sg G z (k * r)) (k * c) < 36 ∧ 0 ≤ ons G (sqO (sq G z) (sg G z (k * r)) (k * c)) ∧ sd G (ons G (sqO (sq G z) (sg G z (k * r)) (k * c))) = 1 - sd G z) → (0 ≤ sqO (sq G z) (sg G z (k * r)) (k * c) ∧ sqO (sq G z) (sg G z (k * r)) (k * c) < 36 ∧ ons G (sqO (sq G z) (sg G z (k * r)) (k * c)) = -4) → sld G z r c (6 - (k + 1)).toNat (k + 1) (sqO (sq G z) (sg G z (k * r)) (k * c)) = sli G z r c := fun a b => (((ifp_n a).trans (ifp_p b)).symm).trans hs
      have q3 : ¬ (0 ≤ sqO (sq G z) (sg G z (k * r)) (k * c) ∧ sqO (sq G z) (sg G z (k * r)) (k * c) < 36 ∧ 0 ≤ ons G (sqO (sq G z) (sg G z (k * r)) (k * c)) ∧ sd G (ons G (sqO (sq G z) (sg G z (k * r)) (k * c))) = 1 - sd G z) → ¬ (0 ≤ sqO (sq G z) (sg G z (k * r)) (k * c) ∧ sqO (sq G z) (sg G z (k * r)) (k * c) < 36 ∧ ons G (sqO (sq G z) (sg G z (k * r)) (k * c)) = -4) → f = sli G z r c := fun a b => (((ifp_n a).trans (ifp_n b)).symm).trans hs
      refine Rch.blk' (Rn_mono mt _ _) bl_X0_slideIdea_7 (i_iload rfl (i_bipush k_6 (t_ic_ge 71 14 rfl rfl (by first | exact hI_R | exact band_R | exact bor_R | exact bshr_R | exact lcm_R | omega) (by first | exact hI_R | exact band_R | exact bor_R | exact bshr_R | exact lcm_R | omega) (fun hc => ?_) (fun hc => ?_)))) <;> (first | (exfalso; omega) | skip)
      repeat' (first
        | exact ih (by omega) (by omega) _ _ (by omega) (by omega) (q2 (by omega) (by omega))
        | exact hq _ (q1 (by omega)) (by omega) (by omega)
        | exact hq _ (q3 (by omega) (by omega)) (by omega) (by omega)
        | (show Rn _ _ _ 16 _ _ _; refine c_X0_squareFrom (by assumption) (by assumption) (by omega) (by omega) (by omega) (by omega) (by omega) (by omega) (fun _ _ => ?_))
        | (show Rn _ _ _ 6 _ _ _; refine c_X0_isHeldBy (by assumption) (by assumption) (by first | omega | exact hI_R) (by first | omega | exact hI_R) (fun _ _ _ _ _ => ?_) (fun _ => ?_))
        | (show Rn _ _ _ 5 _ _ _; refine c_X0_isFree (by assumption) (by assumption) (by first | omega | exact hI_R) (fun _ _ _ => ?_) (fun _ => ?_))
        | (show Rch _ _ _ _ _ 0 _ _ _; refine Rch.blk' (Rn_mono mt _ _) bl_X0_slideIdea_0 (i_bipush k_m4 (i_istore4 trivial (i_iconst k_1 (i_istore5 trivial (t_none ?_))))))
        | (show Rch _ _ _ _ _ 14 _ _ _; refine Rch.blk' (Rn_mono mt _ _) bl_X0_slideIdea_14 (i_aload_n rfl (i_iload_n rfl (i_iload rfl (i_iload_n rfl (i_imul (i_iload rfl (i_iload_n rfl (i_imul (t_cv4 (Rn_mono mt _ _) 27 rfl (Nat.le_of_ble_eq_true rfl) ?_))))))))))
        | (show Rch _ _ _ _ _ 27 _ _ _; refine Rch.blk' (Rn_mono mt _ _) bl_X0_slideIdea_27 (i_istore6 trivial (i_aload_n rfl (i_iload rfl (i_iconst k_1 (i_aload_n rfl (i_gfr rfl (i_iload_n rfl (i_iald (n := 10) rfl (by first | omega | (simp (disch := omega) only [e_s]; omega)) (by first | omega | (simp (disch := omega) only [e_s]; omega)) (by first | omega | (simp (disch := omega) only [e_s]; omega)) (i_isub (t_cv3 (Rn_mono mt _ _) 43 rfl (Nat.le_of_ble_eq_true rfl) ?_)))))))))) <;> (try (simp (disch := omega) only [e_s])))
        | (show Rch _ _ _ _ _ 43 _ _ _; refine Rch.blk' (Rn_mono mt _ _) bl_X0_slideIdea_43 (t_if_eq 49 46 rfl rfl (by first | exact hI_R | exact band_R | exact bor_R | exact bshr_R | exact lcm_R | omega | (simp (disch := omega) only [e_s]; omega)) (fun hc => ?_) (fun hc => ?_)) <;> (first | (exfalso; omega) | skip))
        | (show Rch _ _ _ _ _ 46 _ _ _; refine Rch.blk' (Rn_mono mt _ _) bl_X0_slideIdea_46 (i_iload rfl (t_iret ?_)))
        | (show Rch _ _ _ _ _ 49 _ _ _; refine Rch.blk' (Rn_mono mt _ _) bl_X0_slideIdea_49 (i_aload_n rfl (i_iload rfl (t_cv2 (Rn_mono mt _ _) 55 rfl (Nat.le_of_ble_eq_true rfl) ?_))))
        | (show Rch _ _ _ _ _ 55 _ _ _; refine Rch.blk' (Rn_mono mt _ _) bl_X0_slideIdea_55 (t_if_ne 61 58 rfl rfl (by first | exact hI_R | exact band_R | exact bor_R | exact bshr_R | exact lcm_R | omega | (simp (disch := omega) only [e_s]; omega)) (fun hc => ?_) (fun hc => ?_)) <;> (first | (exfalso; omega) | skip))
        | (show Rch _ _ _ _ _ 58 _ _ _; refine Rch.blk' (Rn_mono mt _ _) bl_X0_slideIdea_58 (i_iload rfl (t_iret ?_)))
        | (show Rch _ _ _ _ _ 61 _ _ _; refine Rch.blk' (Rn_mono mt _ _) bl_X0_slideIdea_61 (i_iload rfl (i_istore4 trivial (i_iinc5 trivial k_1 (t_goto 7 rfl ?_)))))
        | (show Rch _ _ _ _ _ 71 _ _ _; refine Rch.blk' (Rn_mono mt _ _) bl_X0_slideIdea_71 (i_iload rfl (t_iret ?_))))
  repeat' (first
    | exact key 1 (by omega) (by omega) _ _ (by omega) (by omega) rfl
    | (show Rn _ _ _ 16 _ _ _; refine c_X0_squareFrom (by assumption) (by assumption) (by omega) (by omega) (by omega) (by omega) (by omega) (by omega) (fun _ _ => ?_))
    | (show Rn _ _ _ 6 _ _ _; refine c_X0_isHeldBy (by assumption) (by assumption) (by first | omega | exact hI_R) (by first | omega | exact hI_R) (fun _ _ _ _ _ => ?_) (fun _ => ?_))
    | (show Rn _ _ _ 5 _ _ _; refine c_X0_isFree (by assumption) (by assumption) (by first | omega | exact hI_R) (fun _ _ _ => ?_) (fun _ => ?_))
    | (show Rch _ _ _ _ _ 0 _ _ _; refine Rch.blk' (Rn_mono mt _ _) bl_X0_slideIdea_0 (i_bipush k_m4 (i_istore4 trivial (i_iconst k_1 (i_istore5 trivial (t_none ?_))))))
    | (show Rch _ _ _ _ _ 14 _ _ _; refine Rch.blk' (Rn_mono mt _ _) bl_X0_slideIdea_14 (i_aload_n rfl (i_iload_n rfl (i_iload rfl (i_iload_n rfl (i_imul (i_iload rfl (i_iload_n rfl (i_imul (t_cv4 (Rn_mono mt _ _) 27 rfl (Nat.le_of_ble_eq_true rfl) ?_))))))))))
    | (show Rch _ _ _ _ _ 27 _ _ _; refine Rch.blk' (Rn_mono mt _ _) bl_X0_slideIdea_27 (i_istore6 trivial (i_aload_n rfl (i_iload rfl (i_iconst k_1 (i_aload_n rfl (i_gfr rfl (i_iload_n rfl (i_iald (n := 10) rfl (by omega) (by omega) (by omega) (i_isub (t_cv3 (Rn_mono mt _ _) 43 rfl (Nat.le_of_ble_eq_true rfl) ?_)))))))))))
    | (show Rch _ _ _ _ _ 43 _ _ _; refine Rch.blk' (Rn_mono mt _ _) bl_X0_slideIdea_43 (t_if_eq 49 46 rfl rfl (by first | exact hI_R | exact band_R | exact bor_R | exact bshr_R | exact lcm_R | omega) (fun hc => ?_) (fun hc => ?_)) <;> (first | (exfalso; omega) | skip))
    | (show Rch _ _ _ _ _ 46 _ _ _; refine Rch.blk' (Rn_mono mt _ _) bl_X0_slideIdea_46 (i_iload rfl (t_iret ?_)))
    | (show Rch _ _ _ _ _ 49 _ _ _; refine Rch.blk' (Rn_mono mt _ _) bl_X0_slideIdea_49 (i_aload_n rfl (i_iload rfl (t_cv2 (Rn_mono mt _ _) 55 rfl (Nat.le_of_ble_eq_true rfl) ?_))))
    | (show Rch _ _ _ _ _ 55 _ _ _; refine Rch.blk' (Rn_mono mt _ _) bl_X0_slideIdea_55 (t_if_ne 61 58 rfl rfl (by first | exact hI_R | exact band_R | exact bor_R | exact bshr_R | exact lcm_R | omega) (fun hc => ?_) (fun hc => ?_)) <;> (first | (exfalso; omega) | skip))
    | (show Rch _ _ _ _ _ 58 _ _ _; refine Rch.blk' (Rn_mono mt _ _) bl_X0_slideIdea_58 (i_iload rfl (t_iret ?_)))
    | (show Rch _ _ _ _ _ 61 _ _ _; refine Rch.blk' (Rn_mono mt _ _) bl_X0_slideIdea_61 (i_iload rfl (i_istore4 trivial (i_iinc5 trivial k_1 (t_goto 7 rfl ?_)))))
    | (show Rch _ _ _ _ _ 71 _ _ _; refine Rch.blk' (Rn_mono mt _ _) bl_X0_slideIdea_71 (i_iload rfl (t_iret ?_))))
theorem c_X0_ideaOf (hG : RC h b G) (hO : OKB G) {z y : Int} (hz : inR z) (h4 : 0 ≤ y) (h5 : y < 1000000) (h1 : 0 ≤ z → z < nn G → sq G z < 36 → ∀ v, v = ide G z y → -4 ≤ v → v < 36 → Q (some (ai (I v))) h) (h0 : ¬ (0 ≤ z ∧ z < nn G ∧ sq G z < 36) → Q (some (ai (I (-4)))) h) : Rn mt L (d + 3) 23 [ar 0 b, ai (I z), ai (I y)] h Q := by
  refine Rn.intro iX0_ideaOf rfl rfl ?_
  show Rch bX0_ideaOf _ _ _ _ 0 [some (ar 0 b), some (ai (I z)), some (ai (I y)), none] [] _
  have e_k := @RC.k _ _ _ hG
  have g_n := hO.n
  have g_p := hO.pc z
  have q7a : (0 ≤ sqO (sq G z) (sg G z 0) (-1) ∧ sqO (sq G z) (sg G z 0) (-1) < 36 ∧ ons G (sqO (sq G z) (sg G z 0) (-1)) = -4) → kd G z = 7 → ide G z y = sqO (sq G z) (sg G z 0) (-1) := by
    intro a k
    unfold ide
    rw [if_neg (by omega), if_neg (by omega), if_neg (by omega), if_neg (by omega), if_neg (by omega), if_pos k]
    exact ifp_p a
  have q7b : ¬ (0 ≤ sqO (sq G z) (sg G z 0) (-1) ∧ sqO (sq G z) (sg G z 0) (-1) < 36 ∧ ons G (sqO (sq G z) (sg G z 0) (-1)) = -4) → kd G z = 7 → ide G z y = bii G z y := by
    intro a k
    unfold ide
    rw [if_neg (by omega), if_neg (by omega), if_neg (by omega), if_neg (by omega), if_neg (by omega), if_pos k]
    exact ifp_n a
  repeat' (first
    | exact h0 (by omega)
    | (refine h1 (by omega) (by omega) (by omega) _ ?_ (by omega) (by omega); unfold ide; simp only [*, reduceIte, if_true, if_false]; done)
    | (refine h1 (by omega) (by omega) (by omega) _ ?_ (by omega) (by omega); unfold ide; omega)
    | exact h1 (by omega) (by omega) (by omega) _ (q7a (by omega) (by omega)).symm (by omega) (by omega)
    | exact h1 (by omega) (by omega) (by omega) _ (by rw [q7b (by omega) (by omega)]; assumption) (by omega) (by omega)
    | (show Rn _ _ _ 2 _ _ _; refine c_X0_isThere (by assumption) (by assumption) (by first | omega | exact hI_R) (fun _ _ _ _ => ?_) (fun _ => ?_))
    | (show Rn _ _ _ 17 _ _ _; refine c_X0_knightIdea (by assumption) (by assumption) (by omega) (by omega) (by omega) (by omega) (fun _ _ _ _ => ?_))
    | (show Rn _ _ _ 18 _ _ _; refine c_X0_slideIdea (by assumption) (by assumption) (by omega) (by omega) (by omega) (by omega) (by omega) (fun _ _ _ _ => ?_))
    | (show Rn _ _ _ 19 _ _ _; refine c_X0_bishopIdea (by assumption) (by assumption) (by omega) (by omega) (by omega) (by omega) (by omega) (by omega) (fun _ _ _ _ => ?_))
    | (show Rn _ _ _ 21 _ _ _; refine c_X0_kingIdea (by assumption) (by assumption) (by omega) (by omega) (by omega) (by omega) (fun _ _ _ _ => ?_))
    | (show Rn _ _ _ 16 _ _ _; refine c_X0_squareFrom (by assumption) (by assumption) (by omega) (by omega) (by omega) (by omega) (by omega) (by omega) (fun _ _ => ?_))
    | (show Rn _ _ _ 5 _ _ _; refine c_X0_isFree (by assumption) (by assumption) (by first | omega | exact hI_R) (fun _ _ _ => ?_) (fun _ => ?_))
    | (show Rn _ _ _ 22 _ _ _; refine c_X0_pawnIdea (by assumption) (by assumption) (by omega) (by omega) (by omega) (by omega) (fun _ _ _ _ => ?_))
    | (show Rch _ _ _ _ _ 0 _ _ _; refine Rch.blk' (Rn_mono mt _ _) bl_X0_ideaOf_0 (i_aload_n rfl (i_iload_n rfl (t_cv2 (Rn_mono mt _ _) 5 rfl (Nat.le_of_ble_eq_true rfl) ?_))))
    | (show Rch _ _ _ _ _ 5 _ _ _; refine Rch.blk' (Rn_mono mt _ _) bl_X0_ideaOf_5 (t_if_ne 11 8 rfl rfl (by first | exact hI_R | exact band_R | exact bor_R | exact bshr_R | exact lcm_R | omega | (simp (disch := omega) only [e_k]; omega)) (fun hc => ?_) (fun hc => ?_)) <;> (first | (exfalso; omega) | skip))
    | (show Rch _ _ _ _ _ 8 _ _ _; refine Rch.blk' (Rn_mono mt _ _) bl_X0_ideaOf_8 (i_bipush k_m4 (t_iret ?_)))
    | (show Rch _ _ _ _ _ 11 _ _ _; refine Rch.blk' (Rn_mono mt _ _) bl_X0_ideaOf_11 (i_aload_n rfl (i_gfr rfl (i_iload_n rfl (i_iald (n := 10) rfl (by first | omega | (simp (disch := omega) only [e_k]; omega)) (by first | omega | (simp (disch := omega) only [e_k]; omega)) (by first | omega | (simp (disch := omega) only [e_k]; omega)) (t_tsw 0 7 144 rfl rfl (by first | omega | (simp (disch := omega) only [e_k]; omega)) rfl (by first | exact hI_R | exact band_R | exact bor_R | exact bshr_R | exact lcm_R | omega | (simp (disch := omega) only [e_k]; omega)) (by first | omega | (simp (disch := omega) only [e_k]; omega)) (sw_c 0 144 1 rfl rfl (by first | exact hI_R | exact band_R | exact bor_R | exact bshr_R | exact lcm_R | omega | (simp (disch := omega) only [e_k]; omega)) (by first | omega | (simp (disch := omega) only [e_k]; omega)) rfl (fun hc => ?_) (sw_c 1 64 2 rfl rfl (by first | exact hI_R | exact band_R | exact bor_R | exact bshr_R | exact lcm_R | omega | (simp (disch := omega) only [e_k]; omega)) (by first | omega | (simp (disch := omega) only [e_k]; omega)) rfl (fun hc => ?_) (sw_c 2 70 3 rfl rfl (by first | exact hI_R | exact band_R | exact bor_R | exact bshr_R | exact lcm_R | omega | (simp (disch := omega) only [e_k]; omega)) (by first | omega | (simp (disch := omega) only [e_k]; omega)) rfl (fun hc => ?_) (sw_c 3 78 4 rfl rfl (by first | exact hI_R | exact band_R | exact bor_R | exact bshr_R | exact lcm_R | omega | (simp (disch := omega) only [e_k]; omega)) (by first | omega | (simp (disch := omega) only [e_k]; omega)) rfl (fun hc => ?_) (sw_c 4 85 5 rfl rfl (by first | exact hI_R | exact band_R | exact bor_R | exact bshr_R | exact lcm_R | omega | (simp (disch := omega) only [e_k]; omega)) (by first | omega | (simp (disch := omega) only [e_k]; omega)) rfl (fun hc => ?_) (sw_c 5 111 6 rfl rfl (by first | exact hI_R | exact band_R | exact bor_R | exact bshr_R | exact lcm_R | omega | (simp (disch := omega) only [e_k]; omega)) (by first | omega | (simp (disch := omega) only [e_k]; omega)) rfl (fun hc => ?_) (sw_c 6 70 7 rfl rfl (by first | exact hI_R | exact band_R | exact bor_R | exact bshr_R | exact lcm_R | omega | (simp (disch := omega) only [e_k]; omega)) (by first | omega | (simp (disch := omega) only [e_k]; omega)) rfl (fun hc => ?_) (sw_c 7 117 8 rfl rfl (by first | exact hI_R | exact band_R | exact bor_R | exact bshr_R | exact lcm_R | omega | (simp (disch := omega) only [e_k]; omega)) (by first | omega | (simp (disch := omega) only [e_k]; omega)) rfl (fun hc => ?_) sw_n)))))))) (fun hc => ?_)))))) <;> (try (simp (disch := omega) only [e_k] at hc ⊢)) <;> (first | (exfalso; omega) | skip))
    | (show Rch _ _ _ _ _ 64 _ _ _; refine Rch.blk' (Rn_mono mt _ _) bl_X0_ideaOf_64 (i_aload_n rfl (i_iload_n rfl (t_cv2 (Rn_mono mt _ _) 69 rfl (Nat.le_of_ble_eq_true rfl) ?_))))
    | (show Rch _ _ _ _ _ 69 _ _ _; refine Rch.blk' (Rn_mono mt _ _) bl_X0_ideaOf_69 (t_iret ?_))
    | (show Rch _ _ _ _ _ 70 _ _ _; refine Rch.blk' (Rn_mono mt _ _) bl_X0_ideaOf_70 (i_aload_n rfl (i_iload_n rfl (i_iconst k_1 (i_iconst k_0 (t_cv4 (Rn_mono mt _ _) 77 rfl (Nat.le_of_ble_eq_true rfl) ?_))))))
    | (show Rch _ _ _ _ _ 77 _ _ _; refine Rch.blk' (Rn_mono mt _ _) bl_X0_ideaOf_77 (t_iret ?_))
    | (show Rch _ _ _ _ _ 78 _ _ _; refine Rch.blk' (Rn_mono mt _ _) bl_X0_ideaOf_78 (i_aload_n rfl (i_iload_n rfl (i_iload_n rfl (t_cv3 (Rn_mono mt _ _) 84 rfl (Nat.le_of_ble_eq_true rfl) ?_)))))
    | (show Rch _ _ _ _ _ 84 _ _ _; refine Rch.blk' (Rn_mono mt _ _) bl_X0_ideaOf_84 (t_iret ?_))
    | (show Rch _ _ _ _ _ 85 _ _ _; refine Rch.blk' (Rn_mono mt _ _) bl_X0_ideaOf_85 (i_aload_n rfl (i_iload_n rfl (i_iconst k_1 (i_iconst k_0 (t_cv4 (Rn_mono mt _ _) 92 rfl (Nat.le_of_ble_eq_true rfl) ?_))))))
    | (show Rch _ _ _ _ _ 92 _ _ _; refine Rch.blk' (Rn_mono mt _ _) bl_X0_ideaOf_92 (i_istore3 trivial (i_iload_n rfl (i_bipush k_m4 (t_ic_eq 103 99 rfl rfl (by first | exact hI_R | exact band_R | exact bor_R | exact bshr_R | exact lcm_R | omega | (simp (disch := omega) only [e_k]; omega)) (by first | exact hI_R | exact band_R | exact bor_R | exact bshr_R | exact lcm_R | omega | (simp (disch := omega) only [e_k]; omega)) (fun hc => ?_) (fun hc => ?_))))) <;> (first | (exfalso; omega) | skip))
    | (show Rch _ _ _ _ _ 99 _ _ _; refine Rch.blk' (Rn_mono mt _ _) bl_X0_ideaOf_99 (i_iload_n rfl (t_goto 110 rfl ?_)))
    | (show Rch _ _ _ _ _ 103 _ _ _; refine Rch.blk' (Rn_mono mt _ _) bl_X0_ideaOf_103 (i_aload_n rfl (i_iload_n rfl (i_iconst k_0 (i_iconst k_1 (t_cv4 (Rn_mono mt _ _) 110 rfl (Nat.le_of_ble_eq_true rfl) ?_))))))
    | (show Rch _ _ _ _ _ 110 _ _ _; refine Rch.blk' (Rn_mono mt _ _) bl_X0_ideaOf_110 (t_iret ?_))
    | (show Rch _ _ _ _ _ 111 _ _ _; refine Rch.blk' (Rn_mono mt _ _) bl_X0_ideaOf_111 (i_aload_n rfl (i_iload_n rfl (t_cv2 (Rn_mono mt _ _) 116 rfl (Nat.le_of_ble_eq_true rfl) ?_))))
    | (show Rch _ _ _ _ _ 116 _ _ _; refine Rch.blk' (Rn_mono mt _ _) bl_X0_ideaOf_116 (t_iret ?_))
    | (show Rch _ _ _ _ _ 117 _ _ _; refine Rch.blk' (Rn_mono mt _ _) bl_X0_ideaOf_117 (i_aload_n rfl (i_iload_n rfl (i_iconst k_0 (i_iconst k_m1 (t_cv4 (Rn_mono mt _ _) 124 rfl (Nat.le_of_ble_eq_true rfl) ?_))))))
    | (show Rch _ _ _ _ _ 124 _ _ _; refine Rch.blk' (Rn_mono mt _ _) bl_X0_ideaOf_124 (i_istore3 trivial (i_aload_n rfl (i_iload_n rfl (t_cv2 (Rn_mono mt _ _) 130 rfl (Nat.le_of_ble_eq_true rfl) ?_)))))
    | (show Rch _ _ _ _ _ 130 _ _ _; refine Rch.blk' (Rn_mono mt _ _) bl_X0_ideaOf_130 (t_if_eq 137 133 rfl rfl (by first | exact hI_R | exact band_R | exact bor_R | exact bshr_R | exact lcm_R | omega | (simp (disch := omega) only [e_k]; omega)) (fun hc => ?_) (fun hc => ?_)) <;> (first | (exfalso; omega) | skip))
    | (show Rch _ _ _ _ _ 133 _ _ _; refine Rch.blk' (Rn_mono mt _ _) bl_X0_ideaOf_133 (i_iload_n rfl (t_goto 143 rfl ?_)))
    | (show Rch _ _ _ _ _ 137 _ _ _; refine Rch.blk' (Rn_mono mt _ _) bl_X0_ideaOf_137 (i_aload_n rfl (i_iload_n rfl (i_iload_n rfl (t_cv3 (Rn_mono mt _ _) 143 rfl (Nat.le_of_ble_eq_true rfl) ?_)))))
    | (show Rch _ _ _ _ _ 143 _ _ _; refine Rch.blk' (Rn_mono mt _ _) bl_X0_ideaOf_143 (t_iret ?_))
    | (show Rch _ _ _ _ _ 144 _ _ _; refine Rch.blk' (Rn_mono mt _ _) bl_X0_ideaOf_144 (i_aload_n rfl (i_iload_n rfl (t_cv2 (Rn_mono mt _ _) 149 rfl (Nat.le_of_ble_eq_true rfl) ?_))))
    | (show Rch _ _ _ _ _ 149 _ _ _; refine Rch.blk' (Rn_mono mt _ _) bl_X0_ideaOf_149 (t_iret ?_)))
end C2


