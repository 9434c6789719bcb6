/-! WHO HEARS, WHO GOES: the reference -/
noncomputable def WS (G : Bd) (P : Int → Prop) : Int := SM (fun i => ifp (P i) (wo (kd G i) (fg G i)) 0) (nn G)
theorem WS_OS {G : Bd} (hO : OKB G) (s : Int) : WS G (OS G s) = WO G s := by
  unfold WS WO
  refine SM_ext (c := nn G) (fun i i0 i1 => ?_) _ hO.n.1 (by omega)
  by_cases hc : OC G s i
  · rw [ifp_p hc, ifp_p ⟨i1, hc⟩]
  · rw [ifp_n hc, ifp_n (fun z => hc z.2)]
theorem WS_ext {G : Bd} (hO : OKB G) {P P' : Int → Prop} (h : ∀ i, 0 ≤ i → i < nn G → (P i ↔ P' i)) : WS G P = WS G P' := by
  unfold WS
  refine SM_ext (c := nn G) (fun i i0 i1 => ?_) _ hO.n.1 (by omega)
  by_cases hc : P i
  · rw [ifp_p hc, ifp_p ((h i i0 i1).mp hc)]
  · rw [ifp_n hc, ifp_n (fun z => hc ((h i i0 i1).mpr z))]
theorem WS_R {G : Bd} (hO : OKB G) {P : Int → Prop} : 0 ≤ WS G P ∧ WS G P ≤ 90 := by
  have := woS_R hO P (nn G) hO.n.1 (by omega)
  have := hO.n
  unfold WS
  omega
section C6
variable {d : Nat} {h : Mem} {Q : Option AV → Mem → Prop} {b : Nat} {G : Bd} {M : Int → Prop} {ra : Int}
theorem c_X4_isPiece (hG : RR h 0 G M ra) (hO : OKB G) {z : Int} (hz : inR z) (h1 : 0 ≤ z → z < nn G → Q (some (ai (I 1))) h) (h0 : ¬ (0 ≤ z ∧ z < nn G) → Q (some (ai (I 0))) h) : Rn mt (d + 2) 110 [ar 3 0, ai (I z)] h Q := by
  refine Rn.intro iX4_isPiece rfl rfl ?_
  show Rch bX4_isPiece _ _ _ _ 0 [some (ar 3 0), some (ai (I z))] [] _
  have e_n := hG.n
  have g_n := hO.n
  repeat' (first
    | exact h1 (by omega) (by omega)
    | exact h0 (by omega)
    | (show Rn _ _ 105 _ _ _; refine c_X4_isIn (by first | omega | exact hI_R) (by first | omega | exact hI_R) (by first | omega | exact hI_R) (fun _ _ => ?_) (fun _ => ?_))
    | (show Rch _ _ _ _ _ 0 _ _ _; refine Rch.blk' (Rn_mono mt _) bl_X4_isPiece_0 (i_iload_n rfl (i_iconst k_0 (i_aload_n rfl (i_gfs rfl (i_iconst k_0 (i_iald (n := 46) rfl (by first | omega | (simp (disch := omega) only [e_n]; omega)) (by first | omega | (simp (disch := omega) only [e_n]; omega)) (by first | omega | (simp (disch := omega) only [e_n]; omega)) (i_iconst k_1 (i_isub (t_cs3 (Rn_mono mt _) 13 rfl (Nat.le_of_ble_eq_true rfl) ?_))))))))) <;> (try (simp (disch := omega) only [e_n])))
    | (show Rch _ _ _ _ _ 13 _ _ _; refine Rch.blk' (Rn_mono mt _) bl_X4_isPiece_13 (t_zret (by omega) ?_)))
theorem c_X4_areTwo (hG : RR h 0 G M ra) (hO : OKB G) {z y : Int} (hz : inR z) (hy : inR y) (h1 : 0 ≤ z → z < nn G → 0 ≤ y → y < nn G → ¬ z = y → Q (some (ai (I 1))) h) (h0 : ¬ ((0 ≤ z ∧ z < nn G) ∧ (0 ≤ y ∧ y < nn G) ∧ ¬ z = y) → Q (some (ai (I 0))) h) : Rn mt (d + 3) 111 [ar 3 0, ai (I z), ai (I y)] h Q := by
  refine Rn.intro iX4_areTwo rfl rfl ?_
  show Rch bX4_areTwo _ _ _ _ 0 [some (ar 3 0), some (ai (I z)), some (ai (I y))] [] _
  repeat' (first
    | exact h1 (by omega) (by omega) (by omega) (by omega) (by omega)
    | exact h0 (by omega)
    | (show Rn _ _ 110 _ _ _; refine c_X4_isPiece (by assumption) (by assumption) (by first | omega | exact hI_R) (fun _ _ => ?_) (fun _ => ?_))
    | (show Rch _ _ _ _ _ 0 _ _ _; refine Rch.blk' (Rn_mono mt _) bl_X4_areTwo_0 (i_aload_n rfl (i_iload_n rfl (t_cv2 (Rn_mono mt _) 5 rfl (Nat.le_of_ble_eq_true rfl) ?_))))
    | (show Rch _ _ _ _ _ 5 _ _ _; refine Rch.blk' (Rn_mono mt _) bl_X4_areTwo_5 (t_if_eq 25 8 rfl rfl (by first | exact hI_R | exact band_R | exact bor_R | exact bshr_R | exact lcm_R | omega) (fun hc => ?_) (fun hc => ?_)) <;> (first | (exfalso; omega) | skip))
    | (show Rch _ _ _ _ _ 8 _ _ _; refine Rch.blk' (Rn_mono mt _) bl_X4_areTwo_8 (i_aload_n rfl (i_iload_n rfl (t_cv2 (Rn_mono mt _) 13 rfl (Nat.le_of_ble_eq_true rfl) ?_))))
    | (show Rch _ _ _ _ _ 13 _ _ _; refine Rch.blk' (Rn_mono mt _) bl_X4_areTwo_13 (t_if_eq 25 16 rfl rfl (by first | exact hI_R | exact band_R | exact bor_R | exact bshr_R | exact lcm_R | omega) (fun hc => ?_) (fun hc => ?_)) <;> (first | (exfalso; omega) | skip))
    | (show Rch _ _ _ _ _ 16 _ _ _; refine Rch.blk' (Rn_mono mt _) bl_X4_areTwo_16 (i_iload_n rfl (i_iload_n rfl (t_ic_eq 25 21 rfl rfl (by first | exact hI_R | exact band_R | exact bor_R | exact bshr_R | exact lcm_R | omega) (by first | exact hI_R | exact band_R | exact bor_R | exact bshr_R | exact lcm_R | omega) (fun hc => ?_) (fun hc => ?_)))) <;> (first | (exfalso; omega) | skip))
    | (show Rch _ _ _ _ _ 21 _ _ _; refine Rch.blk' (Rn_mono mt _) bl_X4_areTwo_21 (i_iconst k_1 (t_goto 26 rfl ?_)))
    | (show Rch _ _ _ _ _ 25 _ _ _; refine Rch.blk' (Rn_mono mt _) bl_X4_areTwo_25 (i_iconst k_0 (t_none ?_)))
    | (show Rch _ _ _ _ _ 26 _ _ _; refine Rch.blk' (Rn_mono mt _) bl_X4_areTwo_26 (t_zret (by omega) ?_)))
theorem c_X4_mayStand (hG : RR h 0 G M ra) (hO : OKB G) {z q : Int} (z0 : 0 ≤ z) (hz : inR z) (q0 : 0 ≤ q) (q1 : q < 36) (h1 : (ons G q = -4 ∨ ons G q = z) → Q (some (ai (I 1))) h) (h0 : ¬ (ons G q = -4 ∨ ons G q = z) → Q (some (ai (I 0))) h) : Rn mt (d + 3) 143 [ar 3 0, ai (I z), ai (I q)] h Q := by
  refine Rn.intro iX4_mayStand rfl rfl ?_
  show Rch bX4_mayStand _ _ _ _ 0 [some (ar 3 0), some (ai (I z)), some (ai (I q))] [] _
  have g_n := hO.n
  repeat' (first
    | exact h1 (by omega)
    | exact h0 (by omega)
    | (show Rn _ _ 117 _ _ _; refine c_X4_onSquare (by assumption) (by assumption) (by omega) (by omega) (fun _ _ _ => ?_) (fun _ => ?_))
    | (show Rch _ _ _ _ _ 0 _ _ _; refine Rch.blk' (Rn_mono mt _) bl_X4_mayStand_0 (i_aload_n rfl (i_gfs rfl (i_iload_n rfl (t_cs2 (Rn_mono mt _) 8 rfl (Nat.le_of_ble_eq_true rfl) ?_)))))
    | (show Rch _ _ _ _ _ 8 _ _ _; refine Rch.blk' (Rn_mono mt _) bl_X4_mayStand_8 (t_if_lt 23 11 rfl rfl (by first | exact hI_R | exact band_R | exact bor_R | exact bshr_R | exact lcm_R | omega) (fun hc => ?_) (fun hc => ?_)) <;> (first | (exfalso; omega) | skip))
    | (show Rch _ _ _ _ _ 11 _ _ _; refine Rch.blk' (Rn_mono mt _) bl_X4_mayStand_11 (i_aload_n rfl (i_gfs rfl (i_iload_n rfl (t_cs2 (Rn_mono mt _) 19 rfl (Nat.le_of_ble_eq_true rfl) ?_)))))
    | (show Rch _ _ _ _ _ 19 _ _ _; refine Rch.blk' (Rn_mono mt _) bl_X4_mayStand_19 (i_iload_n rfl (t_ic_ne 27 23 rfl rfl (by first | exact hI_R | exact band_R | exact bor_R | exact bshr_R | exact lcm_R | omega) (by first | exact hI_R | exact band_R | exact bor_R | exact bshr_R | exact lcm_R | omega) (fun hc => ?_) (fun hc => ?_))) <;> (first | (exfalso; omega) | skip))
    | (show Rch _ _ _ _ _ 23 _ _ _; refine Rch.blk' (Rn_mono mt _) bl_X4_mayStand_23 (i_iconst k_1 (t_goto 28 rfl ?_)))
    | (show Rch _ _ _ _ _ 27 _ _ _; refine Rch.blk' (Rn_mono mt _) bl_X4_mayStand_27 (i_iconst k_0 (t_none ?_)))
    | (show Rch _ _ _ _ _ 28 _ _ _; refine Rch.blk' (Rn_mono mt _) bl_X4_mayStand_28 (t_zret (by omega) ?_)))
theorem c_X4_doesHear (hG : RR h b G M ra) (hO : OKB G) (hra : ra = 0 ∨ ra = 1) {x z : Int} (x0 : 0 ≤ x) (x1 : x < nn G) (z0 : 0 ≤ z) (z1 : z < nn G) (h1 : (x = z ∨ (sq G z < 36 ∧ sd G x = sd G z ∧ sq G x < 36 ∧ fr (sq G x) (sq G z) ≤ er G ra x)) → Q (some (ai (I 1))) h) (h0 : ¬ (x = z ∨ (sq G z < 36 ∧ sd G x = sd G z ∧ sq G x < 36 ∧ fr (sq G x) (sq G z) ≤ er G ra x)) → Q (some (ai (I 0))) h) : Rn mt (d + 3) 131 [ar 12 b, ai (I x), ai (I z)] h Q := by
  refine Rn.intro iX4_doesHear rfl rfl ?_
  show Rch bX4_doesHear _ _ _ _ 0 [some (ar 12 b), some (ai (I x)), some (ai (I z)), none] [] _
  have e_q := @RR.q _ _ _ _ _ hG
  have e_s := @RR.s _ _ _ _ _ hG
  have e_k := @RR.k _ _ _ _ _ hG
  have e_f := @RR.f _ _ _ _ _ hG
  have e_r := hG.r
  have g_n := hO.n
  have g_x := hO.pc x x0 x1
  have g_z := hO.pc z z0 z1
  have g_4 := @m4_p
  have g_e : ra = 0 → er G ra x = ea (kd G x) (fg G x) := fun e => if_pos e
  have g_e1 : ra = 1 → er G ra x = 1 := fun e => if_neg (by omega)
  repeat' (first
    | exact h1 (by omega)
    | exact h0 (by omega)
    | (show Rn _ _ 109 _ _ _; refine c_X4_of ?_)
    | (show Rn _ _ 129 _ _ _; refine c_X4_earsBy (by first | omega | exact hI_R) (by omega) (by omega) (fun _ _ => ?_))
    | (show Rn _ _ 114 _ _ _; refine c_X4_isHere (by assumption) (by assumption) (by omega) (by omega) (fun _ _ => ?_) (fun _ => ?_))
    | (show Rn _ _ 121 _ _ _; refine c_X4_farOf (by omega) (by omega) (by omega) (by omega) (fun _ _ => ?_))
    | (show Rch _ _ _ _ _ 0 _ _ _; refine Rch.blk' (Rn_mono mt _) bl_X4_doesHear_0 (i_iload_n rfl (i_iload_n rfl (t_ic_ne 7 5 rfl rfl (by first | exact hI_R | exact band_R | exact bor_R | exact bshr_R | exact lcm_R | omega | (simp (disch := omega) only [e_q, e_s, e_k, e_f, e_r, g_4]; omega)) (by first | exact hI_R | exact band_R | exact bor_R | exact bshr_R | exact lcm_R | omega | (simp (disch := omega) only [e_q, e_s, e_k, e_f, e_r, g_4]; omega)) (fun hc => ?_) (fun hc => ?_)))) <;> (first | (exfalso; omega) | skip))
    | (show Rch _ _ _ _ _ 5 _ _ _; refine Rch.blk' (Rn_mono mt _) bl_X4_doesHear_5 (i_iconst k_1 (t_zret (by omega) ?_)))
    | (show Rch _ _ _ _ _ 7 _ _ _; refine Rch.blk' (Rn_mono mt _) bl_X4_doesHear_7 (i_aload_n rfl (i_iconst k_5 (i_iald (n := 46) rfl (by first | omega | (simp (disch := omega) only [e_q, e_s, e_k, e_f, e_r, g_4]; omega)) (by first | omega | (simp (disch := omega) only [e_q, e_s, e_k, e_f, e_r, g_4]; omega)) (by first | omega | (simp (disch := omega) only [e_q, e_s, e_k, e_f, e_r, g_4]; omega)) (i_iconst k_1 (t_ic_ne 18 14 rfl rfl (by first | exact hI_R | exact band_R | exact bor_R | exact bshr_R | exact lcm_R | omega | (simp (disch := omega) only [e_q, e_s, e_k, e_f, e_r, g_4]; omega)) (by first | exact hI_R | exact band_R | exact bor_R | exact bshr_R | exact lcm_R | omega | (simp (disch := omega) only [e_q, e_s, e_k, e_f, e_r, g_4]; omega)) (fun hc => ?_) (fun hc => ?_)))))) <;> (try (simp (disch := omega) only [e_q, e_s, e_k, e_f, e_r, g_4] at hc ⊢)) <;> (first | (exfalso; omega) | skip))
    | (show Rch _ _ _ _ _ 14 _ _ _; refine Rch.blk' (Rn_mono mt _) bl_X4_doesHear_14 (i_iconst k_1 (t_goto 35 rfl ?_)))
    | (show Rch _ _ _ _ _ 18 _ _ _; refine Rch.blk' (Rn_mono mt _) bl_X4_doesHear_18 (i_aload_n rfl (i_iload_n rfl (i_iconst k_0 (t_cs2 (Rn_mono mt _) 24 rfl (Nat.le_of_ble_eq_true rfl) ?_)))))
    | (show Rch _ _ _ _ _ 24 _ _ _; refine Rch.blk' (Rn_mono mt _) bl_X4_doesHear_24 (i_iald rfl (by first | omega | (simp (disch := omega) only [e_q, e_s, e_k, e_f, e_r, g_4]; omega)) (by simp only [aln]; omega) (by simp only [aln]; omega) (i_aload_n rfl (i_iload_n rfl (i_iconst k_1 (t_cs2 (Rn_mono mt _) 31 rfl (Nat.le_of_ble_eq_true rfl) ?_))))) <;> (try (simp (disch := omega) only [e_q, e_s, e_k, e_f, e_r, g_4])))
    | (show Rch _ _ _ _ _ 31 _ _ _; refine Rch.blk' (Rn_mono mt _) bl_X4_doesHear_31 (i_iald rfl (by first | omega | (simp (disch := omega) only [e_q, e_s, e_k, e_f, e_r, g_4]; omega)) (by simp only [aln]; omega) (by simp only [aln]; omega) (t_cs2 (Rn_mono mt _) 35 rfl (Nat.le_of_ble_eq_true rfl) ?_)) <;> (try (simp (disch := omega) only [e_q, e_s, e_k, e_f, e_r, g_4])))
    | (show Rch _ _ _ _ _ 35 _ _ _; refine Rch.blk' (Rn_mono mt _) bl_X4_doesHear_35 (i_istore3 trivial (i_aload_n rfl (i_iload_n rfl (t_cs2 (Rn_mono mt _) 41 rfl (Nat.le_of_ble_eq_true rfl) ?_)))))
    | (show Rch _ _ _ _ _ 41 _ _ _; refine Rch.blk' (Rn_mono mt _) bl_X4_doesHear_41 (t_if_eq 94 44 rfl rfl (by first | exact hI_R | exact band_R | exact bor_R | exact bshr_R | exact lcm_R | omega | (simp (disch := omega) only [e_q, e_s, e_k, e_f, e_r, g_4]; omega)) (fun hc => ?_) (fun hc => ?_)) <;> (first | (exfalso; omega) | skip))
    | (show Rch _ _ _ _ _ 44 _ _ _; refine Rch.blk' (Rn_mono mt _) bl_X4_doesHear_44 (i_aload_n rfl (i_iload_n rfl (t_cs2 (Rn_mono mt _) 49 rfl (Nat.le_of_ble_eq_true rfl) ?_))))
    | (show Rch _ _ _ _ _ 49 _ _ _; refine Rch.blk' (Rn_mono mt _) bl_X4_doesHear_49 (t_if_eq 94 52 rfl rfl (by first | exact hI_R | exact band_R | exact bor_R | exact bshr_R | exact lcm_R | omega | (simp (disch := omega) only [e_q, e_s, e_k, e_f, e_r, g_4]; omega)) (fun hc => ?_) (fun hc => ?_)) <;> (first | (exfalso; omega) | skip))
    | (show Rch _ _ _ _ _ 52 _ _ _; refine Rch.blk' (Rn_mono mt _) bl_X4_doesHear_52 (i_aload_n rfl (i_iload_n rfl (i_iconst k_2 (t_cs2 (Rn_mono mt _) 58 rfl (Nat.le_of_ble_eq_true rfl) ?_)))))
    | (show Rch _ _ _ _ _ 58 _ _ _; refine Rch.blk' (Rn_mono mt _) bl_X4_doesHear_58 (i_iald rfl (by first | omega | (simp (disch := omega) only [e_q, e_s, e_k, e_f, e_r, g_4]; omega)) (by simp only [aln]; omega) (by simp only [aln]; omega) (i_aload_n rfl (i_iload_n rfl (i_iconst k_2 (t_cs2 (Rn_mono mt _) 65 rfl (Nat.le_of_ble_eq_true rfl) ?_))))) <;> (try (simp (disch := omega) only [e_q, e_s, e_k, e_f, e_r, g_4])))
    | (show Rch _ _ _ _ _ 65 _ _ _; refine Rch.blk' (Rn_mono mt _) bl_X4_doesHear_65 (i_iald rfl (by first | omega | (simp (disch := omega) only [e_q, e_s, e_k, e_f, e_r, g_4]; omega)) (by simp only [aln]; omega) (by simp only [aln]; omega) (t_ic_ne 94 69 rfl rfl (by first | exact hI_R | exact band_R | exact bor_R | exact bshr_R | exact lcm_R | omega | (simp (disch := omega) only [e_q, e_s, e_k, e_f, e_r, g_4]; omega)) (by first | exact hI_R | exact band_R | exact bor_R | exact bshr_R | exact lcm_R | omega | (simp (disch := omega) only [e_q, e_s, e_k, e_f, e_r, g_4]; omega)) (fun hc => ?_) (fun hc => ?_))) <;> (try (simp (disch := omega) only [e_q, e_s, e_k, e_f, e_r, g_4] at hc ⊢)) <;> (first | (exfalso; omega) | skip))
    | (show Rch _ _ _ _ _ 69 _ _ _; refine Rch.blk' (Rn_mono mt _) bl_X4_doesHear_69 (i_aload_n rfl (i_iload_n rfl (i_iconst k_3 (t_cs2 (Rn_mono mt _) 75 rfl (Nat.le_of_ble_eq_true rfl) ?_)))))
    | (show Rch _ _ _ _ _ 75 _ _ _; refine Rch.blk' (Rn_mono mt _) bl_X4_doesHear_75 (i_iald rfl (by first | omega | (simp (disch := omega) only [e_q, e_s, e_k, e_f, e_r, g_4]; omega)) (by simp only [aln]; omega) (by simp only [aln]; omega) (i_aload_n rfl (i_iload_n rfl (i_iconst k_3 (t_cs2 (Rn_mono mt _) 82 rfl (Nat.le_of_ble_eq_true rfl) ?_))))) <;> (try (simp (disch := omega) only [e_q, e_s, e_k, e_f, e_r, g_4])))
    | (show Rch _ _ _ _ _ 82 _ _ _; refine Rch.blk' (Rn_mono mt _) bl_X4_doesHear_82 (i_iald rfl (by first | omega | (simp (disch := omega) only [e_q, e_s, e_k, e_f, e_r, g_4]; omega)) (by simp only [aln]; omega) (by simp only [aln]; omega) (t_cs2 (Rn_mono mt _) 86 rfl (Nat.le_of_ble_eq_true rfl) ?_)) <;> (try (simp (disch := omega) only [e_q, e_s, e_k, e_f, e_r, g_4])))
    | (show Rch _ _ _ _ _ 86 _ _ _; refine Rch.blk' (Rn_mono mt _) bl_X4_doesHear_86 (i_iload_n rfl (t_ic_gt 94 90 rfl rfl (by first | exact hI_R | exact band_R | exact bor_R | exact bshr_R | exact lcm_R | omega | (simp (disch := omega) only [e_q, e_s, e_k, e_f, e_r, g_4]; omega)) (by first | exact hI_R | exact band_R | exact bor_R | exact bshr_R | exact lcm_R | omega | (simp (disch := omega) only [e_q, e_s, e_k, e_f, e_r, g_4]; omega)) (fun hc => ?_) (fun hc => ?_))) <;> (first | (exfalso; omega) | skip))
    | (show Rch _ _ _ _ _ 90 _ _ _; refine Rch.blk' (Rn_mono mt _) bl_X4_doesHear_90 (i_iconst k_1 (t_goto 95 rfl ?_)))
    | (show Rch _ _ _ _ _ 94 _ _ _; refine Rch.blk' (Rn_mono mt _) bl_X4_doesHear_94 (i_iconst k_0 (t_none ?_)))
    | (show Rch _ _ _ _ _ 95 _ _ _; refine Rch.blk' (Rn_mono mt _) bl_X4_doesHear_95 (t_zret (by omega) ?_)))
theorem c_X4_heardBy (hG : RR h b G M ra) (hO : OKB G) (hra : ra = 0 ∨ ra = 1) {z : Int} (z0 : 0 ≤ z) (z1 : z < nn G) (z2 : sq G z < 36) (hq : Q (some (ai (I (BT (HS G ra z))))) h) : Rn mt (d + 4) 132 [ar 12 b, ai (I z)] h Q := by
  refine Rn.intro iX4_heardBy rfl rfl ?_
  show Rch bX4_heardBy _ _ _ _ 0 [some (ar 12 b), some (ai (I z)), none, none] [] _
  have e_n := hG.n
  have g_n := hO.n
  have key : ∀ k : Int, k ≤ nn G → 0 ≤ k → RH bX4_heardBy (d + 3) Q 4 [some (ar 12 b), some (ai (I z)), some (ai (I (BT (fun i => i < k ∧ (fun i => i = z ∨ (sq G z < 36 ∧ sd G i = sd G z ∧ sq G i < 36 ∧ fr (sq G i) (sq G z) ≤ er G ra i)) i)))), some (ai (I k))] h := by
    refine up_ind (fun k hk ih hk0 => ?_)
    by_cases hk1 : k < nn G
    · have ih := ih hk1 (by omega)
      have ih1 : (k = z ∨ (sq G z < 36 ∧ sd G k = sd G z ∧ sq G k < 36 ∧ fr (sq G k) (sq G z) ≤ er G ra k)) → RH bX4_heardBy (d + 3) Q 4 [some (ar 12 b), some (ai (I z)), some (ai (I (bor (BT (fun i => i < k ∧ (fun i => i = z ∨ (sq G z < 36 ∧ sd G i = sd G z ∧ sq G i < 36 ∧ fr (sq G i) (sq G z) ≤ er G ra i)) i)) (bshl 1 k)))), some (ai (I (k + 1)))] h := by
        intro hC; rw [BT_up1 (C := (fun i => i = z ∨ (sq G z < 36 ∧ sd G i = sd G z ∧ sq G i < 36 ∧ fr (sq G i) (sq G z) ≤ er G ra i))) hk0 (by omega) hC]; exact ih
      have ih0 : ¬ (k = z ∨ (sq G z < 36 ∧ sd G k = sd G z ∧ sq G k < 36 ∧ fr (sq G k) (sq G z) ≤ er G ra k)) → RH bX4_heardBy (d + 3) Q 4 [some (ar 12 b), some (ai (I z)), some (ai (I (bor (BT (fun i => i < k ∧ (fun i => i = z ∨ (sq G z < 36 ∧ sd G i = sd G z ∧ sq G i < 36 ∧ fr (sq G i) (sq G z) ≤ er G ra i)) i)) 0))), some (ai (I (k + 1)))] h := by
        intro hC; rw [BT_up2 (C := (fun i => i = z ∨ (sq G z < 36 ∧ sd G i = sd G z ∧ sq G i < 36 ∧ fr (sq G i) (sq G z) ≤ er G ra i))) hC]; exact ih
      clear ih
      refine Rch.blk' (Rn_mono mt _) bl_X4_heardBy_4 (i_iload_n rfl (i_aload_n rfl (i_iconst k_0 (i_iald (n := 46) rfl (by first | omega | (simp (disch := omega) only [e_n]; omega)) (by first | omega | (simp (disch := omega) only [e_n]; omega)) (by first | omega | (simp (disch := omega) only [e_n]; omega)) (t_ic_ge 36 11 rfl rfl (by first | exact hI_R | exact band_R | exact bor_R | exact bshr_R | exact lcm_R | omega | (simp (disch := omega) only [e_n]; omega)) (by first | exact hI_R | exact band_R | exact bor_R | exact bshr_R | exact lcm_R | omega | (simp (disch := omega) only [e_n]; omega)) (fun hc => ?_) (fun hc => ?_)))))) <;> (try (simp (disch := omega) only [e_n] at hc ⊢)) <;> (first | (exfalso; omega) | skip)
      repeat' (first
        | exact ih1 (by omega)
        | exact ih0 (by omega)
        | (show Rn _ _ 131 _ _ _; refine c_X4_doesHear (by assumption) (by assumption) (by omega) (by omega) (by omega) (by omega) (by omega) (fun _ => ?_) (fun _ => ?_))
        | (show Rch _ _ _ _ _ 0 _ _ _; refine Rch.blk' (Rn_mono mt _) bl_X4_heardBy_0 (i_iconst k_0 (i_istore2 trivial (i_iconst k_0 (i_istore3 trivial (t_none ?_))))))
        | (show Rch _ _ _ _ _ 11 _ _ _; refine Rch.blk' (Rn_mono mt _) bl_X4_heardBy_11 (i_iload_n rfl (i_aload_n rfl (i_iload_n rfl (i_iload_n rfl (t_cs3 (Rn_mono mt _) 18 rfl (Nat.le_of_ble_eq_true rfl) ?_))))))
        | (show Rch _ _ _ _ _ 18 _ _ _; refine Rch.blk' (Rn_mono mt _) bl_X4_heardBy_18 (t_if_eq 27 21 rfl rfl (by first | exact hI_R | exact band_R | exact bor_R | exact bshr_R | exact lcm_R | omega) (fun hc => ?_) (fun hc => ?_)) <;> (first | (exfalso; omega) | skip))
        | (show Rch _ _ _ _ _ 21 _ _ _; refine Rch.blk' (Rn_mono mt _) bl_X4_heardBy_21 (i_iconst k_1 (i_iload_n rfl (i_ishl (t_goto 28 rfl ?_)))))
        | (show Rch _ _ _ _ _ 27 _ _ _; refine Rch.blk' (Rn_mono mt _) bl_X4_heardBy_27 (i_iconst k_0 (t_none ?_)))
        | (show Rch _ _ _ _ _ 28 _ _ _; refine Rch.blk' (Rn_mono mt _) bl_X4_heardBy_28 (i_ior (i_istore2 trivial (i_iinc3 trivial k_1 (t_goto 4 rfl ?_)))))
        | (show Rch _ _ _ _ _ 36 _ _ _; refine Rch.blk' (Rn_mono mt _) bl_X4_heardBy_36 (i_iload_n rfl (t_iret ?_))))
    · obtain rfl : k = nn G := by omega
      have e : BT (HS G ra z) = BT (fun i => i < nn G ∧ (fun i => i = z ∨ (sq G z < 36 ∧ sd G i = sd G z ∧ sq G i < 36 ∧ fr (sq G i) (sq G z) ≤ er G ra i)) i) := BT_ext (fun i i0 i1 => ⟨fun q => ⟨q.1, q.2.elim Or.inl (fun w => Or.inr ⟨z2, w⟩)⟩, fun q => ⟨q.1, q.2.elim Or.inl (fun w => Or.inr w.2)⟩⟩)
      rw [e] at hq
      refine Rch.blk' (Rn_mono mt _) bl_X4_heardBy_4 (i_iload_n rfl (i_aload_n rfl (i_iconst k_0 (i_iald (n := 46) rfl (by first | omega | (simp (disch := omega) only [e_n]; omega)) (by first | omega | (simp (disch := omega) only [e_n]; omega)) (by first | omega | (simp (disch := omega) only [e_n]; omega)) (t_ic_ge 36 11 rfl rfl (by first | exact hI_R | exact band_R | exact bor_R | exact bshr_R | exact lcm_R | omega | (simp (disch := omega) only [e_n]; omega)) (by first | exact hI_R | exact band_R | exact bor_R | exact bshr_R | exact lcm_R | omega | (simp (disch := omega) only [e_n]; omega)) (fun hc => ?_) (fun hc => ?_)))))) <;> (try (simp (disch := omega) only [e_n] at hc ⊢)) <;> (first | (exfalso; omega) | skip)
      repeat' (first
        | exact hq
        | (show Rn _ _ 131 _ _ _; refine c_X4_doesHear (by assumption) (by assumption) (by omega) (by omega) (by omega) (by omega) (by omega) (fun _ => ?_) (fun _ => ?_))
        | (show Rch _ _ _ _ _ 0 _ _ _; refine Rch.blk' (Rn_mono mt _) bl_X4_heardBy_0 (i_iconst k_0 (i_istore2 trivial (i_iconst k_0 (i_istore3 trivial (t_none ?_))))))
        | (show Rch _ _ _ _ _ 11 _ _ _; refine Rch.blk' (Rn_mono mt _) bl_X4_heardBy_11 (i_iload_n rfl (i_aload_n rfl (i_iload_n rfl (i_iload_n rfl (t_cs3 (Rn_mono mt _) 18 rfl (Nat.le_of_ble_eq_true rfl) ?_))))))
        | (show Rch _ _ _ _ _ 18 _ _ _; refine Rch.blk' (Rn_mono mt _) bl_X4_heardBy_18 (t_if_eq 27 21 rfl rfl (by first | exact hI_R | exact band_R | exact bor_R | exact bshr_R | exact lcm_R | omega) (fun hc => ?_) (fun hc => ?_)) <;> (first | (exfalso; omega) | skip))
        | (show Rch _ _ _ _ _ 21 _ _ _; refine Rch.blk' (Rn_mono mt _) bl_X4_heardBy_21 (i_iconst k_1 (i_iload_n rfl (i_ishl (t_goto 28 rfl ?_)))))
        | (show Rch _ _ _ _ _ 27 _ _ _; refine Rch.blk' (Rn_mono mt _) bl_X4_heardBy_27 (i_iconst k_0 (t_none ?_)))
        | (show Rch _ _ _ _ _ 28 _ _ _; refine Rch.blk' (Rn_mono mt _) bl_X4_heardBy_28 (i_ior (i_istore2 trivial (i_iinc3 trivial k_1 (t_goto 4 rfl ?_)))))
        | (show Rch _ _ _ _ _ 36 _ _ _; refine Rch.blk' (Rn_mono mt _) bl_X4_heardBy_36 (i_iload_n rfl (t_iret ?_))))
  have key0 := key 0 (by omega) (by omega)
  rw [BT_0 (C := (fun i => i = z ∨ (sq G z < 36 ∧ sd G i = sd G z ∧ sq G i < 36 ∧ fr (sq G i) (sq G z) ≤ er G ra i)))] at key0
  repeat' (first
    | exact key0
    | (show Rn _ _ 131 _ _ _; refine c_X4_doesHear (by assumption) (by assumption) (by omega) (by omega) (by omega) (by omega) (by omega) (fun _ => ?_) (fun _ => ?_))
    | (show Rch _ _ _ _ _ 0 _ _ _; refine Rch.blk' (Rn_mono mt _) bl_X4_heardBy_0 (i_iconst k_0 (i_istore2 trivial (i_iconst k_0 (i_istore3 trivial (t_none ?_))))))
    | (show Rch _ _ _ _ _ 11 _ _ _; refine Rch.blk' (Rn_mono mt _) bl_X4_heardBy_11 (i_iload_n rfl (i_aload_n rfl (i_iload_n rfl (i_iload_n rfl (t_cs3 (Rn_mono mt _) 18 rfl (Nat.le_of_ble_eq_true rfl) ?_))))))
    | (show Rch _ _ _ _ _ 18 _ _ _; refine Rch.blk' (Rn_mono mt _) bl_X4_heardBy_18 (t_if_eq 27 21 rfl rfl (by first | exact hI_R | exact band_R | exact bor_R | exact bshr_R | exact lcm_R | omega) (fun hc => ?_) (fun hc => ?_)) <;> (first | (exfalso; omega) | skip))
    | (show Rch _ _ _ _ _ 21 _ _ _; refine Rch.blk' (Rn_mono mt _) bl_X4_heardBy_21 (i_iconst k_1 (i_iload_n rfl (i_ishl (t_goto 28 rfl ?_)))))
    | (show Rch _ _ _ _ _ 27 _ _ _; refine Rch.blk' (Rn_mono mt _) bl_X4_heardBy_27 (i_iconst k_0 (t_none ?_)))
    | (show Rch _ _ _ _ _ 28 _ _ _; refine Rch.blk' (Rn_mono mt _) bl_X4_heardBy_28 (i_ior (i_istore2 trivial (i_iinc3 trivial k_1 (t_goto 4 rfl ?_)))))
    | (show Rch _ _ _ _ _ 36 _ _ _; refine Rch.blk' (Rn_mono mt _) bl_X4_heardBy_36 (i_iload_n rfl (t_iret ?_))))
theorem c_X4_hereIn (hG : RR h b G M ra) (hO : OKB G) (hq : Q (some (ai (I (BT (TS G))))) h) : Rn mt (d + 3) 133 [ar 12 b] h Q := by
  refine Rn.intro iX4_hereIn rfl rfl ?_
  show Rch bX4_hereIn _ _ _ _ 0 [some (ar 12 b), none, none] [] _
  have e_n := hG.n
  have g_n := hO.n
  have key : ∀ k : Int, k ≤ nn G → 0 ≤ k → RH bX4_hereIn (d + 2) Q 4 [some (ar 12 b), some (ai (I (BT (fun i => i < k ∧ sq G i < 36)))), some (ai (I k))] h := by
    refine up_ind (fun k hk ih hk0 => ?_)
    by_cases hk1 : k < nn G
    · have ih := ih hk1 (by omega)
      have ih1 : sq G k < 36 → RH bX4_hereIn (d + 2) Q 4 [some (ar 12 b), some (ai (I (bor (BT (fun i => i < k ∧ sq G i < 36)) (bshl 1 k)))), some (ai (I (k + 1)))] h := by
        intro hC; rw [BT_up1 (C := fun i => sq G i < 36) hk0 (by omega) hC]; exact ih
      have ih0 : ¬ sq G k < 36 → RH bX4_hereIn (d + 2) Q 4 [some (ar 12 b), some (ai (I (bor (BT (fun i => i < k ∧ sq G i < 36)) 0))), some (ai (I (k + 1)))] h := by
        intro hC; rw [BT_up2 (C := fun i => sq G i < 36) hC]; exact ih
      clear ih
      refine Rch.blk' (Rn_mono mt _) bl_X4_hereIn_4 (i_iload_n rfl (i_aload_n rfl (i_iconst k_0 (i_iald (n := 46) rfl (by first | omega | (simp (disch := omega) only [e_n]; omega)) (by first | omega | (simp (disch := omega) only [e_n]; omega)) (by first | omega | (simp (disch := omega) only [e_n]; omega)) (t_ic_ge 35 11 rfl rfl (by first | exact hI_R | exact band_R | exact bor_R | exact bshr_R | exact lcm_R | omega | (simp (disch := omega) only [e_n]; omega)) (by first | exact hI_R | exact band_R | exact bor_R | exact bshr_R | exact lcm_R | omega | (simp (disch := omega) only [e_n]; omega)) (fun hc => ?_) (fun hc => ?_)))))) <;> (try (simp (disch := omega) only [e_n] at hc ⊢)) <;> (first | (exfalso; omega) | skip)
      repeat' (first
        | exact ih1 (by omega)
        | exact ih0 (by omega)
        | (show Rn _ _ 114 _ _ _; refine c_X4_isHere (by assumption) (by assumption) (by omega) (by omega) (fun _ _ => ?_) (fun _ => ?_))
        | (show Rch _ _ _ _ _ 0 _ _ _; refine Rch.blk' (Rn_mono mt _) bl_X4_hereIn_0 (i_iconst k_0 (i_istore1 trivial (i_iconst k_0 (i_istore2 trivial (t_none ?_))))))
        | (show Rch _ _ _ _ _ 11 _ _ _; refine Rch.blk' (Rn_mono mt _) bl_X4_hereIn_11 (i_iload_n rfl (i_aload_n rfl (i_iload_n rfl (t_cs2 (Rn_mono mt _) 17 rfl (Nat.le_of_ble_eq_true rfl) ?_)))))
        | (show Rch _ _ _ _ _ 17 _ _ _; refine Rch.blk' (Rn_mono mt _) bl_X4_hereIn_17 (t_if_eq 26 20 rfl rfl (by first | exact hI_R | exact band_R | exact bor_R | exact bshr_R | exact lcm_R | omega) (fun hc => ?_) (fun hc => ?_)) <;> (first | (exfalso; omega) | skip))
        | (show Rch _ _ _ _ _ 20 _ _ _; refine Rch.blk' (Rn_mono mt _) bl_X4_hereIn_20 (i_iconst k_1 (i_iload_n rfl (i_ishl (t_goto 27 rfl ?_)))))
        | (show Rch _ _ _ _ _ 26 _ _ _; refine Rch.blk' (Rn_mono mt _) bl_X4_hereIn_26 (i_iconst k_0 (t_none ?_)))
        | (show Rch _ _ _ _ _ 27 _ _ _; refine Rch.blk' (Rn_mono mt _) bl_X4_hereIn_27 (i_ior (i_istore1 trivial (i_iinc2 trivial k_1 (t_goto 4 rfl ?_)))))
        | (show Rch _ _ _ _ _ 35 _ _ _; refine Rch.blk' (Rn_mono mt _) bl_X4_hereIn_35 (i_iload_n rfl (t_iret ?_))))
    · obtain rfl : k = nn G := by omega
      refine Rch.blk' (Rn_mono mt _) bl_X4_hereIn_4 (i_iload_n rfl (i_aload_n rfl (i_iconst k_0 (i_iald (n := 46) rfl (by first | omega | (simp (disch := omega) only [e_n]; omega)) (by first | omega | (simp (disch := omega) only [e_n]; omega)) (by first | omega | (simp (disch := omega) only [e_n]; omega)) (t_ic_ge 35 11 rfl rfl (by first | exact hI_R | exact band_R | exact bor_R | exact bshr_R | exact lcm_R | omega | (simp (disch := omega) only [e_n]; omega)) (by first | exact hI_R | exact band_R | exact bor_R | exact bshr_R | exact lcm_R | omega | (simp (disch := omega) only [e_n]; omega)) (fun hc => ?_) (fun hc => ?_)))))) <;> (try (simp (disch := omega) only [e_n] at hc ⊢)) <;> (first | (exfalso; omega) | skip)
      repeat' (first
        | exact hq
        | (show Rn _ _ 114 _ _ _; refine c_X4_isHere (by assumption) (by assumption) (by omega) (by omega) (fun _ _ => ?_) (fun _ => ?_))
        | (show Rch _ _ _ _ _ 0 _ _ _; refine Rch.blk' (Rn_mono mt _) bl_X4_hereIn_0 (i_iconst k_0 (i_istore1 trivial (i_iconst k_0 (i_istore2 trivial (t_none ?_))))))
        | (show Rch _ _ _ _ _ 11 _ _ _; refine Rch.blk' (Rn_mono mt _) bl_X4_hereIn_11 (i_iload_n rfl (i_aload_n rfl (i_iload_n rfl (t_cs2 (Rn_mono mt _) 17 rfl (Nat.le_of_ble_eq_true rfl) ?_)))))
        | (show Rch _ _ _ _ _ 17 _ _ _; refine Rch.blk' (Rn_mono mt _) bl_X4_hereIn_17 (t_if_eq 26 20 rfl rfl (by first | exact hI_R | exact band_R | exact bor_R | exact bshr_R | exact lcm_R | omega) (fun hc => ?_) (fun hc => ?_)) <;> (first | (exfalso; omega) | skip))
        | (show Rch _ _ _ _ _ 20 _ _ _; refine Rch.blk' (Rn_mono mt _) bl_X4_hereIn_20 (i_iconst k_1 (i_iload_n rfl (i_ishl (t_goto 27 rfl ?_)))))
        | (show Rch _ _ _ _ _ 26 _ _ _; refine Rch.blk' (Rn_mono mt _) bl_X4_hereIn_26 (i_iconst k_0 (t_none ?_)))
        | (show Rch _ _ _ _ _ 27 _ _ _; refine Rch.blk' (Rn_mono mt _) bl_X4_hereIn_27 (i_ior (i_istore1 trivial (i_iinc2 trivial k_1 (t_goto 4 rfl ?_)))))
        | (show Rch _ _ _ _ _ 35 _ _ _; refine Rch.blk' (Rn_mono mt _) bl_X4_hereIn_35 (i_iload_n rfl (t_iret ?_))))
  have key0 := key 0 (by omega) (by omega)
  rw [BT_0 (C := fun i => sq G i < 36)] at key0
  repeat' (first
    | exact key0
    | (show Rn _ _ 114 _ _ _; refine c_X4_isHere (by assumption) (by assumption) (by omega) (by omega) (fun _ _ => ?_) (fun _ => ?_))
    | (show Rch _ _ _ _ _ 0 _ _ _; refine Rch.blk' (Rn_mono mt _) bl_X4_hereIn_0 (i_iconst k_0 (i_istore1 trivial (i_iconst k_0 (i_istore2 trivial (t_none ?_))))))
    | (show Rch _ _ _ _ _ 11 _ _ _; refine Rch.blk' (Rn_mono mt _) bl_X4_hereIn_11 (i_iload_n rfl (i_aload_n rfl (i_iload_n rfl (t_cs2 (Rn_mono mt _) 17 rfl (Nat.le_of_ble_eq_true rfl) ?_)))))
    | (show Rch _ _ _ _ _ 17 _ _ _; refine Rch.blk' (Rn_mono mt _) bl_X4_hereIn_17 (t_if_eq 26 20 rfl rfl (by first | exact hI_R | exact band_R | exact bor_R | exact bshr_R | exact lcm_R | omega) (fun hc => ?_) (fun hc => ?_)) <;> (first | (exfalso; omega) | skip))
    | (show Rch _ _ _ _ _ 20 _ _ _; refine Rch.blk' (Rn_mono mt _) bl_X4_hereIn_20 (i_iconst k_1 (i_iload_n rfl (i_ishl (t_goto 27 rfl ?_)))))
    | (show Rch _ _ _ _ _ 26 _ _ _; refine Rch.blk' (Rn_mono mt _) bl_X4_hereIn_26 (i_iconst k_0 (t_none ?_)))
    | (show Rch _ _ _ _ _ 27 _ _ _; refine Rch.blk' (Rn_mono mt _) bl_X4_hereIn_27 (i_ior (i_istore1 trivial (i_iinc2 trivial k_1 (t_goto 4 rfl ?_)))))
    | (show Rch _ _ _ _ _ 35 _ _ _; refine Rch.blk' (Rn_mono mt _) bl_X4_hereIn_35 (i_iload_n rfl (t_iret ?_))))
theorem c_X4_ofSide (hG : RR h b G M ra) (hO : OKB G) {s : Int} (hs : inR s) (hq : Q (some (ai (I (BT (OS G s))))) h) : Rn mt (d + 3) 134 [ar 12 b, ai (I s)] h Q := by
  refine Rn.intro iX4_ofSide rfl rfl ?_
  show Rch bX4_ofSide _ _ _ _ 0 [some (ar 12 b), some (ai (I s)), none, none] [] _
  have e_n := hG.n
  have e_s := @RR.s _ _ _ _ _ hG
  have g_n := hO.n
  have key : ∀ k : Int, k ≤ nn G → 0 ≤ k → RH bX4_ofSide (d + 2) Q 4 [some (ar 12 b), some (ai (I s)), some (ai (I (BT (fun i => i < k ∧ OC G s i)))), some (ai (I k))] h := by
    refine up_ind (fun k hk ih hk0 => ?_)
    by_cases hk1 : k < nn G
    · have ih := ih hk1 (by omega)
      have ih1 : (sd G k = s ∧ sq G k < 36) → RH bX4_ofSide (d + 2) Q 4 [some (ar 12 b), some (ai (I s)), some (ai (I (bor (BT (fun i => i < k ∧ OC G s i)) (bshl 1 k)))), some (ai (I (k + 1)))] h := by
        intro hC; rw [BT_up1 (C := OC G s) hk0 (by omega) hC]; exact ih
      have ih0 : ¬ (sd G k = s ∧ sq G k < 36) → RH bX4_ofSide (d + 2) Q 4 [some (ar 12 b), some (ai (I s)), some (ai (I (bor (BT (fun i => i < k ∧ OC G s i)) 0))), some (ai (I (k + 1)))] h := by
        intro hC; rw [BT_up2 (C := OC G s) hC]; exact ih
      clear ih
      refine Rch.blk' (Rn_mono mt _) bl_X4_ofSide_4 (i_iload_n rfl (i_aload_n rfl (i_iconst k_0 (i_iald (n := 46) rfl (by first | omega | (simp (disch := omega) only [e_n]; omega)) (by first | omega | (simp (disch := omega) only [e_n]; omega)) (by first | omega | (simp (disch := omega) only [e_n]; omega)) (t_ic_ge 46 11 rfl rfl (by first | exact hI_R | exact band_R | exact bor_R | exact bshr_R | exact lcm_R | omega | (simp (disch := omega) only [e_n]; omega)) (by first | exact hI_R | exact band_R | exact bor_R | exact bshr_R | exact lcm_R | omega | (simp (disch := omega) only [e_n]; omega)) (fun hc => ?_) (fun hc => ?_)))))) <;> (try (simp (disch := omega) only [e_n] at hc ⊢)) <;> (first | (exfalso; omega) | skip)
      repeat' (first
        | exact ih1 (by omega)
        | exact ih0 (by omega)
        | (show Rn _ _ 114 _ _ _; refine c_X4_isHere (by assumption) (by assumption) (by omega) (by omega) (fun _ _ => ?_) (fun _ => ?_))
        | (show Rn _ _ 109 _ _ _; refine c_X4_of ?_)
        | (show Rch _ _ _ _ _ 0 _ _ _; refine Rch.blk' (Rn_mono mt _) bl_X4_ofSide_0 (i_iconst k_0 (i_istore2 trivial (i_iconst k_0 (i_istore3 trivial (t_none ?_))))))
        | (show Rch _ _ _ _ _ 11 _ _ _; refine Rch.blk' (Rn_mono mt _) bl_X4_ofSide_11 (i_iload_n rfl (i_aload_n rfl (i_iload_n rfl (t_cs2 (Rn_mono mt _) 17 rfl (Nat.le_of_ble_eq_true rfl) ?_)))))
        | (show Rch _ _ _ _ _ 17 _ _ _; refine Rch.blk' (Rn_mono mt _) bl_X4_ofSide_17 (t_if_eq 37 20 rfl rfl (by first | exact hI_R | exact band_R | exact bor_R | exact bshr_R | exact lcm_R | omega | (simp (disch := omega) only [e_s]; omega)) (fun hc => ?_) (fun hc => ?_)) <;> (first | (exfalso; omega) | skip))
        | (show Rch _ _ _ _ _ 20 _ _ _; refine Rch.blk' (Rn_mono mt _) bl_X4_ofSide_20 (i_aload_n rfl (i_iload_n rfl (i_iconst k_2 (t_cs2 (Rn_mono mt _) 26 rfl (Nat.le_of_ble_eq_true rfl) ?_)))))
        | (show Rch _ _ _ _ _ 26 _ _ _; refine Rch.blk' (Rn_mono mt _) bl_X4_ofSide_26 (i_iald rfl (by first | omega | (simp (disch := omega) only [e_s]; omega)) (by simp only [aln]; omega) (by simp only [aln]; omega) (i_iload_n rfl (t_ic_ne 37 31 rfl rfl (by first | exact hI_R | exact band_R | exact bor_R | exact bshr_R | exact lcm_R | omega | (simp (disch := omega) only [e_s]; omega)) (by first | exact hI_R | exact band_R | exact bor_R | exact bshr_R | exact lcm_R | omega | (simp (disch := omega) only [e_s]; omega)) (fun hc => ?_) (fun hc => ?_)))) <;> (try (simp (disch := omega) only [e_s] at hc ⊢)) <;> (first | (exfalso; omega) | skip))
        | (show Rch _ _ _ _ _ 31 _ _ _; refine Rch.blk' (Rn_mono mt _) bl_X4_ofSide_31 (i_iconst k_1 (i_iload_n rfl (i_ishl (t_goto 38 rfl ?_)))))
        | (show Rch _ _ _ _ _ 37 _ _ _; refine Rch.blk' (Rn_mono mt _) bl_X4_ofSide_37 (i_iconst k_0 (t_none ?_)))
        | (show Rch _ _ _ _ _ 38 _ _ _; refine Rch.blk' (Rn_mono mt _) bl_X4_ofSide_38 (i_ior (i_istore2 trivial (i_iinc3 trivial k_1 (t_goto 4 rfl ?_)))))
        | (show Rch _ _ _ _ _ 46 _ _ _; refine Rch.blk' (Rn_mono mt _) bl_X4_ofSide_46 (i_iload_n rfl (t_iret ?_))))
    · obtain rfl : k = nn G := by omega
      refine Rch.blk' (Rn_mono mt _) bl_X4_ofSide_4 (i_iload_n rfl (i_aload_n rfl (i_iconst k_0 (i_iald (n := 46) rfl (by first | omega | (simp (disch := omega) only [e_n]; omega)) (by first | omega | (simp (disch := omega) only [e_n]; omega)) (by first | omega | (simp (disch := omega) only [e_n]; omega)) (t_ic_ge 46 11 rfl rfl (by first | exact hI_R | exact band_R | exact bor_R | exact bshr_R | exact lcm_R | omega | (simp (disch := omega) only [e_n]; omega)) (by first | exact hI_R | exact band_R | exact bor_R | exact bshr_R | exact lcm_R | omega | (simp (disch := omega) only [e_n]; omega)) (fun hc => ?_) (fun hc => ?_)))))) <;> (try (simp (disch := omega) only [e_n] at hc ⊢)) <;> (first | (exfalso; omega) | skip)
      repeat' (first
        | exact hq
        | (show Rn _ _ 114 _ _ _; refine c_X4_isHere (by assumption) (by assumption) (by omega) (by omega) (fun _ _ => ?_) (fun _ => ?_))
        | (show Rn _ _ 109 _ _ _; refine c_X4_of ?_)
        | (show Rch _ _ _ _ _ 0 _ _ _; refine Rch.blk' (Rn_mono mt _) bl_X4_ofSide_0 (i_iconst k_0 (i_istore2 trivial (i_iconst k_0 (i_istore3 trivial (t_none ?_))))))
        | (show Rch _ _ _ _ _ 11 _ _ _; refine Rch.blk' (Rn_mono mt _) bl_X4_ofSide_11 (i_iload_n rfl (i_aload_n rfl (i_iload_n rfl (t_cs2 (Rn_mono mt _) 17 rfl (Nat.le_of_ble_eq_true rfl) ?_)))))
        | (show Rch _ _ _ _ _ 17 _ _ _; refine Rch.blk' (Rn_mono mt _) bl_X4_ofSide_17 (t_if_eq 37 20 rfl rfl (by first | exact hI_R | exact band_R | exact bor_R | exact bshr_R | exact lcm_R | omega) (fun hc => ?_) (fun hc => ?_)) <;> (first | (exfalso; omega) | skip))
        | (show Rch _ _ _ _ _ 20 _ _ _; refine Rch.blk' (Rn_mono mt _) bl_X4_ofSide_20 (i_aload_n rfl (i_iload_n rfl (i_iconst k_2 (t_cs2 (Rn_mono mt _) 26 rfl (Nat.le_of_ble_eq_true rfl) ?_)))))
        | (show Rch _ _ _ _ _ 26 _ _ _; refine Rch.blk' (Rn_mono mt _) bl_X4_ofSide_26 (i_iald rfl (by omega) (by simp only [aln]; omega) (by simp only [aln]; omega) (i_iload_n rfl (t_ic_ne 37 31 rfl rfl (by first | exact hI_R | exact band_R | exact bor_R | exact bshr_R | exact lcm_R | omega) (by first | exact hI_R | exact band_R | exact bor_R | exact bshr_R | exact lcm_R | omega) (fun hc => ?_) (fun hc => ?_)))) <;> (first | (exfalso; omega) | skip))
        | (show Rch _ _ _ _ _ 31 _ _ _; refine Rch.blk' (Rn_mono mt _) bl_X4_ofSide_31 (i_iconst k_1 (i_iload_n rfl (i_ishl (t_goto 38 rfl ?_)))))
        | (show Rch _ _ _ _ _ 37 _ _ _; refine Rch.blk' (Rn_mono mt _) bl_X4_ofSide_37 (i_iconst k_0 (t_none ?_)))
        | (show Rch _ _ _ _ _ 38 _ _ _; refine Rch.blk' (Rn_mono mt _) bl_X4_ofSide_38 (i_ior (i_istore2 trivial (i_iinc3 trivial k_1 (t_goto 4 rfl ?_)))))
        | (show Rch _ _ _ _ _ 46 _ _ _; refine Rch.blk' (Rn_mono mt _) bl_X4_ofSide_46 (i_iload_n rfl (t_iret ?_))))
  have key0 := key 0 (by omega) (by omega)
  rw [BT_0 (C := OC G s)] at key0
  repeat' (first
    | exact key0
    | (show Rn _ _ 114 _ _ _; refine c_X4_isHere (by assumption) (by assumption) (by omega) (by omega) (fun _ _ => ?_) (fun _ => ?_))
    | (show Rn _ _ 109 _ _ _; refine c_X4_of ?_)
    | (show Rch _ _ _ _ _ 0 _ _ _; refine Rch.blk' (Rn_mono mt _) bl_X4_ofSide_0 (i_iconst k_0 (i_istore2 trivial (i_iconst k_0 (i_istore3 trivial (t_none ?_))))))
    | (show Rch _ _ _ _ _ 11 _ _ _; refine Rch.blk' (Rn_mono mt _) bl_X4_ofSide_11 (i_iload_n rfl (i_aload_n rfl (i_iload_n rfl (t_cs2 (Rn_mono mt _) 17 rfl (Nat.le_of_ble_eq_true rfl) ?_)))))
    | (show Rch _ _ _ _ _ 17 _ _ _; refine Rch.blk' (Rn_mono mt _) bl_X4_ofSide_17 (t_if_eq 37 20 rfl rfl (by first | exact hI_R | exact band_R | exact bor_R | exact bshr_R | exact lcm_R | omega) (fun hc => ?_) (fun hc => ?_)) <;> (first | (exfalso; omega) | skip))
    | (show Rch _ _ _ _ _ 20 _ _ _; refine Rch.blk' (Rn_mono mt _) bl_X4_ofSide_20 (i_aload_n rfl (i_iload_n rfl (i_iconst k_2 (t_cs2 (Rn_mono mt _) 26 rfl (Nat.le_of_ble_eq_true rfl) ?_)))))
    | (show Rch _ _ _ _ _ 26 _ _ _; refine Rch.blk' (Rn_mono mt _) bl_X4_ofSide_26 (i_iald rfl (by omega) (by simp only [aln]; omega) (by simp only [aln]; omega) (i_iload_n rfl (t_ic_ne 37 31 rfl rfl (by first | exact hI_R | exact band_R | exact bor_R | exact bshr_R | exact lcm_R | omega) (by first | exact hI_R | exact band_R | exact bor_R | exact bshr_R | exact lcm_R | omega) (fun hc => ?_) (fun hc => ?_)))) <;> (first | (exfalso; omega) | skip))
    | (show Rch _ _ _ _ _ 31 _ _ _; refine Rch.blk' (Rn_mono mt _) bl_X4_ofSide_31 (i_iconst k_1 (i_iload_n rfl (i_ishl (t_goto 38 rfl ?_)))))
    | (show Rch _ _ _ _ _ 37 _ _ _; refine Rch.blk' (Rn_mono mt _) bl_X4_ofSide_37 (i_iconst k_0 (t_none ?_)))
    | (show Rch _ _ _ _ _ 38 _ _ _; refine Rch.blk' (Rn_mono mt _) bl_X4_ofSide_38 (i_ior (i_istore2 trivial (i_iinc3 trivial k_1 (t_goto 4 rfl ?_)))))
    | (show Rch _ _ _ _ _ 46 _ _ _; refine Rch.blk' (Rn_mono mt _) bl_X4_ofSide_46 (i_iload_n rfl (t_iret ?_))))
theorem c_X4_worthOf (hG : RR h b G M ra) (hO : OKB G) {P : Int → Prop} (hq : 0 ≤ WS G P → WS G P ≤ 90 → Q (some (ai (I (WS G P)))) h) : Rn mt (d + 3) 135 [ar 12 b, ai (I (BT P))] h Q := by
  refine Rn.intro iX4_worthOf rfl rfl ?_
  show Rch bX4_worthOf _ _ _ _ 0 [some (ar 12 b), some (ai (I (BT P))), none, none] [] _
  have e_n := hG.n
  have e_k := @RR.k _ _ _ _ _ hG
  have e_f := @RR.f _ _ _ _ _ hG
  have g_n := hO.n
  have hq := hq (WS_R hO).1 (WS_R hO).2
  have key : ∀ k : Int, k ≤ nn G → 0 ≤ k → RH bX4_worthOf (d + 2) Q 4 [some (ar 12 b), some (ai (I (BT P))), some (ai (I (SM (fun i => ifp (P i) (wo (kd G i) (fg G i)) 0) k))), some (ai (I k))] h := by
    refine up_ind (fun k hk ih hk0 => ?_)
    by_cases hk1 : k < nn G
    · have ih := ih hk1 (by omega)
      have g_k := hO.pc k hk0 hk1
      rw [SM_up hk0] at ih
      have ih1 : P k → RH bX4_worthOf (d + 2) Q 4 [some (ar 12 b), some (ai (I (BT P))), some (ai (I (SM (fun i => ifp (P i) (wo (kd G i) (fg G i)) 0) k + wo (kd G k) (fg G k)))), some (ai (I (k + 1)))] h := by
        intro hC; rw [ifp_p hC] at ih; exact ih
      have ih0 : ¬ P k → RH bX4_worthOf (d + 2) Q 4 [some (ar 12 b), some (ai (I (BT P))), some (ai (I (SM (fun i => ifp (P i) (wo (kd G i) (fg G i)) 0) k + 0))), some (ai (I (k + 1)))] h := by
        intro hC; rw [ifp_n hC] at ih; exact ih
      clear ih
      refine Rch.blk' (Rn_mono mt _) bl_X4_worthOf_4 (i_iload_n rfl (i_aload_n rfl (i_iconst k_0 (i_iald (n := 46) rfl (by first | omega | (simp (disch := omega) only [e_n]; omega)) (by first | omega | (simp (disch := omega) only [e_n]; omega)) (by first | omega | (simp (disch := omega) only [e_n]; omega)) (t_ic_ge 49 11 rfl rfl (by first | exact hI_R | exact band_R | exact bor_R | exact bshr_R | exact lcm_R | omega | (simp (disch := omega) only [e_n]; omega)) (by first | exact hI_R | exact band_R | exact bor_R | exact bshr_R | exact lcm_R | omega | (simp (disch := omega) only [e_n]; omega)) (fun hc => ?_) (fun hc => ?_)))))) <;> (try (simp (disch := omega) only [e_n] at hc ⊢)) <;> (first | (exfalso; omega) | skip)
      repeat' (first
        | exact ih1 (by assumption)
        | exact ih0 (by assumption)
        | (show Rn _ _ 115 _ _ _; refine c_X4_has (by omega) (by omega) (fun _ => ?_) (fun _ => ?_))
        | (show Rn _ _ 109 _ _ _; refine c_X4_of ?_)
        | (show Rn _ _ 130 _ _ _; refine c_X4_worthBy (by first | omega | exact hI_R) (by omega) (by omega) (fun _ _ => ?_))
        | (show Rch _ _ _ _ _ 0 _ _ _; refine Rch.blk' (Rn_mono mt _) bl_X4_worthOf_0 (i_iconst k_0 (i_istore2 trivial (i_iconst k_0 (i_istore3 trivial (t_none ?_))))))
        | (show Rch _ _ _ _ _ 11 _ _ _; refine Rch.blk' (Rn_mono mt _) bl_X4_worthOf_11 (i_iload_n rfl (i_iload_n rfl (i_iload_n rfl (t_cs2 (Rn_mono mt _) 17 rfl (Nat.le_of_ble_eq_true rfl) ?_)))))
        | (show Rch _ _ _ _ _ 17 _ _ _; refine Rch.blk' (Rn_mono mt _) bl_X4_worthOf_17 (t_if_eq 40 20 rfl rfl (by first | exact hI_R | exact band_R | exact bor_R | exact bshr_R | exact lcm_R | omega | (simp (disch := omega) only [e_k, e_f]; omega)) (fun hc => ?_) (fun hc => ?_)) <;> (first | (exfalso; omega) | skip))
        | (show Rch _ _ _ _ _ 20 _ _ _; refine Rch.blk' (Rn_mono mt _) bl_X4_worthOf_20 (i_aload_n rfl (i_iload_n rfl (i_iconst k_0 (t_cs2 (Rn_mono mt _) 26 rfl (Nat.le_of_ble_eq_true rfl) ?_)))))
        | (show Rch _ _ _ _ _ 26 _ _ _; refine Rch.blk' (Rn_mono mt _) bl_X4_worthOf_26 (i_iald rfl (by first | omega | (simp (disch := omega) only [e_k, e_f]; omega)) (by simp only [aln]; omega) (by simp only [aln]; omega) (i_aload_n rfl (i_iload_n rfl (i_iconst k_1 (t_cs2 (Rn_mono mt _) 33 rfl (Nat.le_of_ble_eq_true rfl) ?_))))) <;> (try (simp (disch := omega) only [e_k, e_f])))
        | (show Rch _ _ _ _ _ 33 _ _ _; refine Rch.blk' (Rn_mono mt _) bl_X4_worthOf_33 (i_iald rfl (by first | omega | (simp (disch := omega) only [e_k, e_f]; omega)) (by simp only [aln]; omega) (by simp only [aln]; omega) (t_cs2 (Rn_mono mt _) 37 rfl (Nat.le_of_ble_eq_true rfl) ?_)) <;> (try (simp (disch := omega) only [e_k, e_f])))
        | (show Rch _ _ _ _ _ 37 _ _ _; refine Rch.blk' (Rn_mono mt _) bl_X4_worthOf_37 (t_goto 41 rfl ?_))
        | (show Rch _ _ _ _ _ 40 _ _ _; refine Rch.blk' (Rn_mono mt _) bl_X4_worthOf_40 (i_iconst k_0 (t_none ?_)))
        | (show Rch _ _ _ _ _ 41 _ _ _; refine Rch.blk' (Rn_mono mt _) bl_X4_worthOf_41 (i_iadd (i_istore2 trivial (i_iinc3 trivial k_1 (t_goto 4 rfl ?_)))))
        | (show Rch _ _ _ _ _ 49 _ _ _; refine Rch.blk' (Rn_mono mt _) bl_X4_worthOf_49 (i_iload_n rfl (t_iret ?_))))
    · obtain rfl : k = nn G := by omega
      refine Rch.blk' (Rn_mono mt _) bl_X4_worthOf_4 (i_iload_n rfl (i_aload_n rfl (i_iconst k_0 (i_iald (n := 46) rfl (by first | omega | (simp (disch := omega) only [e_n]; omega)) (by first | omega | (simp (disch := omega) only [e_n]; omega)) (by first | omega | (simp (disch := omega) only [e_n]; omega)) (t_ic_ge 49 11 rfl rfl (by first | exact hI_R | exact band_R | exact bor_R | exact bshr_R | exact lcm_R | omega | (simp (disch := omega) only [e_n]; omega)) (by first | exact hI_R | exact band_R | exact bor_R | exact bshr_R | exact lcm_R | omega | (simp (disch := omega) only [e_n]; omega)) (fun hc => ?_) (fun hc => ?_)))))) <;> (try (simp (disch := omega) only [e_n] at hc ⊢)) <;> (first | (exfalso; omega) | skip)
      repeat' (first
        | exact hq
        | (show Rn _ _ 115 _ _ _; refine c_X4_has (by omega) (by omega) (fun _ => ?_) (fun _ => ?_))
        | (show Rn _ _ 109 _ _ _; refine c_X4_of ?_)
        | (show Rn _ _ 130 _ _ _; refine c_X4_worthBy (by first | omega | exact hI_R) (by omega) (by omega) (fun _ _ => ?_))
        | (show Rch _ _ _ _ _ 0 _ _ _; refine Rch.blk' (Rn_mono mt _) bl_X4_worthOf_0 (i_iconst k_0 (i_istore2 trivial (i_iconst k_0 (i_istore3 trivial (t_none ?_))))))
        | (show Rch _ _ _ _ _ 11 _ _ _; refine Rch.blk' (Rn_mono mt _) bl_X4_worthOf_11 (i_iload_n rfl (i_iload_n rfl (i_iload_n rfl (t_cs2 (Rn_mono mt _) 17 rfl (Nat.le_of_ble_eq_true rfl) ?_)))))
        | (show Rch _ _ _ _ _ 17 _ _ _; refine Rch.blk' (Rn_mono mt _) bl_X4_worthOf_17 (t_if_eq 40 20 rfl rfl (by first | exact hI_R | exact band_R | exact bor_R | exact bshr_R | exact lcm_R | omega) (fun hc => ?_) (fun hc => ?_)) <;> (first | (exfalso; omega) | skip))
        | (show Rch _ _ _ _ _ 20 _ _ _; refine Rch.blk' (Rn_mono mt _) bl_X4_worthOf_20 (i_aload_n rfl (i_iload_n rfl (i_iconst k_0 (t_cs2 (Rn_mono mt _) 26 rfl (Nat.le_of_ble_eq_true rfl) ?_)))))
        | (show Rch _ _ _ _ _ 26 _ _ _; refine Rch.blk' (Rn_mono mt _) bl_X4_worthOf_26 (i_iald rfl (by omega) (by simp only [aln]; omega) (by simp only [aln]; omega) (i_aload_n rfl (i_iload_n rfl (i_iconst k_1 (t_cs2 (Rn_mono mt _) 33 rfl (Nat.le_of_ble_eq_true rfl) ?_))))))
        | (show Rch _ _ _ _ _ 33 _ _ _; refine Rch.blk' (Rn_mono mt _) bl_X4_worthOf_33 (i_iald rfl (by omega) (by simp only [aln]; omega) (by simp only [aln]; omega) (t_cs2 (Rn_mono mt _) 37 rfl (Nat.le_of_ble_eq_true rfl) ?_)))
        | (show Rch _ _ _ _ _ 37 _ _ _; refine Rch.blk' (Rn_mono mt _) bl_X4_worthOf_37 (t_goto 41 rfl ?_))
        | (show Rch _ _ _ _ _ 40 _ _ _; refine Rch.blk' (Rn_mono mt _) bl_X4_worthOf_40 (i_iconst k_0 (t_none ?_)))
        | (show Rch _ _ _ _ _ 41 _ _ _; refine Rch.blk' (Rn_mono mt _) bl_X4_worthOf_41 (i_iadd (i_istore2 trivial (i_iinc3 trivial k_1 (t_goto 4 rfl ?_)))))
        | (show Rch _ _ _ _ _ 49 _ _ _; refine Rch.blk' (Rn_mono mt _) bl_X4_worthOf_49 (i_iload_n rfl (t_iret ?_))))
  repeat' (first
    | exact key 0 (by omega) (by omega)
    | (show Rn _ _ 115 _ _ _; refine c_X4_has (by omega) (by omega) (fun _ => ?_) (fun _ => ?_))
    | (show Rn _ _ 109 _ _ _; refine c_X4_of ?_)
    | (show Rn _ _ 130 _ _ _; refine c_X4_worthBy (by first | omega | exact hI_R) (by omega) (by omega) (fun _ _ => ?_))
    | (show Rch _ _ _ _ _ 0 _ _ _; refine Rch.blk' (Rn_mono mt _) bl_X4_worthOf_0 (i_iconst k_0 (i_istore2 trivial (i_iconst k_0 (i_istore3 trivial (t_none ?_))))))
    | (show Rch _ _ _ _ _ 11 _ _ _; refine Rch.blk' (Rn_mono mt _) bl_X4_worthOf_11 (i_iload_n rfl (i_iload_n rfl (i_iload_n rfl (t_cs2 (Rn_mono mt _) 17 rfl (Nat.le_of_ble_eq_true rfl) ?_)))))
    | (show Rch _ _ _ _ _ 17 _ _ _; refine Rch.blk' (Rn_mono mt _) bl_X4_worthOf_17 (t_if_eq 40 20 rfl rfl (by first | exact hI_R | exact band_R | exact bor_R | exact bshr_R | exact lcm_R | omega) (fun hc => ?_) (fun hc => ?_)) <;> (first | (exfalso; omega) | skip))
    | (show Rch _ _ _ _ _ 20 _ _ _; refine Rch.blk' (Rn_mono mt _) bl_X4_worthOf_20 (i_aload_n rfl (i_iload_n rfl (i_iconst k_0 (t_cs2 (Rn_mono mt _) 26 rfl (Nat.le_of_ble_eq_true rfl) ?_)))))
    | (show Rch _ _ _ _ _ 26 _ _ _; refine Rch.blk' (Rn_mono mt _) bl_X4_worthOf_26 (i_iald rfl (by omega) (by simp only [aln]; omega) (by simp only [aln]; omega) (i_aload_n rfl (i_iload_n rfl (i_iconst k_1 (t_cs2 (Rn_mono mt _) 33 rfl (Nat.le_of_ble_eq_true rfl) ?_))))))
    | (show Rch _ _ _ _ _ 33 _ _ _; refine Rch.blk' (Rn_mono mt _) bl_X4_worthOf_33 (i_iald rfl (by omega) (by simp only [aln]; omega) (by simp only [aln]; omega) (t_cs2 (Rn_mono mt _) 37 rfl (Nat.le_of_ble_eq_true rfl) ?_)))
    | (show Rch _ _ _ _ _ 37 _ _ _; refine Rch.blk' (Rn_mono mt _) bl_X4_worthOf_37 (t_goto 41 rfl ?_))
    | (show Rch _ _ _ _ _ 40 _ _ _; refine Rch.blk' (Rn_mono mt _) bl_X4_worthOf_40 (i_iconst k_0 (t_none ?_)))
    | (show Rch _ _ _ _ _ 41 _ _ _; refine Rch.blk' (Rn_mono mt _) bl_X4_worthOf_41 (i_iadd (i_istore2 trivial (i_iinc3 trivial k_1 (t_goto 4 rfl ?_)))))
    | (show Rch _ _ _ _ _ 49 _ _ _; refine Rch.blk' (Rn_mono mt _) bl_X4_worthOf_49 (i_iload_n rfl (t_iret ?_))))
theorem c_X4_goesOn (hG : RR h b G M ra) (hO : OKB G) (hra : ra = 0 ∨ ra = 1) {y : Int} (h4 : 0 ≤ y) (h5 : y < 1000000) (hq : ∀ v, v = goer G M ra y → (v = -4 ∨ (0 ≤ v ∧ v < nn G)) → Q (some (ai (I v))) h) : Rn mt (d + 6) 136 [ar 12 b, ai (I y)] h Q := by
  refine Rn.intro iX4_goesOn rfl rfl ?_
  show Rch bX4_goesOn _ _ _ _ 0 [some (ar 12 b), some (ai (I y)), none, none, none] [] _
  have e_n := hG.n
  have e_t := hG.t
  have g_n := hO.n
  have g_t := hO.2.1
  have key : ∀ k : Int, k ≤ nn G → 0 ≤ k → RH bX4_goesOn (d + 5) Q 14 [some (ar 12 b), some (ai (I y)), some (ai (I (GB (cand G M y) (NH G ra) k))), some (ai (I (BT (OS G (tn G))))), some (ai (I k))] h := by
    refine up_ind (fun k hk ih hk0 => ?_)
    have g_g := GB_R (C := cand G M y) (w := NH G ra) k hk0
    have g_gs : 0 ≤ GB (cand G M y) (NH G ra) k → GB (cand G M y) (NH G ra) k < k ∧ sq G (GB (cand G M y) (NH G ra) k) < 36 := fun z => by
      rcases g_g with e | ⟨-, e1, e2⟩
      · omega
      · exact ⟨e1, e2.2.1⟩
    have g_g : GB (cand G M y) (NH G ra) k = -4 ∨ (0 ≤ GB (cand G M y) (NH G ra) k ∧ GB (cand G M y) (NH G ra) k < k) := by omega
    have g_w1 : 0 ≤ cnt (HS G ra (GB (cand G M y) (NH G ra) k)) 10 ∧ cnt (HS G ra (GB (cand G M y) (NH G ra) k)) 10 ≤ 10 := cnt_R (by omega)
    by_cases hk1 : k < nn G
    · have ih := ih hk1 (by omega)
      rw [GB_up hk0] at ih
      have g_i := @ide_R G k y
      have g_w2 : 0 ≤ cnt (HS G ra k) 10 ∧ cnt (HS G ra k) 10 ≤ 10 := cnt_R (by omega)
      have ih1 : ∀ _u : Unit, OS G (tn G) k → ¬ M k → ¬ ide G k y = -4 → (GB (cand G M y) (NH G ra) k < 0 ∨ cnt (HS G ra (GB (cand G M y) (NH G ra) k)) 10 < cnt (HS G ra k) 10) → RH bX4_goesOn (d + 5) Q 14 [some (ar 12 b), some (ai (I y)), some (ai (I k)), some (ai (I (BT (OS G (tn G))))), some (ai (I (k + 1)))] h := by
        intro _ c1 c2 c3 c4
        rw [ifp_p ⟨⟨c1.2.1, c1.2.2, c2, c3⟩, c4⟩] at ih
        exact ih
      have ih0 : ∀ _u : Unit, ¬ (OS G (tn G) k ∧ ¬ M k ∧ ¬ ide G k y = -4 ∧ (GB (cand G M y) (NH G ra) k < 0 ∨ cnt (HS G ra (GB (cand G M y) (NH G ra) k)) 10 < cnt (HS G ra k) 10)) → RH bX4_goesOn (d + 5) Q 14 [some (ar 12 b), some (ai (I y)), some (ai (I (GB (cand G M y) (NH G ra) k))), some (ai (I (BT (OS G (tn G))))), some (ai (I (k + 1)))] h := by
        intro _ c1
        rw [ifp_n (fun q => c1 ⟨⟨hk1, q.1.1, q.1.2.1⟩, q.1.2.2.1, q.1.2.2.2, q.2⟩)] at ih
        exact ih
      have hosq : OS G (tn G) k → sq G k < 36 := fun q => q.2.2
      clear ih
      refine Rch.blk' (Rn_mono mt _) bl_X4_goesOn_14 (i_iload rfl (i_aload_n rfl (i_iconst k_0 (i_iald (n := 46) rfl (by first | omega | (simp (disch := omega) only [e_n]; omega)) (by first | omega | (simp (disch := omega) only [e_n]; omega)) (by first | omega | (simp (disch := omega) only [e_n]; omega)) (t_ic_ge 74 22 rfl rfl (by first | exact hI_R | exact band_R | exact bor_R | exact bshr_R | exact lcm_R | omega | (simp (disch := omega) only [e_n]; omega)) (by first | exact hI_R | exact band_R | exact bor_R | exact bshr_R | exact lcm_R | omega | (simp (disch := omega) only [e_n]; omega)) (fun hc => ?_) (fun hc => ?_)))))) <;> (try (simp (disch := omega) only [e_n] at hc ⊢)) <;> (first | (exfalso; omega) | skip)
      repeat' (first
        | exact ih1 () (by assumption) (by assumption) (by omega) (by omega)
        | exact ih0 () (fun q => absurd q.1 (by assumption))
        | exact ih0 () (fun q => by have := hosq q.1; rcases ‹sq G k = 36 ∨ M k› with z | z; omega; exact q.2.1 z)
        | exact ih0 () (fun q => by have := q.2.2.1; have := q.2.2.2; omega)
        | (show Rn _ _ 134 _ _ _; refine c_X4_ofSide (by assumption) (by assumption) (by first | omega | exact hI_R) ?_)
        | (show Rn _ _ 115 _ _ _; refine c_X4_has (by omega) (by omega) (fun _ => ?_) (fun _ => ?_))
        | (show Rn _ _ 128 _ _ _; refine c_X4_idea (by assumption) (by assumption) (by omega) (by omega) (by omega) (by omega) (fun _ _ _ _ _ _ => ?_) (fun _ => ?_))
        | (show Rn _ _ 132 _ _ _; refine c_X4_heardBy (by assumption) (by assumption) (by omega) (by omega) (by omega) (by omega) ?_)
        | (show Rn _ _ 116 _ _ _; refine c_X4_bits (fun _ _ => ?_))
        | (show Rch _ _ _ _ _ 0 _ _ _; refine Rch.blk' (Rn_mono mt _) bl_X4_goesOn_0 (i_bipush k_m4 (i_istore2 trivial (i_aload_n rfl (i_aload_n rfl (i_iconst k_2 (i_iald (n := 46) rfl (by first | omega | (simp (disch := omega) only [e_t]; omega)) (by first | omega | (simp (disch := omega) only [e_t]; omega)) (by first | omega | (simp (disch := omega) only [e_t]; omega)) (t_cs2 (Rn_mono mt _) 10 rfl (Nat.le_of_ble_eq_true rfl) ?_))))))) <;> (try (simp (disch := omega) only [e_t])))
        | (show Rch _ _ _ _ _ 10 _ _ _; refine Rch.blk' (Rn_mono mt _) bl_X4_goesOn_10 (i_istore3 trivial (i_iconst k_0 (i_istore4 trivial (t_none ?_)))))
        | (show Rch _ _ _ _ _ 22 _ _ _; refine Rch.blk' (Rn_mono mt _) bl_X4_goesOn_22 (i_iload_n rfl (i_iload rfl (t_cs2 (Rn_mono mt _) 28 rfl (Nat.le_of_ble_eq_true rfl) ?_))))
        | (show Rch _ _ _ _ _ 28 _ _ _; refine Rch.blk' (Rn_mono mt _) bl_X4_goesOn_28 (t_if_eq 68 31 rfl rfl (by first | exact hI_R | exact band_R | exact bor_R | exact bshr_R | exact lcm_R | omega | (simp (disch := omega) only [e_t]; omega)) (fun hc => ?_) (fun hc => ?_)) <;> (first | (exfalso; omega) | skip))
        | (show Rch _ _ _ _ _ 31 _ _ _; refine Rch.blk' (Rn_mono mt _) bl_X4_goesOn_31 (i_aload_n rfl (i_iload rfl (i_iload_n rfl (t_cs3 (Rn_mono mt _) 38 rfl (Nat.le_of_ble_eq_true rfl) ?_)))))
        | (show Rch _ _ _ _ _ 38 _ _ _; refine Rch.blk' (Rn_mono mt _) bl_X4_goesOn_38 (t_if_lt 68 41 rfl rfl (by first | exact hI_R | exact band_R | exact bor_R | exact bshr_R | exact lcm_R | omega | (simp (disch := omega) only [e_t]; omega)) (fun hc => ?_) (fun hc => ?_)) <;> (first | (exfalso; omega) | skip))
        | (show Rch _ _ _ _ _ 41 _ _ _; refine Rch.blk' (Rn_mono mt _) bl_X4_goesOn_41 (i_iload_n rfl (t_if_lt 65 45 rfl rfl (by first | exact hI_R | exact band_R | exact bor_R | exact bshr_R | exact lcm_R | omega | (simp (disch := omega) only [e_t]; omega)) (fun hc => ?_) (fun hc => ?_))) <;> (first | (exfalso; omega) | skip))
        | (show Rch _ _ _ _ _ 45 _ _ _; refine Rch.blk' (Rn_mono mt _) bl_X4_goesOn_45 (i_aload_n rfl (i_iload rfl (t_cs2 (Rn_mono mt _) 51 rfl (Nat.le_of_ble_eq_true rfl) ?_))))
        | (show Rch _ _ _ _ _ 51 _ _ _; refine Rch.blk' (Rn_mono mt _) bl_X4_goesOn_51 (t_cs1 (Rn_mono mt _) 54 rfl (Nat.le_of_ble_eq_true rfl) ?_))
        | (show Rch _ _ _ _ _ 54 _ _ _; refine Rch.blk' (Rn_mono mt _) bl_X4_goesOn_54 (i_aload_n rfl (i_iload_n rfl (t_cs2 (Rn_mono mt _) 59 rfl (Nat.le_of_ble_eq_true rfl) ?_))))
        | (show Rch _ _ _ _ _ 59 _ _ _; refine Rch.blk' (Rn_mono mt _) bl_X4_goesOn_59 (t_cs1 (Rn_mono mt _) 62 rfl (Nat.le_of_ble_eq_true rfl) ?_))
        | (show Rch _ _ _ _ _ 62 _ _ _; refine Rch.blk' (Rn_mono mt _) bl_X4_goesOn_62 (t_ic_le 68 65 rfl rfl (by first | exact hI_R | exact band_R | exact bor_R | exact bshr_R | exact lcm_R | omega | (simp (disch := omega) only [e_t]; omega)) (by first | exact hI_R | exact band_R | exact bor_R | exact bshr_R | exact lcm_R | omega | (simp (disch := omega) only [e_t]; omega)) (fun hc => ?_) (fun hc => ?_)) <;> (first | (exfalso; omega) | skip))
        | (show Rch _ _ _ _ _ 65 _ _ _; refine Rch.blk' (Rn_mono mt _) bl_X4_goesOn_65 (i_iload rfl (i_istore2 trivial (t_none ?_))))
        | (show Rch _ _ _ _ _ 68 _ _ _; refine Rch.blk' (Rn_mono mt _) bl_X4_goesOn_68 (i_iinc4 trivial k_1 (t_goto 14 rfl ?_)))
        | (show Rch _ _ _ _ _ 74 _ _ _; refine Rch.blk' (Rn_mono mt _) bl_X4_goesOn_74 (i_iload_n rfl (t_if_lt 99 78 rfl rfl (by first | exact hI_R | exact band_R | exact bor_R | exact bshr_R | exact lcm_R | omega | (simp (disch := omega) only [e_t]; omega)) (fun hc => ?_) (fun hc => ?_))) <;> (first | (exfalso; omega) | skip))
        | (show Rch _ _ _ _ _ 78 _ _ _; refine Rch.blk' (Rn_mono mt _) bl_X4_goesOn_78 (i_iconst k_2 (i_aload_n rfl (i_iload_n rfl (t_cs2 (Rn_mono mt _) 84 rfl (Nat.le_of_ble_eq_true rfl) ?_)))))
        | (show Rch _ _ _ _ _ 84 _ _ _; refine Rch.blk' (Rn_mono mt _) bl_X4_goesOn_84 (t_cs1 (Rn_mono mt _) 87 rfl (Nat.le_of_ble_eq_true rfl) ?_))
        | (show Rch _ _ _ _ _ 87 _ _ _; refine Rch.blk' (Rn_mono mt _) bl_X4_goesOn_87 (i_imul (i_iload_n rfl (t_cs1 (Rn_mono mt _) 92 rfl (Nat.le_of_ble_eq_true rfl) ?_))))
        | (show Rch _ _ _ _ _ 92 _ _ _; refine Rch.blk' (Rn_mono mt _) bl_X4_goesOn_92 (t_ic_le 99 95 rfl rfl (by first | exact hI_R | exact band_R | exact bor_R | exact bshr_R | exact lcm_R | omega | (simp (disch := omega) only [e_t]; omega)) (by first | exact hI_R | exact band_R | exact bor_R | exact bshr_R | exact lcm_R | omega | (simp (disch := omega) only [e_t]; omega)) (fun hc => ?_) (fun hc => ?_)) <;> (first | (exfalso; omega) | skip))
        | (show Rch _ _ _ _ _ 95 _ _ _; refine Rch.blk' (Rn_mono mt _) bl_X4_goesOn_95 (i_iload_n rfl (t_goto 101 rfl ?_)))
        | (show Rch _ _ _ _ _ 99 _ _ _; refine Rch.blk' (Rn_mono mt _) bl_X4_goesOn_99 (i_bipush k_m4 (t_none ?_)))
        | (show Rch _ _ _ _ _ 101 _ _ _; refine Rch.blk' (Rn_mono mt _) bl_X4_goesOn_101 (t_iret ?_)))
    · obtain rfl : k = nn G := by omega
      have g_c := CT_R hO (tn G)
      have q1 : ∀ _u : Unit, 0 ≤ GB (cand G M y) (NH G ra) (nn G) → cnt (OS G (tn G)) 10 < 2 * cnt (HS G ra (GB (cand G M y) (NH G ra) (nn G))) 10 → GB (cand G M y) (NH G ra) (nn G) = goer G M ra y := by
        intro _ h9 hh
        rw [OS_cnt hO] at hh
        unfold goer
        rw [if_pos ⟨h9, hh⟩]
      have q0 : ∀ _u : Unit, ¬ (0 ≤ GB (cand G M y) (NH G ra) (nn G) ∧ cnt (OS G (tn G)) 10 < 2 * cnt (HS G ra (GB (cand G M y) (NH G ra) (nn G))) 10) → -4 = goer G M ra y := by
        intro _ hh
        rw [OS_cnt hO] at hh
        exact (if_neg hh).symm
      refine Rch.blk' (Rn_mono mt _) bl_X4_goesOn_14 (i_iload rfl (i_aload_n rfl (i_iconst k_0 (i_iald (n := 46) rfl (by first | omega | (simp (disch := omega) only [e_n]; omega)) (by first | omega | (simp (disch := omega) only [e_n]; omega)) (by first | omega | (simp (disch := omega) only [e_n]; omega)) (t_ic_ge 74 22 rfl rfl (by first | exact hI_R | exact band_R | exact bor_R | exact bshr_R | exact lcm_R | omega | (simp (disch := omega) only [e_n]; omega)) (by first | exact hI_R | exact band_R | exact bor_R | exact bshr_R | exact lcm_R | omega | (simp (disch := omega) only [e_n]; omega)) (fun hc => ?_) (fun hc => ?_)))))) <;> (try (simp (disch := omega) only [e_n] at hc ⊢)) <;> (first | (exfalso; omega) | skip)
      repeat' (first
        | exact hq _ (q1 () (by omega) (by omega)) (by omega)
        | exact hq _ (q0 () (by omega)) (by omega)
        | (show Rn _ _ 134 _ _ _; refine c_X4_ofSide (by assumption) (by assumption) (by first | omega | exact hI_R) ?_)
        | (show Rn _ _ 115 _ _ _; refine c_X4_has (by omega) (by omega) (fun _ => ?_) (fun _ => ?_))
        | (show Rn _ _ 128 _ _ _; refine c_X4_idea (by assumption) (by assumption) (by omega) (by omega) (by omega) (by omega) (fun _ _ _ _ _ _ => ?_) (fun _ => ?_))
        | (show Rn _ _ 132 _ _ _; refine c_X4_heardBy (by assumption) (by assumption) (by omega) (by omega) (by omega) (by omega) ?_)
        | (show Rn _ _ 116 _ _ _; refine c_X4_bits (fun _ _ => ?_))
        | (show Rch _ _ _ _ _ 0 _ _ _; refine Rch.blk' (Rn_mono mt _) bl_X4_goesOn_0 (i_bipush k_m4 (i_istore2 trivial (i_aload_n rfl (i_aload_n rfl (i_iconst k_2 (i_iald (n := 46) rfl (by first | omega | (simp (disch := omega) only [e_t]; omega)) (by first | omega | (simp (disch := omega) only [e_t]; omega)) (by first | omega | (simp (disch := omega) only [e_t]; omega)) (t_cs2 (Rn_mono mt _) 10 rfl (Nat.le_of_ble_eq_true rfl) ?_))))))) <;> (try (simp (disch := omega) only [e_t])))
        | (show Rch _ _ _ _ _ 10 _ _ _; refine Rch.blk' (Rn_mono mt _) bl_X4_goesOn_10 (i_istore3 trivial (i_iconst k_0 (i_istore4 trivial (t_none ?_)))))
        | (show Rch _ _ _ _ _ 22 _ _ _; refine Rch.blk' (Rn_mono mt _) bl_X4_goesOn_22 (i_iload_n rfl (i_iload rfl (t_cs2 (Rn_mono mt _) 28 rfl (Nat.le_of_ble_eq_true rfl) ?_))))
        | (show Rch _ _ _ _ _ 28 _ _ _; refine Rch.blk' (Rn_mono mt _) bl_X4_goesOn_28 (t_if_eq 68 31 rfl rfl (by first | exact hI_R | exact band_R | exact bor_R | exact bshr_R | exact lcm_R | omega | (simp (disch := omega) only [e_t]; omega)) (fun hc => ?_) (fun hc => ?_)) <;> (first | (exfalso; omega) | skip))
        | (show Rch _ _ _ _ _ 31 _ _ _; refine Rch.blk' (Rn_mono mt _) bl_X4_goesOn_31 (i_aload_n rfl (i_iload rfl (i_iload_n rfl (t_cs3 (Rn_mono mt _) 38 rfl (Nat.le_of_ble_eq_true rfl) ?_)))))
        | (show Rch _ _ _ _ _ 38 _ _ _; refine Rch.blk' (Rn_mono mt _) bl_X4_goesOn_38 (t_if_lt 68 41 rfl rfl (by first | exact hI_R | exact band_R | exact bor_R | exact bshr_R | exact lcm_R | omega | (simp (disch := omega) only [e_t]; omega)) (fun hc => ?_) (fun hc => ?_)) <;> (first | (exfalso; omega) | skip))
        | (show Rch _ _ _ _ _ 41 _ _ _; refine Rch.blk' (Rn_mono mt _) bl_X4_goesOn_41 (i_iload_n rfl (t_if_lt 65 45 rfl rfl (by first | exact hI_R | exact band_R | exact bor_R | exact bshr_R | exact lcm_R | omega | (simp (disch := omega) only [e_t]; omega)) (fun hc => ?_) (fun hc => ?_))) <;> (first | (exfalso; omega) | skip))
        | (show Rch _ _ _ _ _ 45 _ _ _; refine Rch.blk' (Rn_mono mt _) bl_X4_goesOn_45 (i_aload_n rfl (i_iload rfl (t_cs2 (Rn_mono mt _) 51 rfl (Nat.le_of_ble_eq_true rfl) ?_))))
        | (show Rch _ _ _ _ _ 51 _ _ _; refine Rch.blk' (Rn_mono mt _) bl_X4_goesOn_51 (t_cs1 (Rn_mono mt _) 54 rfl (Nat.le_of_ble_eq_true rfl) ?_))
        | (show Rch _ _ _ _ _ 54 _ _ _; refine Rch.blk' (Rn_mono mt _) bl_X4_goesOn_54 (i_aload_n rfl (i_iload_n rfl (t_cs2 (Rn_mono mt _) 59 rfl (Nat.le_of_ble_eq_true rfl) ?_))))
        | (show Rch _ _ _ _ _ 59 _ _ _; refine Rch.blk' (Rn_mono mt _) bl_X4_goesOn_59 (t_cs1 (Rn_mono mt _) 62 rfl (Nat.le_of_ble_eq_true rfl) ?_))
        | (show Rch _ _ _ _ _ 62 _ _ _; refine Rch.blk' (Rn_mono mt _) bl_X4_goesOn_62 (t_ic_le 68 65 rfl rfl (by first | exact hI_R | exact band_R | exact bor_R | exact bshr_R | exact lcm_R | omega | (simp (disch := omega) only [e_t]; omega)) (by first | exact hI_R | exact band_R | exact bor_R | exact bshr_R | exact lcm_R | omega | (simp (disch := omega) only [e_t]; omega)) (fun hc => ?_) (fun hc => ?_)) <;> (first | (exfalso; omega) | skip))
        | (show Rch _ _ _ _ _ 65 _ _ _; refine Rch.blk' (Rn_mono mt _) bl_X4_goesOn_65 (i_iload rfl (i_istore2 trivial (t_none ?_))))
        | (show Rch _ _ _ _ _ 68 _ _ _; refine Rch.blk' (Rn_mono mt _) bl_X4_goesOn_68 (i_iinc4 trivial k_1 (t_goto 14 rfl ?_)))
        | (show Rch _ _ _ _ _ 74 _ _ _; refine Rch.blk' (Rn_mono mt _) bl_X4_goesOn_74 (i_iload_n rfl (t_if_lt 99 78 rfl rfl (by first | exact hI_R | exact band_R | exact bor_R | exact bshr_R | exact lcm_R | omega | (simp (disch := omega) only [e_t]; omega)) (fun hc => ?_) (fun hc => ?_))) <;> (first | (exfalso; omega) | skip))
        | (show Rch _ _ _ _ _ 78 _ _ _; refine Rch.blk' (Rn_mono mt _) bl_X4_goesOn_78 (i_iconst k_2 (i_aload_n rfl (i_iload_n rfl (t_cs2 (Rn_mono mt _) 84 rfl (Nat.le_of_ble_eq_true rfl) ?_)))))
        | (show Rch _ _ _ _ _ 84 _ _ _; refine Rch.blk' (Rn_mono mt _) bl_X4_goesOn_84 (t_cs1 (Rn_mono mt _) 87 rfl (Nat.le_of_ble_eq_true rfl) ?_))
        | (show Rch _ _ _ _ _ 87 _ _ _; refine Rch.blk' (Rn_mono mt _) bl_X4_goesOn_87 (i_imul (i_iload_n rfl (t_cs1 (Rn_mono mt _) 92 rfl (Nat.le_of_ble_eq_true rfl) ?_))))
        | (show Rch _ _ _ _ _ 92 _ _ _; refine Rch.blk' (Rn_mono mt _) bl_X4_goesOn_92 (t_ic_le 99 95 rfl rfl (by first | exact hI_R | exact band_R | exact bor_R | exact bshr_R | exact lcm_R | omega | (simp (disch := omega) only [e_t]; omega)) (by first | exact hI_R | exact band_R | exact bor_R | exact bshr_R | exact lcm_R | omega | (simp (disch := omega) only [e_t]; omega)) (fun hc => ?_) (fun hc => ?_)) <;> (first | (exfalso; omega) | skip))
        | (show Rch _ _ _ _ _ 95 _ _ _; refine Rch.blk' (Rn_mono mt _) bl_X4_goesOn_95 (i_iload_n rfl (t_goto 101 rfl ?_)))
        | (show Rch _ _ _ _ _ 99 _ _ _; refine Rch.blk' (Rn_mono mt _) bl_X4_goesOn_99 (i_bipush k_m4 (t_none ?_)))
        | (show Rch _ _ _ _ _ 101 _ _ _; refine Rch.blk' (Rn_mono mt _) bl_X4_goesOn_101 (t_iret ?_)))
  repeat' (first
    | exact key 0 (by omega) (by omega)
    | (show Rn _ _ 134 _ _ _; refine c_X4_ofSide (by assumption) (by assumption) (by first | omega | exact hI_R) ?_)
    | (show Rn _ _ 115 _ _ _; refine c_X4_has (by omega) (by omega) (fun _ => ?_) (fun _ => ?_))
    | (show Rn _ _ 128 _ _ _; refine c_X4_idea (by assumption) (by assumption) (by omega) (by omega) (by omega) (by omega) (fun _ _ _ _ _ _ => ?_) (fun _ => ?_))
    | (show Rn _ _ 132 _ _ _; refine c_X4_heardBy (by assumption) (by assumption) (by omega) (by omega) (by omega) (by omega) ?_)
    | (show Rn _ _ 116 _ _ _; refine c_X4_bits (fun _ _ => ?_))
    | (show Rch _ _ _ _ _ 0 _ _ _; refine Rch.blk' (Rn_mono mt _) bl_X4_goesOn_0 (i_bipush k_m4 (i_istore2 trivial (i_aload_n rfl (i_aload_n rfl (i_iconst k_2 (i_iald (n := 46) rfl (by first | omega | (simp (disch := omega) only [e_t]; omega)) (by first | omega | (simp (disch := omega) only [e_t]; omega)) (by first | omega | (simp (disch := omega) only [e_t]; omega)) (t_cs2 (Rn_mono mt _) 10 rfl (Nat.le_of_ble_eq_true rfl) ?_))))))) <;> (try (simp (disch := omega) only [e_t])))
    | (show Rch _ _ _ _ _ 10 _ _ _; refine Rch.blk' (Rn_mono mt _) bl_X4_goesOn_10 (i_istore3 trivial (i_iconst k_0 (i_istore4 trivial (t_none ?_)))))
    | (show Rch _ _ _ _ _ 22 _ _ _; refine Rch.blk' (Rn_mono mt _) bl_X4_goesOn_22 (i_iload_n rfl (i_iload rfl (t_cs2 (Rn_mono mt _) 28 rfl (Nat.le_of_ble_eq_true rfl) ?_))))
    | (show Rch _ _ _ _ _ 28 _ _ _; refine Rch.blk' (Rn_mono mt _) bl_X4_goesOn_28 (t_if_eq 68 31 rfl rfl (by first | exact hI_R | exact band_R | exact bor_R | exact bshr_R | exact lcm_R | omega | (simp (disch := omega) only [e_t]; omega)) (fun hc => ?_) (fun hc => ?_)) <;> (first | (exfalso; omega) | skip))
    | (show Rch _ _ _ _ _ 31 _ _ _; refine Rch.blk' (Rn_mono mt _) bl_X4_goesOn_31 (i_aload_n rfl (i_iload rfl (i_iload_n rfl (t_cs3 (Rn_mono mt _) 38 rfl (Nat.le_of_ble_eq_true rfl) ?_)))))
    | (show Rch _ _ _ _ _ 38 _ _ _; refine Rch.blk' (Rn_mono mt _) bl_X4_goesOn_38 (t_if_lt 68 41 rfl rfl (by first | exact hI_R | exact band_R | exact bor_R | exact bshr_R | exact lcm_R | omega | (simp (disch := omega) only [e_t]; omega)) (fun hc => ?_) (fun hc => ?_)) <;> (first | (exfalso; omega) | skip))
    | (show Rch _ _ _ _ _ 41 _ _ _; refine Rch.blk' (Rn_mono mt _) bl_X4_goesOn_41 (i_iload_n rfl (t_if_lt 65 45 rfl rfl (by first | exact hI_R | exact band_R | exact bor_R | exact bshr_R | exact lcm_R | omega | (simp (disch := omega) only [e_t]; omega)) (fun hc => ?_) (fun hc => ?_))) <;> (first | (exfalso; omega) | skip))
    | (show Rch _ _ _ _ _ 45 _ _ _; refine Rch.blk' (Rn_mono mt _) bl_X4_goesOn_45 (i_aload_n rfl (i_iload rfl (t_cs2 (Rn_mono mt _) 51 rfl (Nat.le_of_ble_eq_true rfl) ?_))))
    | (show Rch _ _ _ _ _ 51 _ _ _; refine Rch.blk' (Rn_mono mt _) bl_X4_goesOn_51 (t_cs1 (Rn_mono mt _) 54 rfl (Nat.le_of_ble_eq_true rfl) ?_))
    | (show Rch _ _ _ _ _ 54 _ _ _; refine Rch.blk' (Rn_mono mt _) bl_X4_goesOn_54 (i_aload_n rfl (i_iload_n rfl (t_cs2 (Rn_mono mt _) 59 rfl (Nat.le_of_ble_eq_true rfl) ?_))))
    | (show Rch _ _ _ _ _ 59 _ _ _; refine Rch.blk' (Rn_mono mt _) bl_X4_goesOn_59 (t_cs1 (Rn_mono mt _) 62 rfl (Nat.le_of_ble_eq_true rfl) ?_))
    | (show Rch _ _ _ _ _ 62 _ _ _; refine Rch.blk' (Rn_mono mt _) bl_X4_goesOn_62 (t_ic_le 68 65 rfl rfl (by first | exact hI_R | exact band_R | exact bor_R | exact bshr_R | exact lcm_R | omega | (simp (disch := omega) only [e_t]; omega)) (by first | exact hI_R | exact band_R | exact bor_R | exact bshr_R | exact lcm_R | omega | (simp (disch := omega) only [e_t]; omega)) (fun hc => ?_) (fun hc => ?_)) <;> (first | (exfalso; omega) | skip))
    | (show Rch _ _ _ _ _ 65 _ _ _; refine Rch.blk' (Rn_mono mt _) bl_X4_goesOn_65 (i_iload rfl (i_istore2 trivial (t_none ?_))))
    | (show Rch _ _ _ _ _ 68 _ _ _; refine Rch.blk' (Rn_mono mt _) bl_X4_goesOn_68 (i_iinc4 trivial k_1 (t_goto 14 rfl ?_)))
    | (show Rch _ _ _ _ _ 74 _ _ _; refine Rch.blk' (Rn_mono mt _) bl_X4_goesOn_74 (i_iload_n rfl (t_if_lt 99 78 rfl rfl (by first | exact hI_R | exact band_R | exact bor_R | exact bshr_R | exact lcm_R | omega | (simp (disch := omega) only [e_t]; omega)) (fun hc => ?_) (fun hc => ?_))) <;> (first | (exfalso; omega) | skip))
    | (show Rch _ _ _ _ _ 78 _ _ _; refine Rch.blk' (Rn_mono mt _) bl_X4_goesOn_78 (i_iconst k_2 (i_aload_n rfl (i_iload_n rfl (t_cs2 (Rn_mono mt _) 84 rfl (Nat.le_of_ble_eq_true rfl) ?_)))))
    | (show Rch _ _ _ _ _ 84 _ _ _; refine Rch.blk' (Rn_mono mt _) bl_X4_goesOn_84 (t_cs1 (Rn_mono mt _) 87 rfl (Nat.le_of_ble_eq_true rfl) ?_))
    | (show Rch _ _ _ _ _ 87 _ _ _; refine Rch.blk' (Rn_mono mt _) bl_X4_goesOn_87 (i_imul (i_iload_n rfl (t_cs1 (Rn_mono mt _) 92 rfl (Nat.le_of_ble_eq_true rfl) ?_))))
    | (show Rch _ _ _ _ _ 92 _ _ _; refine Rch.blk' (Rn_mono mt _) bl_X4_goesOn_92 (t_ic_le 99 95 rfl rfl (by first | exact hI_R | exact band_R | exact bor_R | exact bshr_R | exact lcm_R | omega | (simp (disch := omega) only [e_t]; omega)) (by first | exact hI_R | exact band_R | exact bor_R | exact bshr_R | exact lcm_R | omega | (simp (disch := omega) only [e_t]; omega)) (fun hc => ?_) (fun hc => ?_)) <;> (first | (exfalso; omega) | skip))
    | (show Rch _ _ _ _ _ 95 _ _ _; refine Rch.blk' (Rn_mono mt _) bl_X4_goesOn_95 (i_iload_n rfl (t_goto 101 rfl ?_)))
    | (show Rch _ _ _ _ _ 99 _ _ _; refine Rch.blk' (Rn_mono mt _) bl_X4_goesOn_99 (i_bipush k_m4 (t_none ?_)))
    | (show Rch _ _ _ _ _ 101 _ _ _; refine Rch.blk' (Rn_mono mt _) bl_X4_goesOn_101 (t_iret ?_)))
end C6

