/-! the reference's simple calls -/
section C10
variable {d : Nat} {h : Mem} {Q : Option AV → Mem → Prop} {G : Bd}
theorem c_X4_nextIdea (hG : RR h 0 G no0 0) (hO : OKB G) (hy : dy G ≤ 999) {p : Int} (p0 : 0 ≤ p) (p1 : p < nn G) (hq : ∀ v, v = ideN G p → (v = -4 ∨ (0 ≤ v ∧ v < 36)) → Q (some (ai (I v))) h) : Rn mt (d + 8) 148 [ar 3 0, ai (I p)] h Q := by
  refine Rn.intro iX4_nextIdea rfl rfl ?_
  show Rch bX4_nextIdea _ _ _ _ 0 [some (ar 3 0), some (ai (I p))] [] _
  have e_d := hG.d
  have g_d := hO.2.2.2.1
  have g_p := hO.pc p p0 p1
  have g_i := @ide_R G p (dy G + 1)
  have k1 : sq G p < 36 → ∀ v, v = ide G p (dy G + 1) → Q (some (ai (I v))) h := fun a v e => hq v (by unfold ideN; rw [if_pos a]; exact e) (by rw [e]; exact g_i)
  have k2 : ¬ sq G p < 36 → Q (some (ai (I (-4)))) h := fun a => hq _ (by unfold ideN; rw [if_neg a]) (Or.inl rfl)
  repeat' (first
    | (show Rn _ _ 128 _ _ _; refine c_X4_idea hG hO p0 p1 (by omega) (by omega) (fun _ _ _ _ _ _ => ?_) (fun hx => hx.elim (fun hx => ?_) (fun hx => hx.elim)))
    | exact k1 (by omega) _ (by assumption)
    | exact k2 (by omega)
    | (show Rn _ _ 128 _ _ _; refine c_X4_idea (by assumption) (by assumption) (by omega) (by omega) (by omega) (by omega) (fun _ _ _ _ _ _ => ?_) (fun _ => ?_))
    | (show Rch _ _ _ _ _ 0 _ _ _; refine Rch.blk' (Rn_mono mt _) bl_X4_nextIdea_0 (i_aload_n rfl (i_gfs rfl (i_iload_n rfl (i_aload_n rfl (i_gfs rfl (i_iconst k_1 (i_iald (n := 46) rfl (by first | omega | (simp (disch := omega) only [e_d]; omega)) (by first | omega | (simp (disch := omega) only [e_d]; omega)) (by first | omega | (simp (disch := omega) only [e_d]; omega)) (i_iconst k_1 (i_iadd (t_cs3 (Rn_mono mt _) 16 rfl (Nat.le_of_ble_eq_true rfl) ?_)))))))))) <;> (try (simp (disch := omega) only [e_d])))
    | (show Rch _ _ _ _ _ 16 _ _ _; refine Rch.blk' (Rn_mono mt _) bl_X4_nextIdea_16 (t_iret ?_)))
theorem c_X4_piece (hG : RR h 0 G no0 0) (hO : OKB G) (hy : dy G ≤ 999) {p w : Int} (hp : inR p) (hw : inR w) (hq : ∀ v h', v = vPiece G p w → JY h h' → Q (some (ai (I v))) h') : Rn mt (d + 20) 149 [ar 3 0, ai (I p), ai (I w)] h Q := by
  refine Rn.intro iX4_piece rfl rfl ?_
  show Rch bX4_piece _ _ _ _ 0 [some (ar 3 0), some (ai (I p)), some (ai (I w)), none, none] [] _
  have e_k := @RR.k _ _ _ _ _ hG
  have e_f := @RR.f _ _ _ _ _ hG
  have e_s := @RR.s _ _ _ _ _ hG
  have e_q := @RR.q _ _ _ _ _ hG
  have g_n := hO.n
  have g_p := hO.pc p
  by_cases c0 : w = 0
  · subst c0
    repeat' (first
      | exact hq _ _ (by unfold vPiece; omega) JY.rf
      | (show Rn _ _ 110 _ _ _; refine c_X4_isPiece (by assumption) (by assumption) (by first | omega | exact hI_R) (fun _ _ => ?_) (fun _ => ?_))
      | (show Rn _ _ 105 _ _ _; refine c_X4_isIn (by first | omega | exact hI_R) (by first | omega | exact hI_R) (by first | omega | exact hI_R) (fun _ _ => ?_) (fun _ => ?_))
      | (show Rn _ _ 109 _ _ _; refine c_X4_of ?_)
      | (show Rn _ _ 129 _ _ _; refine c_X4_earsBy (by first | omega | exact hI_R) (by omega) (by omega) (fun _ _ => ?_))
      | (show Rn _ _ 130 _ _ _; refine c_X4_worthBy (by first | omega | exact hI_R) (by omega) (by omega) (fun _ _ => ?_))
      | (show Rn _ _ 148 _ _ _; refine c_X4_nextIdea (by assumption) (by assumption) (by omega) (by omega) (by omega) (fun _ _ _ => ?_))
      | (show Rch _ _ _ _ _ 0 _ _ _; refine Rch.blk' (Rn_mono mt _) bl_X4_piece_0 (i_aload_n rfl (i_iload_n rfl (t_cv2 (Rn_mono mt _) 5 rfl (Nat.le_of_ble_eq_true rfl) ?_))))
      | (show Rch _ _ _ _ _ 5 _ _ _; refine Rch.blk' (Rn_mono mt _) bl_X4_piece_5 (t_if_eq 18 8 rfl rfl (by first | exact hI_R | exact band_R | exact bor_R | exact bshr_R | exact lcm_R | omega | (simp (disch := omega) only [e_k, e_f, e_s, e_q]; omega)) (fun hc => ?_) (fun hc => ?_)) <;> (first | (exfalso; omega) | skip))
      | (show Rch _ _ _ _ _ 8 _ _ _; refine Rch.blk' (Rn_mono mt _) bl_X4_piece_8 (i_iload_n rfl (i_iconst k_0 (i_bipush k_6 (t_cs3 (Rn_mono mt _) 15 rfl (Nat.le_of_ble_eq_true rfl) ?_)))))
      | (show Rch _ _ _ _ _ 15 _ _ _; refine Rch.blk' (Rn_mono mt _) bl_X4_piece_15 (t_if_ne 20 18 rfl rfl (by first | exact hI_R | exact band_R | exact bor_R | exact bshr_R | exact lcm_R | omega | (simp (disch := omega) only [e_k, e_f, e_s, e_q]; omega)) (fun hc => ?_) (fun hc => ?_)) <;> (first | (exfalso; omega) | skip))
      | (show Rch _ _ _ _ _ 18 _ _ _; refine Rch.blk' (Rn_mono mt _) bl_X4_piece_18 (i_iconst k_m1 (t_iret ?_)))
      | (show Rch _ _ _ _ _ 20 _ _ _; refine Rch.blk' (Rn_mono mt _) bl_X4_piece_20 (i_aload_n rfl (i_gfs rfl (i_iload_n rfl (i_iconst k_0 (t_cs2 (Rn_mono mt _) 29 rfl (Nat.le_of_ble_eq_true rfl) ?_))))) <;> (try (simp (disch := omega) only [e_k, e_f, e_s, e_q])))
      | (show Rch _ _ _ _ _ 29 _ _ _; refine Rch.blk' (Rn_mono mt _) bl_X4_piece_29 (i_iald rfl (by first | omega | (simp (disch := omega) only [e_k, e_f, e_s, e_q]; omega)) (by simp only [aln]; omega) (by simp only [aln]; omega) (i_istore3 trivial (i_aload_n rfl (i_gfs rfl (i_iload_n rfl (i_iconst k_1 (t_cs2 (Rn_mono mt _) 40 rfl (Nat.le_of_ble_eq_true rfl) ?_))))))) <;> (try (simp (disch := omega) only [e_k, e_f, e_s, e_q])))
      | (show Rch _ _ _ _ _ 40 _ _ _; refine Rch.blk' (Rn_mono mt _) bl_X4_piece_40 (i_iald rfl (by first | omega | (simp (disch := omega) only [e_k, e_f, e_s, e_q]; omega)) (by simp only [aln]; omega) (by simp only [aln]; omega) (i_istore4 trivial (i_iload_n rfl (i_iconst k_4 (t_ic_ge 61 48 rfl rfl (by first | exact hI_R | exact band_R | exact bor_R | exact bshr_R | exact lcm_R | omega | (simp (disch := omega) only [e_k, e_f, e_s, e_q]; omega)) (by first | exact hI_R | exact band_R | exact bor_R | exact bshr_R | exact lcm_R | omega | (simp (disch := omega) only [e_k, e_f, e_s, e_q]; omega)) (fun hc => ?_) (fun hc => ?_)))))) <;> (try (simp (disch := omega) only [e_k, e_f, e_s, e_q] at hc ⊢)) <;> (first | (exfalso; omega) | skip))
      | (show Rch _ _ _ _ _ 48 _ _ _; refine Rch.blk' (Rn_mono mt _) bl_X4_piece_48 (i_aload_n rfl (i_gfs rfl (i_iload_n rfl (i_iload_n rfl (t_cs2 (Rn_mono mt _) 57 rfl (Nat.le_of_ble_eq_true rfl) ?_))))) <;> (try (simp (disch := omega) only [e_k, e_f, e_s, e_q])))
      | (show Rch _ _ _ _ _ 57 _ _ _; refine Rch.blk' (Rn_mono mt _) bl_X4_piece_57 (i_iald rfl (by first | omega | (simp (disch := omega) only [e_k, e_f, e_s, e_q]; omega)) (by simp only [aln]; omega) (by simp only [aln]; omega) (t_goto 94 rfl ?_)) <;> (try (simp (disch := omega) only [e_k, e_f, e_s, e_q])))
      | (show Rch _ _ _ _ _ 61 _ _ _; refine Rch.blk' (Rn_mono mt _) bl_X4_piece_61 (i_iload_n rfl (i_iconst k_4 (t_ic_ne 75 66 rfl rfl (by first | exact hI_R | exact band_R | exact bor_R | exact bshr_R | exact lcm_R | omega | (simp (disch := omega) only [e_k, e_f, e_s, e_q]; omega)) (by first | exact hI_R | exact band_R | exact bor_R | exact bshr_R | exact lcm_R | omega | (simp (disch := omega) only [e_k, e_f, e_s, e_q]; omega)) (fun hc => ?_) (fun hc => ?_)))) <;> (first | (exfalso; omega) | skip))
      | (show Rch _ _ _ _ _ 66 _ _ _; refine Rch.blk' (Rn_mono mt _) bl_X4_piece_66 (i_iload_n rfl (i_iload rfl (t_cs2 (Rn_mono mt _) 72 rfl (Nat.le_of_ble_eq_true rfl) ?_))))
      | (show Rch _ _ _ _ _ 72 _ _ _; refine Rch.blk' (Rn_mono mt _) bl_X4_piece_72 (t_goto 94 rfl ?_))
      | (show Rch _ _ _ _ _ 75 _ _ _; refine Rch.blk' (Rn_mono mt _) bl_X4_piece_75 (i_iload_n rfl (i_iconst k_5 (t_ic_ne 89 80 rfl rfl (by first | exact hI_R | exact band_R | exact bor_R | exact bshr_R | exact lcm_R | omega | (simp (disch := omega) only [e_k, e_f, e_s, e_q]; omega)) (by first | exact hI_R | exact band_R | exact bor_R | exact bshr_R | exact lcm_R | omega | (simp (disch := omega) only [e_k, e_f, e_s, e_q]; omega)) (fun hc => ?_) (fun hc => ?_)))) <;> (first | (exfalso; omega) | skip))
      | (show Rch _ _ _ _ _ 80 _ _ _; refine Rch.blk' (Rn_mono mt _) bl_X4_piece_80 (i_iload_n rfl (i_iload rfl (t_cs2 (Rn_mono mt _) 86 rfl (Nat.le_of_ble_eq_true rfl) ?_))))
      | (show Rch _ _ _ _ _ 86 _ _ _; refine Rch.blk' (Rn_mono mt _) bl_X4_piece_86 (t_goto 94 rfl ?_))
      | (show Rch _ _ _ _ _ 89 _ _ _; refine Rch.blk' (Rn_mono mt _) bl_X4_piece_89 (i_aload_n rfl (i_iload_n rfl (t_cv2 (Rn_mono mt _) 94 rfl (Nat.le_of_ble_eq_true rfl) ?_))))
      | (show Rch _ _ _ _ _ 94 _ _ _; refine Rch.blk' (Rn_mono mt _) bl_X4_piece_94 (t_iret ?_)))
  by_cases c1 : w = 1
  · subst c1
    repeat' (first
      | exact hq _ _ (by unfold vPiece; omega) JY.rf
      | (show Rn _ _ 110 _ _ _; refine c_X4_isPiece (by assumption) (by assumption) (by first | omega | exact hI_R) (fun _ _ => ?_) (fun _ => ?_))
      | (show Rn _ _ 105 _ _ _; refine c_X4_isIn (by first | omega | exact hI_R) (by first | omega | exact hI_R) (by first | omega | exact hI_R) (fun _ _ => ?_) (fun _ => ?_))
      | (show Rn _ _ 109 _ _ _; refine c_X4_of ?_)
      | (show Rn _ _ 129 _ _ _; refine c_X4_earsBy (by first | omega | exact hI_R) (by omega) (by omega) (fun _ _ => ?_))
      | (show Rn _ _ 130 _ _ _; refine c_X4_worthBy (by first | omega | exact hI_R) (by omega) (by omega) (fun _ _ => ?_))
      | (show Rn _ _ 148 _ _ _; refine c_X4_nextIdea (by assumption) (by assumption) (by omega) (by omega) (by omega) (fun _ _ _ => ?_))
      | (show Rch _ _ _ _ _ 0 _ _ _; refine Rch.blk' (Rn_mono mt _) bl_X4_piece_0 (i_aload_n rfl (i_iload_n rfl (t_cv2 (Rn_mono mt _) 5 rfl (Nat.le_of_ble_eq_true rfl) ?_))))
      | (show Rch _ _ _ _ _ 5 _ _ _; refine Rch.blk' (Rn_mono mt _) bl_X4_piece_5 (t_if_eq 18 8 rfl rfl (by first | exact hI_R | exact band_R | exact bor_R | exact bshr_R | exact lcm_R | omega | (simp (disch := omega) only [e_k, e_f, e_s, e_q]; omega)) (fun hc => ?_) (fun hc => ?_)) <;> (first | (exfalso; omega) | skip))
      | (show Rch _ _ _ _ _ 8 _ _ _; refine Rch.blk' (Rn_mono mt _) bl_X4_piece_8 (i_iload_n rfl (i_iconst k_0 (i_bipush k_6 (t_cs3 (Rn_mono mt _) 15 rfl (Nat.le_of_ble_eq_true rfl) ?_)))))
      | (show Rch _ _ _ _ _ 15 _ _ _; refine Rch.blk' (Rn_mono mt _) bl_X4_piece_15 (t_if_ne 20 18 rfl rfl (by first | exact hI_R | exact band_R | exact bor_R | exact bshr_R | exact lcm_R | omega | (simp (disch := omega) only [e_k, e_f, e_s, e_q]; omega)) (fun hc => ?_) (fun hc => ?_)) <;> (first | (exfalso; omega) | skip))
      | (show Rch _ _ _ _ _ 18 _ _ _; refine Rch.blk' (Rn_mono mt _) bl_X4_piece_18 (i_iconst k_m1 (t_iret ?_)))
      | (show Rch _ _ _ _ _ 20 _ _ _; refine Rch.blk' (Rn_mono mt _) bl_X4_piece_20 (i_aload_n rfl (i_gfs rfl (i_iload_n rfl (i_iconst k_0 (t_cs2 (Rn_mono mt _) 29 rfl (Nat.le_of_ble_eq_true rfl) ?_))))) <;> (try (simp (disch := omega) only [e_k, e_f, e_s, e_q])))
      | (show Rch _ _ _ _ _ 29 _ _ _; refine Rch.blk' (Rn_mono mt _) bl_X4_piece_29 (i_iald rfl (by first | omega | (simp (disch := omega) only [e_k, e_f, e_s, e_q]; omega)) (by simp only [aln]; omega) (by simp only [aln]; omega) (i_istore3 trivial (i_aload_n rfl (i_gfs rfl (i_iload_n rfl (i_iconst k_1 (t_cs2 (Rn_mono mt _) 40 rfl (Nat.le_of_ble_eq_true rfl) ?_))))))) <;> (try (simp (disch := omega) only [e_k, e_f, e_s, e_q])))
      | (show Rch _ _ _ _ _ 40 _ _ _; refine Rch.blk' (Rn_mono mt _) bl_X4_piece_40 (i_iald rfl (by first | omega | (simp (disch := omega) only [e_k, e_f, e_s, e_q]; omega)) (by simp only [aln]; omega) (by simp only [aln]; omega) (i_istore4 trivial (i_iload_n rfl (i_iconst k_4 (t_ic_ge 61 48 rfl rfl (by first | exact hI_R | exact band_R | exact bor_R | exact bshr_R | exact lcm_R | omega | (simp (disch := omega) only [e_k, e_f, e_s, e_q]; omega)) (by first | exact hI_R | exact band_R | exact bor_R | exact bshr_R | exact lcm_R | omega | (simp (disch := omega) only [e_k, e_f, e_s, e_q]; omega)) (fun hc => ?_) (fun hc => ?_)))))) <;> (try (simp (disch := omega) only [e_k, e_f, e_s, e_q] at hc ⊢)) <;> (first | (exfalso; omega) | skip))
      | (show Rch _ _ _ _ _ 48 _ _ _; refine Rch.blk' (Rn_mono mt _) bl_X4_piece_48 (i_aload_n rfl (i_gfs rfl (i_iload_n rfl (i_iload_n rfl (t_cs2 (Rn_mono mt _) 57 rfl (Nat.le_of_ble_eq_true rfl) ?_))))) <;> (try (simp (disch := omega) only [e_k, e_f, e_s, e_q])))
      | (show Rch _ _ _ _ _ 57 _ _ _; refine Rch.blk' (Rn_mono mt _) bl_X4_piece_57 (i_iald rfl (by first | omega | (simp (disch := omega) only [e_k, e_f, e_s, e_q]; omega)) (by simp only [aln]; omega) (by simp only [aln]; omega) (t_goto 94 rfl ?_)) <;> (try (simp (disch := omega) only [e_k, e_f, e_s, e_q])))
      | (show Rch _ _ _ _ _ 61 _ _ _; refine Rch.blk' (Rn_mono mt _) bl_X4_piece_61 (i_iload_n rfl (i_iconst k_4 (t_ic_ne 75 66 rfl rfl (by first | exact hI_R | exact band_R | exact bor_R | exact bshr_R | exact lcm_R | omega | (simp (disch := omega) only [e_k, e_f, e_s, e_q]; omega)) (by first | exact hI_R | exact band_R | exact bor_R | exact bshr_R | exact lcm_R | omega | (simp (disch := omega) only [e_k, e_f, e_s, e_q]; omega)) (fun hc => ?_) (fun hc => ?_)))) <;> (first | (exfalso; omega) | skip))
      | (show Rch _ _ _ _ _ 66 _ _ _; refine Rch.blk' (Rn_mono mt _) bl_X4_piece_66 (i_iload_n rfl (i_iload rfl (t_cs2 (Rn_mono mt _) 72 rfl (Nat.le_of_ble_eq_true rfl) ?_))))
      | (show Rch _ _ _ _ _ 72 _ _ _; refine Rch.blk' (Rn_mono mt _) bl_X4_piece_72 (t_goto 94 rfl ?_))
      | (show Rch _ _ _ _ _ 75 _ _ _; refine Rch.blk' (Rn_mono mt _) bl_X4_piece_75 (i_iload_n rfl (i_iconst k_5 (t_ic_ne 89 80 rfl rfl (by first | exact hI_R | exact band_R | exact bor_R | exact bshr_R | exact lcm_R | omega | (simp (disch := omega) only [e_k, e_f, e_s, e_q]; omega)) (by first | exact hI_R | exact band_R | exact bor_R | exact bshr_R | exact lcm_R | omega | (simp (disch := omega) only [e_k, e_f, e_s, e_q]; omega)) (fun hc => ?_) (fun hc => ?_)))) <;> (first | (exfalso; omega) | skip))
      | (show Rch _ _ _ _ _ 80 _ _ _; refine Rch.blk' (Rn_mono mt _) bl_X4_piece_80 (i_iload_n rfl (i_iload rfl (t_cs2 (Rn_mono mt _) 86 rfl (Nat.le_of_ble_eq_true rfl) ?_))))
      | (show Rch _ _ _ _ _ 86 _ _ _; refine Rch.blk' (Rn_mono mt _) bl_X4_piece_86 (t_goto 94 rfl ?_))
      | (show Rch _ _ _ _ _ 89 _ _ _; refine Rch.blk' (Rn_mono mt _) bl_X4_piece_89 (i_aload_n rfl (i_iload_n rfl (t_cv2 (Rn_mono mt _) 94 rfl (Nat.le_of_ble_eq_true rfl) ?_))))
      | (show Rch _ _ _ _ _ 94 _ _ _; refine Rch.blk' (Rn_mono mt _) bl_X4_piece_94 (t_iret ?_)))
  by_cases c2 : w = 2
  · subst c2
    repeat' (first
      | exact hq _ _ (by unfold vPiece; omega) JY.rf
      | (show Rn _ _ 110 _ _ _; refine c_X4_isPiece (by assumption) (by assumption) (by first | omega | exact hI_R) (fun _ _ => ?_) (fun _ => ?_))
      | (show Rn _ _ 105 _ _ _; refine c_X4_isIn (by first | omega | exact hI_R) (by first | omega | exact hI_R) (by first | omega | exact hI_R) (fun _ _ => ?_) (fun _ => ?_))
      | (show Rn _ _ 109 _ _ _; refine c_X4_of ?_)
      | (show Rn _ _ 129 _ _ _; refine c_X4_earsBy (by first | omega | exact hI_R) (by omega) (by omega) (fun _ _ => ?_))
      | (show Rn _ _ 130 _ _ _; refine c_X4_worthBy (by first | omega | exact hI_R) (by omega) (by omega) (fun _ _ => ?_))
      | (show Rn _ _ 148 _ _ _; refine c_X4_nextIdea (by assumption) (by assumption) (by omega) (by omega) (by omega) (fun _ _ _ => ?_))
      | (show Rch _ _ _ _ _ 0 _ _ _; refine Rch.blk' (Rn_mono mt _) bl_X4_piece_0 (i_aload_n rfl (i_iload_n rfl (t_cv2 (Rn_mono mt _) 5 rfl (Nat.le_of_ble_eq_true rfl) ?_))))
      | (show Rch _ _ _ _ _ 5 _ _ _; refine Rch.blk' (Rn_mono mt _) bl_X4_piece_5 (t_if_eq 18 8 rfl rfl (by first | exact hI_R | exact band_R | exact bor_R | exact bshr_R | exact lcm_R | omega | (simp (disch := omega) only [e_k, e_f, e_s, e_q]; omega)) (fun hc => ?_) (fun hc => ?_)) <;> (first | (exfalso; omega) | skip))
      | (show Rch _ _ _ _ _ 8 _ _ _; refine Rch.blk' (Rn_mono mt _) bl_X4_piece_8 (i_iload_n rfl (i_iconst k_0 (i_bipush k_6 (t_cs3 (Rn_mono mt _) 15 rfl (Nat.le_of_ble_eq_true rfl) ?_)))))
      | (show Rch _ _ _ _ _ 15 _ _ _; refine Rch.blk' (Rn_mono mt _) bl_X4_piece_15 (t_if_ne 20 18 rfl rfl (by first | exact hI_R | exact band_R | exact bor_R | exact bshr_R | exact lcm_R | omega | (simp (disch := omega) only [e_k, e_f, e_s, e_q]; omega)) (fun hc => ?_) (fun hc => ?_)) <;> (first | (exfalso; omega) | skip))
      | (show Rch _ _ _ _ _ 18 _ _ _; refine Rch.blk' (Rn_mono mt _) bl_X4_piece_18 (i_iconst k_m1 (t_iret ?_)))
      | (show Rch _ _ _ _ _ 20 _ _ _; refine Rch.blk' (Rn_mono mt _) bl_X4_piece_20 (i_aload_n rfl (i_gfs rfl (i_iload_n rfl (i_iconst k_0 (t_cs2 (Rn_mono mt _) 29 rfl (Nat.le_of_ble_eq_true rfl) ?_))))) <;> (try (simp (disch := omega) only [e_k, e_f, e_s, e_q])))
      | (show Rch _ _ _ _ _ 29 _ _ _; refine Rch.blk' (Rn_mono mt _) bl_X4_piece_29 (i_iald rfl (by first | omega | (simp (disch := omega) only [e_k, e_f, e_s, e_q]; omega)) (by simp only [aln]; omega) (by simp only [aln]; omega) (i_istore3 trivial (i_aload_n rfl (i_gfs rfl (i_iload_n rfl (i_iconst k_1 (t_cs2 (Rn_mono mt _) 40 rfl (Nat.le_of_ble_eq_true rfl) ?_))))))) <;> (try (simp (disch := omega) only [e_k, e_f, e_s, e_q])))
      | (show Rch _ _ _ _ _ 40 _ _ _; refine Rch.blk' (Rn_mono mt _) bl_X4_piece_40 (i_iald rfl (by first | omega | (simp (disch := omega) only [e_k, e_f, e_s, e_q]; omega)) (by simp only [aln]; omega) (by simp only [aln]; omega) (i_istore4 trivial (i_iload_n rfl (i_iconst k_4 (t_ic_ge 61 48 rfl rfl (by first | exact hI_R | exact band_R | exact bor_R | exact bshr_R | exact lcm_R | omega | (simp (disch := omega) only [e_k, e_f, e_s, e_q]; omega)) (by first | exact hI_R | exact band_R | exact bor_R | exact bshr_R | exact lcm_R | omega | (simp (disch := omega) only [e_k, e_f, e_s, e_q]; omega)) (fun hc => ?_) (fun hc => ?_)))))) <;> (try (simp (disch := omega) only [e_k, e_f, e_s, e_q] at hc ⊢)) <;> (first | (exfalso; omega) | skip))
      | (show Rch _ _ _ _ _ 48 _ _ _; refine Rch.blk' (Rn_mono mt _) bl_X4_piece_48 (i_aload_n rfl (i_gfs rfl (i_iload_n rfl (i_iload_n rfl (t_cs2 (Rn_mono mt _) 57 rfl (Nat.le_of_ble_eq_true rfl) ?_))))) <;> (try (simp (disch := omega) only [e_k, e_f, e_s, e_q])))
      | (show Rch _ _ _ _ _ 57 _ _ _; refine Rch.blk' (Rn_mono mt _) bl_X4_piece_57 (i_iald rfl (by first | omega | (simp (disch := omega) only [e_k, e_f, e_s, e_q]; omega)) (by simp only [aln]; omega) (by simp only [aln]; omega) (t_goto 94 rfl ?_)) <;> (try (simp (disch := omega) only [e_k, e_f, e_s, e_q])))
      | (show Rch _ _ _ _ _ 61 _ _ _; refine Rch.blk' (Rn_mono mt _) bl_X4_piece_61 (i_iload_n rfl (i_iconst k_4 (t_ic_ne 75 66 rfl rfl (by first | exact hI_R | exact band_R | exact bor_R | exact bshr_R | exact lcm_R | omega | (simp (disch := omega) only [e_k, e_f, e_s, e_q]; omega)) (by first | exact hI_R | exact band_R | exact bor_R | exact bshr_R | exact lcm_R | omega | (simp (disch := omega) only [e_k, e_f, e_s, e_q]; omega)) (fun hc => ?_) (fun hc => ?_)))) <;> (first | (exfalso; omega) | skip))
      | (show Rch _ _ _ _ _ 66 _ _ _; refine Rch.blk' (Rn_mono mt _) bl_X4_piece_66 (i_iload_n rfl (i_iload rfl (t_cs2 (Rn_mono mt _) 72 rfl (Nat.le_of_ble_eq_true rfl) ?_))))
      | (show Rch _ _ _ _ _ 72 _ _ _; refine Rch.blk' (Rn_mono mt _) bl_X4_piece_72 (t_goto 94 rfl ?_))
      | (show Rch _ _ _ _ _ 75 _ _ _; refine Rch.blk' (Rn_mono mt _) bl_X4_piece_75 (i_iload_n rfl (i_iconst k_5 (t_ic_ne 89 80 rfl rfl (by first | exact hI_R | exact band_R | exact bor_R | exact bshr_R | exact lcm_R | omega | (simp (disch := omega) only [e_k, e_f, e_s, e_q]; omega)) (by first | exact hI_R | exact band_R | exact bor_R | exact bshr_R | exact lcm_R | omega | (simp (disch := omega) only [e_k, e_f, e_s, e_q]; omega)) (fun hc => ?_) (fun hc => ?_)))) <;> (first | (exfalso; omega) | skip))
      | (show Rch _ _ _ _ _ 80 _ _ _; refine Rch.blk' (Rn_mono mt _) bl_X4_piece_80 (i_iload_n rfl (i_iload rfl (t_cs2 (Rn_mono mt _) 86 rfl (Nat.le_of_ble_eq_true rfl) ?_))))
      | (show Rch _ _ _ _ _ 86 _ _ _; refine Rch.blk' (Rn_mono mt _) bl_X4_piece_86 (t_goto 94 rfl ?_))
      | (show Rch _ _ _ _ _ 89 _ _ _; refine Rch.blk' (Rn_mono mt _) bl_X4_piece_89 (i_aload_n rfl (i_iload_n rfl (t_cv2 (Rn_mono mt _) 94 rfl (Nat.le_of_ble_eq_true rfl) ?_))))
      | (show Rch _ _ _ _ _ 94 _ _ _; refine Rch.blk' (Rn_mono mt _) bl_X4_piece_94 (t_iret ?_)))
  by_cases c3 : w = 3
  · subst c3
    repeat' (first
      | exact hq _ _ (by unfold vPiece; omega) JY.rf
      | (show Rn _ _ 110 _ _ _; refine c_X4_isPiece (by assumption) (by assumption) (by first | omega | exact hI_R) (fun _ _ => ?_) (fun _ => ?_))
      | (show Rn _ _ 105 _ _ _; refine c_X4_isIn (by first | omega | exact hI_R) (by first | omega | exact hI_R) (by first | omega | exact hI_R) (fun _ _ => ?_) (fun _ => ?_))
      | (show Rn _ _ 109 _ _ _; refine c_X4_of ?_)
      | (show Rn _ _ 129 _ _ _; refine c_X4_earsBy (by first | omega | exact hI_R) (by omega) (by omega) (fun _ _ => ?_))
      | (show Rn _ _ 130 _ _ _; refine c_X4_worthBy (by first | omega | exact hI_R) (by omega) (by omega) (fun _ _ => ?_))
      | (show Rn _ _ 148 _ _ _; refine c_X4_nextIdea (by assumption) (by assumption) (by omega) (by omega) (by omega) (fun _ _ _ => ?_))
      | (show Rch _ _ _ _ _ 0 _ _ _; refine Rch.blk' (Rn_mono mt _) bl_X4_piece_0 (i_aload_n rfl (i_iload_n rfl (t_cv2 (Rn_mono mt _) 5 rfl (Nat.le_of_ble_eq_true rfl) ?_))))
      | (show Rch _ _ _ _ _ 5 _ _ _; refine Rch.blk' (Rn_mono mt _) bl_X4_piece_5 (t_if_eq 18 8 rfl rfl (by first | exact hI_R | exact band_R | exact bor_R | exact bshr_R | exact lcm_R | omega | (simp (disch := omega) only [e_k, e_f, e_s, e_q]; omega)) (fun hc => ?_) (fun hc => ?_)) <;> (first | (exfalso; omega) | skip))
      | (show Rch _ _ _ _ _ 8 _ _ _; refine Rch.blk' (Rn_mono mt _) bl_X4_piece_8 (i_iload_n rfl (i_iconst k_0 (i_bipush k_6 (t_cs3 (Rn_mono mt _) 15 rfl (Nat.le_of_ble_eq_true rfl) ?_)))))
      | (show Rch _ _ _ _ _ 15 _ _ _; refine Rch.blk' (Rn_mono mt _) bl_X4_piece_15 (t_if_ne 20 18 rfl rfl (by first | exact hI_R | exact band_R | exact bor_R | exact bshr_R | exact lcm_R | omega | (simp (disch := omega) only [e_k, e_f, e_s, e_q]; omega)) (fun hc => ?_) (fun hc => ?_)) <;> (first | (exfalso; omega) | skip))
      | (show Rch _ _ _ _ _ 18 _ _ _; refine Rch.blk' (Rn_mono mt _) bl_X4_piece_18 (i_iconst k_m1 (t_iret ?_)))
      | (show Rch _ _ _ _ _ 20 _ _ _; refine Rch.blk' (Rn_mono mt _) bl_X4_piece_20 (i_aload_n rfl (i_gfs rfl (i_iload_n rfl (i_iconst k_0 (t_cs2 (Rn_mono mt _) 29 rfl (Nat.le_of_ble_eq_true rfl) ?_))))) <;> (try (simp (disch := omega) only [e_k, e_f, e_s, e_q])))
      | (show Rch _ _ _ _ _ 29 _ _ _; refine Rch.blk' (Rn_mono mt _) bl_X4_piece_29 (i_iald rfl (by first | omega | (simp (disch := omega) only [e_k, e_f, e_s, e_q]; omega)) (by simp only [aln]; omega) (by simp only [aln]; omega) (i_istore3 trivial (i_aload_n rfl (i_gfs rfl (i_iload_n rfl (i_iconst k_1 (t_cs2 (Rn_mono mt _) 40 rfl (Nat.le_of_ble_eq_true rfl) ?_))))))) <;> (try (simp (disch := omega) only [e_k, e_f, e_s, e_q])))
      | (show Rch _ _ _ _ _ 40 _ _ _; refine Rch.blk' (Rn_mono mt _) bl_X4_piece_40 (i_iald rfl (by first | omega | (simp (disch := omega) only [e_k, e_f, e_s, e_q]; omega)) (by simp only [aln]; omega) (by simp only [aln]; omega) (i_istore4 trivial (i_iload_n rfl (i_iconst k_4 (t_ic_ge 61 48 rfl rfl (by first | exact hI_R | exact band_R | exact bor_R | exact bshr_R | exact lcm_R | omega | (simp (disch := omega) only [e_k, e_f, e_s, e_q]; omega)) (by first | exact hI_R | exact band_R | exact bor_R | exact bshr_R | exact lcm_R | omega | (simp (disch := omega) only [e_k, e_f, e_s, e_q]; omega)) (fun hc => ?_) (fun hc => ?_)))))) <;> (try (simp (disch := omega) only [e_k, e_f, e_s, e_q] at hc ⊢)) <;> (first | (exfalso; omega) | skip))
      | (show Rch _ _ _ _ _ 48 _ _ _; refine Rch.blk' (Rn_mono mt _) bl_X4_piece_48 (i_aload_n rfl (i_gfs rfl (i_iload_n rfl (i_iload_n rfl (t_cs2 (Rn_mono mt _) 57 rfl (Nat.le_of_ble_eq_true rfl) ?_))))) <;> (try (simp (disch := omega) only [e_k, e_f, e_s, e_q])))
      | (show Rch _ _ _ _ _ 57 _ _ _; refine Rch.blk' (Rn_mono mt _) bl_X4_piece_57 (i_iald rfl (by first | omega | (simp (disch := omega) only [e_k, e_f, e_s, e_q]; omega)) (by simp only [aln]; omega) (by simp only [aln]; omega) (t_goto 94 rfl ?_)) <;> (try (simp (disch := omega) only [e_k, e_f, e_s, e_q])))
      | (show Rch _ _ _ _ _ 61 _ _ _; refine Rch.blk' (Rn_mono mt _) bl_X4_piece_61 (i_iload_n rfl (i_iconst k_4 (t_ic_ne 75 66 rfl rfl (by first | exact hI_R | exact band_R | exact bor_R | exact bshr_R | exact lcm_R | omega | (simp (disch := omega) only [e_k, e_f, e_s, e_q]; omega)) (by first | exact hI_R | exact band_R | exact bor_R | exact bshr_R | exact lcm_R | omega | (simp (disch := omega) only [e_k, e_f, e_s, e_q]; omega)) (fun hc => ?_) (fun hc => ?_)))) <;> (first | (exfalso; omega) | skip))
      | (show Rch _ _ _ _ _ 66 _ _ _; refine Rch.blk' (Rn_mono mt _) bl_X4_piece_66 (i_iload_n rfl (i_iload rfl (t_cs2 (Rn_mono mt _) 72 rfl (Nat.le_of_ble_eq_true rfl) ?_))))
      | (show Rch _ _ _ _ _ 72 _ _ _; refine Rch.blk' (Rn_mono mt _) bl_X4_piece_72 (t_goto 94 rfl ?_))
      | (show Rch _ _ _ _ _ 75 _ _ _; refine Rch.blk' (Rn_mono mt _) bl_X4_piece_75 (i_iload_n rfl (i_iconst k_5 (t_ic_ne 89 80 rfl rfl (by first | exact hI_R | exact band_R | exact bor_R | exact bshr_R | exact lcm_R | omega | (simp (disch := omega) only [e_k, e_f, e_s, e_q]; omega)) (by first | exact hI_R | exact band_R | exact bor_R | exact bshr_R | exact lcm_R | omega | (simp (disch := omega) only [e_k, e_f, e_s, e_q]; omega)) (fun hc => ?_) (fun hc => ?_)))) <;> (first | (exfalso; omega) | skip))
      | (show Rch _ _ _ _ _ 80 _ _ _; refine Rch.blk' (Rn_mono mt _) bl_X4_piece_80 (i_iload_n rfl (i_iload rfl (t_cs2 (Rn_mono mt _) 86 rfl (Nat.le_of_ble_eq_true rfl) ?_))))
      | (show Rch _ _ _ _ _ 86 _ _ _; refine Rch.blk' (Rn_mono mt _) bl_X4_piece_86 (t_goto 94 rfl ?_))
      | (show Rch _ _ _ _ _ 89 _ _ _; refine Rch.blk' (Rn_mono mt _) bl_X4_piece_89 (i_aload_n rfl (i_iload_n rfl (t_cv2 (Rn_mono mt _) 94 rfl (Nat.le_of_ble_eq_true rfl) ?_))))
      | (show Rch _ _ _ _ _ 94 _ _ _; refine Rch.blk' (Rn_mono mt _) bl_X4_piece_94 (t_iret ?_)))
  repeat' (first
    | exact hq _ _ (by unfold vPiece; omega) JY.rf
    | (show Rn _ _ 110 _ _ _; refine c_X4_isPiece (by assumption) (by assumption) (by first | omega | exact hI_R) (fun _ _ => ?_) (fun _ => ?_))
    | (show Rn _ _ 105 _ _ _; refine c_X4_isIn (by first | omega | exact hI_R) (by first | omega | exact hI_R) (by first | omega | exact hI_R) (fun _ _ => ?_) (fun _ => ?_))
    | (show Rn _ _ 109 _ _ _; refine c_X4_of ?_)
    | (show Rn _ _ 129 _ _ _; refine c_X4_earsBy (by first | omega | exact hI_R) (by omega) (by omega) (fun _ _ => ?_))
    | (show Rn _ _ 130 _ _ _; refine c_X4_worthBy (by first | omega | exact hI_R) (by omega) (by omega) (fun _ _ => ?_))
    | (show Rn _ _ 148 _ _ _; refine c_X4_nextIdea (by assumption) (by assumption) (by omega) (by omega) (by omega) (fun _ _ _ => ?_))
    | (show Rch _ _ _ _ _ 0 _ _ _; refine Rch.blk' (Rn_mono mt _) bl_X4_piece_0 (i_aload_n rfl (i_iload_n rfl (t_cv2 (Rn_mono mt _) 5 rfl (Nat.le_of_ble_eq_true rfl) ?_))))
    | (show Rch _ _ _ _ _ 5 _ _ _; refine Rch.blk' (Rn_mono mt _) bl_X4_piece_5 (t_if_eq 18 8 rfl rfl (by first | exact hI_R | exact band_R | exact bor_R | exact bshr_R | exact lcm_R | omega | (simp (disch := omega) only [e_k, e_f, e_s, e_q]; omega)) (fun hc => ?_) (fun hc => ?_)) <;> (first | (exfalso; omega) | skip))
    | (show Rch _ _ _ _ _ 8 _ _ _; refine Rch.blk' (Rn_mono mt _) bl_X4_piece_8 (i_iload_n rfl (i_iconst k_0 (i_bipush k_6 (t_cs3 (Rn_mono mt _) 15 rfl (Nat.le_of_ble_eq_true rfl) ?_)))))
    | (show Rch _ _ _ _ _ 15 _ _ _; refine Rch.blk' (Rn_mono mt _) bl_X4_piece_15 (t_if_ne 20 18 rfl rfl (by first | exact hI_R | exact band_R | exact bor_R | exact bshr_R | exact lcm_R | omega | (simp (disch := omega) only [e_k, e_f, e_s, e_q]; omega)) (fun hc => ?_) (fun hc => ?_)) <;> (first | (exfalso; omega) | skip))
    | (show Rch _ _ _ _ _ 18 _ _ _; refine Rch.blk' (Rn_mono mt _) bl_X4_piece_18 (i_iconst k_m1 (t_iret ?_)))
    | (show Rch _ _ _ _ _ 20 _ _ _; refine Rch.blk' (Rn_mono mt _) bl_X4_piece_20 (i_aload_n rfl (i_gfs rfl (i_iload_n rfl (i_iconst k_0 (t_cs2 (Rn_mono mt _) 29 rfl (Nat.le_of_ble_eq_true rfl) ?_))))) <;> (try (simp (disch := omega) only [e_k, e_f, e_s, e_q])))
    | (show Rch _ _ _ _ _ 29 _ _ _; refine Rch.blk' (Rn_mono mt _) bl_X4_piece_29 (i_iald rfl (by first | omega | (simp (disch := omega) only [e_k, e_f, e_s, e_q]; omega)) (by simp only [aln]; omega) (by simp only [aln]; omega) (i_istore3 trivial (i_aload_n rfl (i_gfs rfl (i_iload_n rfl (i_iconst k_1 (t_cs2 (Rn_mono mt _) 40 rfl (Nat.le_of_ble_eq_true rfl) ?_))))))) <;> (try (simp (disch := omega) only [e_k, e_f, e_s, e_q])))
    | (show Rch _ _ _ _ _ 40 _ _ _; refine Rch.blk' (Rn_mono mt _) bl_X4_piece_40 (i_iald rfl (by first | omega | (simp (disch := omega) only [e_k, e_f, e_s, e_q]; omega)) (by simp only [aln]; omega) (by simp only [aln]; omega) (i_istore4 trivial (i_iload_n rfl (i_iconst k_4 (t_ic_ge 61 48 rfl rfl (by first | exact hI_R | exact band_R | exact bor_R | exact bshr_R | exact lcm_R | omega | (simp (disch := omega) only [e_k, e_f, e_s, e_q]; omega)) (by first | exact hI_R | exact band_R | exact bor_R | exact bshr_R | exact lcm_R | omega | (simp (disch := omega) only [e_k, e_f, e_s, e_q]; omega)) (fun hc => ?_) (fun hc => ?_)))))) <;> (try (simp (disch := omega) only [e_k, e_f, e_s, e_q] at hc ⊢)) <;> (first | (exfalso; omega) | skip))
    | (show Rch _ _ _ _ _ 48 _ _ _; refine Rch.blk' (Rn_mono mt _) bl_X4_piece_48 (i_aload_n rfl (i_gfs rfl (i_iload_n rfl (i_iload_n rfl (t_cs2 (Rn_mono mt _) 57 rfl (Nat.le_of_ble_eq_true rfl) ?_))))) <;> (try (simp (disch := omega) only [e_k, e_f, e_s, e_q])))
    | (show Rch _ _ _ _ _ 57 _ _ _; refine Rch.blk' (Rn_mono mt _) bl_X4_piece_57 (i_iald rfl (by first | omega | (simp (disch := omega) only [e_k, e_f, e_s, e_q]; omega)) (by simp only [aln]; omega) (by simp only [aln]; omega) (t_goto 94 rfl ?_)) <;> (try (simp (disch := omega) only [e_k, e_f, e_s, e_q])))
    | (show Rch _ _ _ _ _ 61 _ _ _; refine Rch.blk' (Rn_mono mt _) bl_X4_piece_61 (i_iload_n rfl (i_iconst k_4 (t_ic_ne 75 66 rfl rfl (by first | exact hI_R | exact band_R | exact bor_R | exact bshr_R | exact lcm_R | omega | (simp (disch := omega) only [e_k, e_f, e_s, e_q]; omega)) (by first | exact hI_R | exact band_R | exact bor_R | exact bshr_R | exact lcm_R | omega | (simp (disch := omega) only [e_k, e_f, e_s, e_q]; omega)) (fun hc => ?_) (fun hc => ?_)))) <;> (first | (exfalso; omega) | skip))
    | (show Rch _ _ _ _ _ 66 _ _ _; refine Rch.blk' (Rn_mono mt _) bl_X4_piece_66 (i_iload_n rfl (i_iload rfl (t_cs2 (Rn_mono mt _) 72 rfl (Nat.le_of_ble_eq_true rfl) ?_))))
    | (show Rch _ _ _ _ _ 72 _ _ _; refine Rch.blk' (Rn_mono mt _) bl_X4_piece_72 (t_goto 94 rfl ?_))
    | (show Rch _ _ _ _ _ 75 _ _ _; refine Rch.blk' (Rn_mono mt _) bl_X4_piece_75 (i_iload_n rfl (i_iconst k_5 (t_ic_ne 89 80 rfl rfl (by first | exact hI_R | exact band_R | exact bor_R | exact bshr_R | exact lcm_R | omega | (simp (disch := omega) only [e_k, e_f, e_s, e_q]; omega)) (by first | exact hI_R | exact band_R | exact bor_R | exact bshr_R | exact lcm_R | omega | (simp (disch := omega) only [e_k, e_f, e_s, e_q]; omega)) (fun hc => ?_) (fun hc => ?_)))) <;> (first | (exfalso; omega) | skip))
    | (show Rch _ _ _ _ _ 80 _ _ _; refine Rch.blk' (Rn_mono mt _) bl_X4_piece_80 (i_iload_n rfl (i_iload rfl (t_cs2 (Rn_mono mt _) 86 rfl (Nat.le_of_ble_eq_true rfl) ?_))))
    | (show Rch _ _ _ _ _ 86 _ _ _; refine Rch.blk' (Rn_mono mt _) bl_X4_piece_86 (t_goto 94 rfl ?_))
    | (show Rch _ _ _ _ _ 89 _ _ _; refine Rch.blk' (Rn_mono mt _) bl_X4_piece_89 (i_aload_n rfl (i_iload_n rfl (t_cv2 (Rn_mono mt _) 94 rfl (Nat.le_of_ble_eq_true rfl) ?_))))
    | (show Rch _ _ _ _ _ 94 _ _ _; refine Rch.blk' (Rn_mono mt _) bl_X4_piece_94 (t_iret ?_)))
theorem c_X4_on (hG : RR h 0 G no0 0) (hO : OKB G) {q : Int} (hz : inR q) (hq : ∀ v h', v = vOn G q → JY h h' → Q (some (ai (I v))) h') : Rn mt (d + 20) 150 [ar 3 0, ai (I q)] h Q := by
  refine Rn.intro iX4_on rfl rfl ?_
  show Rch bX4_on _ _ _ _ 0 [some (ar 3 0), some (ai (I q)), none] [] _
  have g_n := hO.n
  repeat' (first
    | exact hq _ _ (by unfold vOn; omega) JY.rf
    | (show Rn _ _ 112 _ _ _; refine c_X4_isSquare (by first | omega | exact hI_R) (fun _ _ => ?_) (fun _ => ?_))
    | (show Rn _ _ 117 _ _ _; refine c_X4_onSquare (by assumption) (by assumption) (by omega) (by omega) (fun _ _ _ => ?_) (fun _ => ?_))
    | (show Rch _ _ _ _ _ 0 _ _ _; refine Rch.blk' (Rn_mono mt _) bl_X4_on_0 (i_iload_n rfl (t_cs1 (Rn_mono mt _) 4 rfl (Nat.le_of_ble_eq_true rfl) ?_)))
    | (show Rch _ _ _ _ _ 4 _ _ _; refine Rch.blk' (Rn_mono mt _) bl_X4_on_4 (t_if_ne 9 7 rfl rfl (by first | exact hI_R | exact band_R | exact bor_R | exact bshr_R | exact lcm_R | omega) (fun hc => ?_) (fun hc => ?_)) <;> (first | (exfalso; omega) | skip))
    | (show Rch _ _ _ _ _ 7 _ _ _; refine Rch.blk' (Rn_mono mt _) bl_X4_on_7 (i_iconst k_m1 (t_iret ?_)))
    | (show Rch _ _ _ _ _ 9 _ _ _; refine Rch.blk' (Rn_mono mt _) bl_X4_on_9 (i_aload_n rfl (i_gfs rfl (i_iload_n rfl (t_cs2 (Rn_mono mt _) 17 rfl (Nat.le_of_ble_eq_true rfl) ?_)))))
    | (show Rch _ _ _ _ _ 17 _ _ _; refine Rch.blk' (Rn_mono mt _) bl_X4_on_17 (i_istore2 trivial (i_iload_n rfl (t_if_ge 27 22 rfl rfl (by first | exact hI_R | exact band_R | exact bor_R | exact bshr_R | exact lcm_R | omega) (fun hc => ?_) (fun hc => ?_)))) <;> (first | (exfalso; omega) | skip))
    | (show Rch _ _ _ _ _ 22 _ _ _; refine Rch.blk' (Rn_mono mt _) bl_X4_on_22 (i_bipush k_m4 (t_goto 28 rfl ?_)))
    | (show Rch _ _ _ _ _ 27 _ _ _; refine Rch.blk' (Rn_mono mt _) bl_X4_on_27 (i_iload_n rfl (t_none ?_)))
    | (show Rch _ _ _ _ _ 28 _ _ _; refine Rch.blk' (Rn_mono mt _) bl_X4_on_28 (t_iret ?_)))
theorem c_X4_sets (hG : RR h 0 G no0 0) {a y v0 : Int} (ha : 0 ≤ a ∧ a < 46) (hv : hI h 12 0 a.toNat = v0) (hq : Q (some (ai (I v0))) (mset h 12 0 a.toNat (I y))) : Rn mt (d + 1) 153 [ar 3 0, ai (I a), ai (I y)] h Q := by
  refine Rn.intro iX4_sets rfl rfl ?_
  show Rch bX4_sets _ _ _ _ 0 [some (ar 3 0), some (ai (I a)), some (ai (I y)), none] [] _
  repeat' (first
    | exact hq
    | (show Rch _ _ _ _ _ 0 _ _ _; refine Rch.blk' (Rn_mono mt _) bl_X4_sets_0 (i_aload_n rfl (i_gfs rfl (i_iload_n rfl (i_iald (n := 46) rfl (by first | omega | (simp (disch := omega) only [hv]; omega)) (by first | omega | (simp (disch := omega) only [hv]; omega)) (by first | omega | (simp (disch := omega) only [hv]; omega)) (i_istore3 trivial (i_aload_n rfl (i_gfs rfl (i_iload_n rfl (i_iload_n rfl (i_iast (n := 46) rfl rfl (by first | omega | (simp (disch := omega) only [hv]; omega)) (by first | omega | (simp (disch := omega) only [hv]; omega)) (by first | omega | (simp (disch := omega) only [hv]; omega)) (i_iload_n rfl (t_iret ?_)))))))))))) <;> (try (simp (disch := omega) only [hv]))))
theorem c_X4_stands (hG : RR h 0 G no0 0) (hO : OKB G) {p q : Int} (hp : inR p) (hz : inR q) (hq : ∀ v G' h', oStands G p q = (v, G') → RR h' 0 G' no0 0 → FrR h h' 0 → Q (some (ai (I v))) h') : Rn mt (d + 20) 154 [ar 3 0, ai (I p), ai (I q)] h Q := by
  refine Rn.intro iX4_stands rfl rfl ?_
  show Rch bX4_stands _ _ _ _ 0 [some (ar 3 0), some (ai (I p)), some (ai (I q))] [] _
  have g_n := hO.n
  have k1 : (0 ≤ p ∧ p < nn G) ∧ 0 ≤ q ∧ q < 36 → (ons G q = -4 ∨ ons G q = p) → oStands G p q = (m4 (sq G p), mov G p q) := fun a b => by unfold oStands; rw [if_pos a, if_pos b]
  have k2 : (0 ≤ p ∧ p < nn G) ∧ 0 ≤ q ∧ q < 36 → ¬ (ons G q = -4 ∨ ons G q = p) → oStands G p q = (-3, G) := fun a b => by unfold oStands; rw [if_pos a, if_neg b]
  have k3 : ¬ ((0 ≤ p ∧ p < nn G) ∧ 0 ≤ q ∧ q < 36) → oStands G p q = (-1, G) := fun a => by unfold oStands; rw [if_neg a]
  have kk : (0 ≤ p ∧ p < nn G) ∧ 0 ≤ q ∧ q < 36 → (ons G q = -4 ∨ ons G q = p) → Q (some (ai (I (m4 (sq G p))))) (mset h 12 0 (6 + 4 * p + 3).toNat (I q)) := fun a b => hq _ _ _ (k1 a b) (hG.set_q (by omega) (by omega) (by omega) (m4_p (by omega)).symm rfl) FrR.rf.ms
  repeat' (first
    | (show Rn _ _ 153 _ _ _; refine c_X4_sets hG (by omega) (hG.q (by omega) (by omega)) ?_)
    | exact kk (by omega) (by omega)
    | exact hq _ _ _ (k2 (by omega) (by omega)) hG FrR.rf
    | exact hq _ _ _ (k3 (by omega)) hG FrR.rf
    | (show Rn _ _ 110 _ _ _; refine c_X4_isPiece (by assumption) (by assumption) (by first | omega | exact hI_R) (fun _ _ => ?_) (fun _ => ?_))
    | (show Rn _ _ 112 _ _ _; refine c_X4_isSquare (by first | omega | exact hI_R) (fun _ _ => ?_) (fun _ => ?_))
    | (show Rn _ _ 143 _ _ _; refine c_X4_mayStand (by assumption) (by assumption) (by omega) (by omega) (by omega) (by omega) (fun _ => ?_) (fun _ => ?_))
    | (show Rn _ _ 109 _ _ _; refine c_X4_of ?_)
    | (show Rch _ _ _ _ _ 0 _ _ _; refine Rch.blk' (Rn_mono mt _) bl_X4_stands_0 (i_aload_n rfl (i_iload_n rfl (t_cv2 (Rn_mono mt _) 5 rfl (Nat.le_of_ble_eq_true rfl) ?_))))
    | (show Rch _ _ _ _ _ 5 _ _ _; refine Rch.blk' (Rn_mono mt _) bl_X4_stands_5 (t_if_eq 15 8 rfl rfl (by first | exact hI_R | exact band_R | exact bor_R | exact bshr_R | exact lcm_R | omega) (fun hc => ?_) (fun hc => ?_)) <;> (first | (exfalso; omega) | skip))
    | (show Rch _ _ _ _ _ 8 _ _ _; refine Rch.blk' (Rn_mono mt _) bl_X4_stands_8 (i_iload_n rfl (t_cs1 (Rn_mono mt _) 12 rfl (Nat.le_of_ble_eq_true rfl) ?_)))
    | (show Rch _ _ _ _ _ 12 _ _ _; refine Rch.blk' (Rn_mono mt _) bl_X4_stands_12 (t_if_ne 17 15 rfl rfl (by first | exact hI_R | exact band_R | exact bor_R | exact bshr_R | exact lcm_R | omega) (fun hc => ?_) (fun hc => ?_)) <;> (first | (exfalso; omega) | skip))
    | (show Rch _ _ _ _ _ 15 _ _ _; refine Rch.blk' (Rn_mono mt _) bl_X4_stands_15 (i_iconst k_m1 (t_iret ?_)))
    | (show Rch _ _ _ _ _ 17 _ _ _; refine Rch.blk' (Rn_mono mt _) bl_X4_stands_17 (i_aload_n rfl (i_iload_n rfl (i_iload_n rfl (t_cv3 (Rn_mono mt _) 23 rfl (Nat.le_of_ble_eq_true rfl) ?_)))))
    | (show Rch _ _ _ _ _ 23 _ _ _; refine Rch.blk' (Rn_mono mt _) bl_X4_stands_23 (t_if_eq 39 26 rfl rfl (by first | exact hI_R | exact band_R | exact bor_R | exact bshr_R | exact lcm_R | omega) (fun hc => ?_) (fun hc => ?_)) <;> (first | (exfalso; omega) | skip))
    | (show Rch _ _ _ _ _ 26 _ _ _; refine Rch.blk' (Rn_mono mt _) bl_X4_stands_26 (i_aload_n rfl (i_iload_n rfl (i_iconst k_3 (t_cs2 (Rn_mono mt _) 32 rfl (Nat.le_of_ble_eq_true rfl) ?_)))))
    | (show Rch _ _ _ _ _ 32 _ _ _; refine Rch.blk' (Rn_mono mt _) bl_X4_stands_32 (i_iload_n rfl (t_cv3 (Rn_mono mt _) 36 rfl (Nat.le_of_ble_eq_true rfl) ?_)))
    | (show Rch _ _ _ _ _ 36 _ _ _; refine Rch.blk' (Rn_mono mt _) bl_X4_stands_36 (t_goto 41 rfl ?_))
    | (show Rch _ _ _ _ _ 39 _ _ _; refine Rch.blk' (Rn_mono mt _) bl_X4_stands_39 (i_bipush k_m3 (t_none ?_)))
    | (show Rch _ _ _ _ _ 41 _ _ _; refine Rch.blk' (Rn_mono mt _) bl_X4_stands_41 (t_iret ?_)))
theorem c_X4_takes (hG : RR h 0 G no0 0) (hO : OKB G) {p : Int} (hp : inR p) (hq : ∀ v G' h', oTakes G p = (v, G') → RR h' 0 G' no0 0 → FrR h h' 0 → Q (some (ai (I v))) h') : Rn mt (d + 20) 155 [ar 3 0, ai (I p)] h Q := by
  refine Rn.intro iX4_takes rfl rfl ?_
  show Rch bX4_takes _ _ _ _ 0 [some (ar 3 0), some (ai (I p))] [] _
  have g_n := hO.n
  have k1 : (0 ≤ p ∧ p < nn G) → sq G p < 36 → oTakes G p = (sq G p, mov G p 36) := fun a b => by unfold oTakes; rw [if_pos a, if_pos b]
  have k2 : (0 ≤ p ∧ p < nn G) → ¬ sq G p < 36 → oTakes G p = (-3, G) := fun a b => by unfold oTakes; rw [if_pos a, if_neg b]
  have k3 : ¬ (0 ≤ p ∧ p < nn G) → oTakes G p = (-1, G) := fun a => by unfold oTakes; rw [if_neg a]
  have kk : (0 ≤ p ∧ p < nn G) → sq G p < 36 → Q (some (ai (I (sq G p)))) (mset h 12 0 (6 + 4 * p + 3).toNat (I (-4))) := fun a b => hq _ _ _ (k1 a b) (hG.set_q (z := p) (s := 36) (v := -4) (j := (6 + 4 * p + 3).toNat) (by omega) (by omega) (by omega) (m4_n rfl).symm rfl) FrR.rf.ms
  have kk2 : (0 ≤ p ∧ p < nn G) → ¬ sq G p < 36 → Q (some (ai (I (-3)))) h := fun a b => hq _ _ _ (k2 a b) hG FrR.rf
  have kk3 : ¬ (0 ≤ p ∧ p < nn G) → Q (some (ai (I (-1)))) h := fun a => hq _ _ _ (k3 a) hG FrR.rf
  have kv : 0 ≤ p → p < nn G → sq G p < 36 → hI h 12 0 (6 + 4 * p + 3).toNat = sq G p := fun a b c => (hG.q a b).trans (m4_p c)
  clear hq k1 k2 k3
  repeat' (first
    | (show Rn _ _ 153 _ _ _; refine c_X4_sets hG (by omega) (kv (by omega) (by omega) (by omega)) ?_)
    | exact kk (by omega) (by omega)
    | exact kk2 (by omega) (by omega)
    | exact kk3 (by omega)
    | (show Rn _ _ 110 _ _ _; refine c_X4_isPiece (by assumption) (by assumption) (by first | omega | exact hI_R) (fun _ _ => ?_) (fun _ => ?_))
    | (show Rn _ _ 114 _ _ _; refine c_X4_isHere (by assumption) (by assumption) (by omega) (by omega) (fun _ _ => ?_) (fun _ => ?_))
    | (show Rn _ _ 109 _ _ _; refine c_X4_of ?_)
    | (show Rch _ _ _ _ _ 0 _ _ _; refine Rch.blk' (Rn_mono mt _) bl_X4_takes_0 (i_aload_n rfl (i_iload_n rfl (t_cv2 (Rn_mono mt _) 5 rfl (Nat.le_of_ble_eq_true rfl) ?_))))
    | (show Rch _ _ _ _ _ 5 _ _ _; refine Rch.blk' (Rn_mono mt _) bl_X4_takes_5 (t_if_ne 10 8 rfl rfl (by first | exact hI_R | exact band_R | exact bor_R | exact bshr_R | exact lcm_R | omega) (fun hc => ?_) (fun hc => ?_)) <;> (first | (exfalso; omega) | skip))
    | (show Rch _ _ _ _ _ 8 _ _ _; refine Rch.blk' (Rn_mono mt _) bl_X4_takes_8 (i_iconst k_m1 (t_iret ?_)))
    | (show Rch _ _ _ _ _ 10 _ _ _; refine Rch.blk' (Rn_mono mt _) bl_X4_takes_10 (i_aload_n rfl (i_gfs rfl (i_iload_n rfl (t_cs2 (Rn_mono mt _) 18 rfl (Nat.le_of_ble_eq_true rfl) ?_)))))
    | (show Rch _ _ _ _ _ 18 _ _ _; refine Rch.blk' (Rn_mono mt _) bl_X4_takes_18 (t_if_eq 35 21 rfl rfl (by first | exact hI_R | exact band_R | exact bor_R | exact bshr_R | exact lcm_R | omega) (fun hc => ?_) (fun hc => ?_)) <;> (first | (exfalso; omega) | skip))
    | (show Rch _ _ _ _ _ 21 _ _ _; refine Rch.blk' (Rn_mono mt _) bl_X4_takes_21 (i_aload_n rfl (i_iload_n rfl (i_iconst k_3 (t_cs2 (Rn_mono mt _) 27 rfl (Nat.le_of_ble_eq_true rfl) ?_)))))
    | (show Rch _ _ _ _ _ 27 _ _ _; refine Rch.blk' (Rn_mono mt _) bl_X4_takes_27 (i_bipush k_m4 (t_cv3 (Rn_mono mt _) 32 rfl (Nat.le_of_ble_eq_true rfl) ?_)))
    | (show Rch _ _ _ _ _ 32 _ _ _; refine Rch.blk' (Rn_mono mt _) bl_X4_takes_32 (t_goto 37 rfl ?_))
    | (show Rch _ _ _ _ _ 35 _ _ _; refine Rch.blk' (Rn_mono mt _) bl_X4_takes_35 (i_bipush k_m3 (t_none ?_)))
    | (show Rch _ _ _ _ _ 37 _ _ _; refine Rch.blk' (Rn_mono mt _) bl_X4_takes_37 (t_iret ?_)))
theorem c_X4_turn (hG : RR h 0 G no0 0) (hO : OKB G) {s : Int} (hs : inR s) (hq : ∀ v G' h', oTurn G s = (v, G') → RR h' 0 G' no0 0 → FrR h h' 0 → Q (some (ai (I v))) h') : Rn mt (d + 20) 156 [ar 3 0, ai (I s)] h Q := by
  refine Rn.intro iX4_turn rfl rfl ?_
  show Rch bX4_turn _ _ _ _ 0 [some (ar 3 0), some (ai (I s))] [] _
  have k1 : (s = 0 ∨ s = 1) → oTurn G s = (tn G, sett G s) := fun a => by unfold oTurn; rw [if_pos a]
  have k3 : ¬ (s = 0 ∨ s = 1) → oTurn G s = (-1, G) := fun a => by unfold oTurn; rw [if_neg a]
  have kk : (s = 0 ∨ s = 1) → Q (some (ai (I (tn G)))) (mset h 12 0 (Int.toNat 2) (I s)) := fun a => hq _ _ _ (k1 a) (hG.set_t hs rfl) FrR.rf.ms
  repeat' (first
    | (show Rn _ _ 153 _ _ _; refine c_X4_sets hG (by omega) hG.t ?_)
    | exact kk (by omega)
    | exact hq _ _ _ (k3 (by omega)) hG FrR.rf
    | (show Rn _ _ 113 _ _ _; refine c_X4_isSide (by first | omega | exact hI_R) (fun _ => ?_) (fun _ => ?_))
    | (show Rch _ _ _ _ _ 0 _ _ _; refine Rch.blk' (Rn_mono mt _) bl_X4_turn_0 (i_iload_n rfl (t_cs1 (Rn_mono mt _) 4 rfl (Nat.le_of_ble_eq_true rfl) ?_)))
    | (show Rch _ _ _ _ _ 4 _ _ _; refine Rch.blk' (Rn_mono mt _) bl_X4_turn_4 (t_if_eq 16 7 rfl rfl (by first | exact hI_R | exact band_R | exact bor_R | exact bshr_R | exact lcm_R | omega) (fun hc => ?_) (fun hc => ?_)) <;> (first | (exfalso; omega) | skip))
    | (show Rch _ _ _ _ _ 7 _ _ _; refine Rch.blk' (Rn_mono mt _) bl_X4_turn_7 (i_aload_n rfl (i_iconst k_2 (i_iload_n rfl (t_cv3 (Rn_mono mt _) 13 rfl (Nat.le_of_ble_eq_true rfl) ?_)))))
    | (show Rch _ _ _ _ _ 13 _ _ _; refine Rch.blk' (Rn_mono mt _) bl_X4_turn_13 (t_goto 17 rfl ?_))
    | (show Rch _ _ _ _ _ 16 _ _ _; refine Rch.blk' (Rn_mono mt _) bl_X4_turn_16 (i_iconst k_m1 (t_none ?_)))
    | (show Rch _ _ _ _ _ 17 _ _ _; refine Rch.blk' (Rn_mono mt _) bl_X4_turn_17 (t_iret ?_)))
theorem c_X4_days (hG : RR h 0 G no0 0) (hO : OKB G) (hy : dy G ≤ 999) {n : Int} (hn : inR n) (hq : ∀ v G' h', oDays G n = (v, G') → RR h' 0 G' no0 0 → FrR h h' 0 → Q (some (ai (I v))) h') : Rn mt (d + 20) 157 [ar 3 0, ai (I n)] h Q := by
  refine Rn.intro iX4_days rfl rfl ?_
  show Rch bX4_days _ _ _ _ 0 [some (ar 3 0), some (ai (I n))] [] _
  have e_d := hG.d
  have g_d := hO.2.2.2.1
  have k1 : (1 ≤ n ∧ n ≤ 60) → dy G + n ≤ 999 → oDays G n = (NT (DN G no0 n), DN G no0 n) := fun a b => by unfold oDays; rw [if_pos a, if_pos b]
  have k2 : (1 ≤ n ∧ n ≤ 60) → ¬ dy G + n ≤ 999 → oDays G n = (-3, G) := fun a b => by unfold oDays; rw [if_pos a, if_neg b]
  have k3 : ¬ (1 ≤ n ∧ n ≤ 60) → oDays G n = (-1, G) := fun a => by unfold oDays; rw [if_neg a]
  have k4 : 1 ≤ n → OKB (DN G no0 n) := fun a => (DN_f (M := no0) hO n (by omega)).1
  have k5 : 1 ≤ n → cnt (TS (DN G no0 n)) 10 = NT (DN G no0 n) := fun a => TS_cnt (k4 a)
  repeat' (first
    | (show Rn _ _ 138 _ _ _; refine c_X4_daysOn hG hO (by omega) (by omega) (by omega) (fun _ _ _ => ?_))
    | (show Rn _ _ 133 _ _ _; refine c_X4_hereIn (by assumption) (k4 (by omega)) ?_)
    | (rw [k5 (by omega)]; exact hq _ _ _ (k1 (by omega) (by omega)) (by assumption) (by assumption))
    | exact hq _ _ _ (k2 (by omega) (by omega)) hG FrR.rf
    | exact hq _ _ _ (k3 (by omega)) hG FrR.rf
    | (show Rn _ _ 105 _ _ _; refine c_X4_isIn (by first | omega | exact hI_R) (by first | omega | exact hI_R) (by first | omega | exact hI_R) (fun _ _ => ?_) (fun _ => ?_))
    | (show Rn _ _ 133 _ _ _; refine c_X4_hereIn (by assumption) (by assumption) ?_)
    | (show Rn _ _ 116 _ _ _; refine c_X4_bits (fun _ _ => ?_))
    | (show Rch _ _ _ _ _ 0 _ _ _; refine Rch.blk' (Rn_mono mt _) bl_X4_days_0 (i_iload_n rfl (i_iconst k_1 (i_bipush k_60 (t_cs3 (Rn_mono mt _) 7 rfl (Nat.le_of_ble_eq_true rfl) ?_)))))
    | (show Rch _ _ _ _ _ 7 _ _ _; refine Rch.blk' (Rn_mono mt _) bl_X4_days_7 (t_if_ne 12 10 rfl rfl (by first | exact hI_R | exact band_R | exact bor_R | exact bshr_R | exact lcm_R | omega | (simp (disch := omega) only [e_d]; omega)) (fun hc => ?_) (fun hc => ?_)) <;> (first | (exfalso; omega) | skip))
    | (show Rch _ _ _ _ _ 10 _ _ _; refine Rch.blk' (Rn_mono mt _) bl_X4_days_10 (i_iconst k_m1 (t_iret ?_)))
    | (show Rch _ _ _ _ _ 12 _ _ _; refine Rch.blk' (Rn_mono mt _) bl_X4_days_12 (i_aload_n rfl (i_gfs rfl (i_iconst k_1 (i_iald (n := 46) rfl (by first | omega | (simp (disch := omega) only [e_d]; omega)) (by first | omega | (simp (disch := omega) only [e_d]; omega)) (by first | omega | (simp (disch := omega) only [e_d]; omega)) (i_iload_n rfl (i_iadd (i_sipush k_999 (t_ic_le 29 26 rfl rfl (by first | exact hI_R | exact band_R | exact bor_R | exact bshr_R | exact lcm_R | omega | (simp (disch := omega) only [e_d]; omega)) (by first | exact hI_R | exact band_R | exact bor_R | exact bshr_R | exact lcm_R | omega | (simp (disch := omega) only [e_d]; omega)) (fun hc => ?_) (fun hc => ?_))))))))) <;> (try (simp (disch := omega) only [e_d] at hc ⊢)) <;> (first | (exfalso; omega) | skip))
    | (show Rch _ _ _ _ _ 26 _ _ _; refine Rch.blk' (Rn_mono mt _) bl_X4_days_26 (i_bipush k_m3 (t_iret ?_)))
    | (show Rch _ _ _ _ _ 29 _ _ _; refine Rch.blk' (Rn_mono mt _) bl_X4_days_29 (i_aload_n rfl (i_gfs rfl (i_iload_n rfl (t_cs2 (Rn_mono mt _) 37 rfl (Nat.le_of_ble_eq_true rfl) ?_)))) <;> (try (simp (disch := omega) only [e_d])))
    | (show Rch _ _ _ _ _ 37 _ _ _; refine Rch.blk' (Rn_mono mt _) bl_X4_days_37 (i_aload_n rfl (i_gfs rfl (t_cs1 (Rn_mono mt _) 44 rfl (Nat.le_of_ble_eq_true rfl) ?_))) <;> (try (simp (disch := omega) only [e_d])))
    | (show Rch _ _ _ _ _ 44 _ _ _; refine Rch.blk' (Rn_mono mt _) bl_X4_days_44 (t_cs1 (Rn_mono mt _) 47 rfl (Nat.le_of_ble_eq_true rfl) ?_))
    | (show Rch _ _ _ _ _ 47 _ _ _; refine Rch.blk' (Rn_mono mt _) bl_X4_days_47 (t_iret ?_)))
theorem c_X4_isLate {x : Int} (hx : inR x) (h1 : 0 ≤ x → x ≤ 60 → Q (some (ai (I 1))) h) (h0 : ¬ (0 ≤ x ∧ x ≤ 60) → Q (some (ai (I 0))) h) : Rn mt (d + 2) 158 [ai (I x)] h Q := by
  refine Rn.intro iX4_isLate rfl rfl ?_
  show Rch bX4_isLate _ _ _ _ 0 [some (ai (I x))] [] _
  repeat' (first
    | exact h1 (by omega) (by omega)
    | exact h0 (by omega)
    | (show Rn _ _ 105 _ _ _; refine c_X4_isIn (by first | omega | exact hI_R) (by first | omega | exact hI_R) (by first | omega | exact hI_R) (fun _ _ => ?_) (fun _ => ?_))
    | (show Rch _ _ _ _ _ 0 _ _ _; refine Rch.blk' (Rn_mono mt _) bl_X4_isLate_0 (i_iload_n rfl (i_iconst k_0 (i_bipush k_60 (t_cs3 (Rn_mono mt _) 7 rfl (Nat.le_of_ble_eq_true rfl) ?_)))))
    | (show Rch _ _ _ _ _ 7 _ _ _; refine Rch.blk' (Rn_mono mt _) bl_X4_isLate_7 (t_zret (by omega) ?_)))
theorem c_X4_squareThen (hG : RR h 0 G no0 0) (hO : OKB G) (hy : dy G ≤ 999) {p n : Int} (hp : inR p) (hn : inR n) (hq : ∀ v h', v = vSquareThen G p n → JY h h' → Q (some (ai (I v))) h') : Rn mt (d + 20) 160 [ar 3 0, ai (I p), ai (I n)] h Q := by
  refine Rn.intro iX4_squareThen rfl rfl ?_
  show Rch bX4_squareThen _ _ _ _ 0 [some (ar 3 0), some (ai (I p)), some (ai (I n))] [] _
  have g_n := hO.n
  have k5 : 0 ≤ n → nn (DN G no0 n) = nn G := fun a => (DN_f (M := no0) hO n a).2.1
  have kr : ∀ m, RR m 1 (DN G no0 n) no0 0 → 0 ≤ n → 0 ≤ p → p < nn G → hI m 12 1 (6 + 4 * p + 3).toNat = m4 (sq (DN G no0 n) p) := fun m a b c e => a.q c (by rw [k5 b]; exact e)
  repeat' (first
    | (show Rn _ _ 159 _ _ _; refine c_X4_inMind hG hO (by omega) (by omega) (by omega) (fun _ _ _ => ?_))
    | (rw [kr _ (by assumption) (by omega) (by omega) (by omega)]; exact hq _ _ (by unfold vSquareThen; omega) (FrR.jy (by assumption) (by omega)))
    | exact hq _ _ (by unfold vSquareThen; omega) JY.rf
    | (show Rn _ _ 110 _ _ _; refine c_X4_isPiece (by assumption) (by assumption) (by first | omega | exact hI_R) (fun _ _ => ?_) (fun _ => ?_))
    | (show Rn _ _ 158 _ _ _; refine c_X4_isLate (by first | omega | exact hI_R) (fun _ _ => ?_) (fun _ => ?_))
    | (show Rn _ _ 109 _ _ _; refine c_X4_of ?_)
    | (show Rch _ _ _ _ _ 0 _ _ _; refine Rch.blk' (Rn_mono mt _) bl_X4_squareThen_0 (i_aload_n rfl (i_iload_n rfl (t_cv2 (Rn_mono mt _) 5 rfl (Nat.le_of_ble_eq_true rfl) ?_))))
    | (show Rch _ _ _ _ _ 5 _ _ _; refine Rch.blk' (Rn_mono mt _) bl_X4_squareThen_5 (t_if_eq 15 8 rfl rfl (by first | exact hI_R | exact band_R | exact bor_R | exact bshr_R | exact lcm_R | omega) (fun hc => ?_) (fun hc => ?_)) <;> (first | (exfalso; omega) | skip))
    | (show Rch _ _ _ _ _ 8 _ _ _; refine Rch.blk' (Rn_mono mt _) bl_X4_squareThen_8 (i_iload_n rfl (t_cs1 (Rn_mono mt _) 12 rfl (Nat.le_of_ble_eq_true rfl) ?_)))
    | (show Rch _ _ _ _ _ 12 _ _ _; refine Rch.blk' (Rn_mono mt _) bl_X4_squareThen_12 (t_if_ne 17 15 rfl rfl (by first | exact hI_R | exact band_R | exact bor_R | exact bshr_R | exact lcm_R | omega) (fun hc => ?_) (fun hc => ?_)) <;> (first | (exfalso; omega) | skip))
    | (show Rch _ _ _ _ _ 15 _ _ _; refine Rch.blk' (Rn_mono mt _) bl_X4_squareThen_15 (i_iconst k_m1 (t_iret ?_)))
    | (show Rch _ _ _ _ _ 17 _ _ _; refine Rch.blk' (Rn_mono mt _) bl_X4_squareThen_17 (i_aload_n rfl (i_iload_n rfl (t_cv2 (Rn_mono mt _) 22 rfl (Nat.le_of_ble_eq_true rfl) ?_))))
    | (show Rch _ _ _ _ _ 22 _ _ _; refine Rch.blk' (Rn_mono mt _) bl_X4_squareThen_22 (i_aload_n rfl (i_gfs rfl (i_iload_n rfl (i_iconst k_3 (t_cs2 (Rn_mono mt _) 31 rfl (Nat.le_of_ble_eq_true rfl) ?_))))))
    | (show Rch _ _ _ _ _ 31 _ _ _; refine Rch.blk' (Rn_mono mt _) bl_X4_squareThen_31 (i_iald rfl (by omega) (by simp only [aln]; omega) (by simp only [aln]; omega) (t_iret ?_))))
theorem c_X4_then (hG : RR h 0 G no0 0) (hO : OKB G) (hy : dy G ≤ 999) {n w : Int} (hn : inR n) (hw : inR w) (hq : ∀ v h', v = vThen G n w → JY h h' → Q (some (ai (I v))) h') : Rn mt (d + 20) 161 [ar 3 0, ai (I n), ai (I w)] h Q := by
  refine Rn.intro iX4_then rfl rfl ?_
  show Rch bX4_then _ _ _ _ 0 [some (ar 3 0), some (ai (I n)), some (ai (I w))] [] _
  have k4 : 0 ≤ n → OKB (DN G no0 n) := fun a => (DN_f (M := no0) hO n a).1
  have kr : ∀ m, RR m 1 (DN G no0 n) no0 0 → hI m 12 1 (Int.toNat 3) = th (DN G no0 n) := fun m a => a.o
  have kw : 0 ≤ n → w = 2 → WS (DN G no0 n) (OS (DN G no0 n) (w - 2)) = WO (DN G no0 n) 0 := fun a b => by subst b; exact WS_OS (k4 a) _
  have kv : 0 ≤ n → w = 3 → WS (DN G no0 n) (OS (DN G no0 n) (w - 2)) = WO (DN G no0 n) 1 := fun a b => by subst b; exact WS_OS (k4 a) _
  repeat' (first
    | (show Rn _ _ 159 _ _ _; refine c_X4_inMind hG hO (by omega) (by omega) (by omega) (fun _ _ _ => ?_))
    | (show Rn _ _ 133 _ _ _; refine c_X4_hereIn (by assumption) (k4 (by omega)) ?_)
    | (show Rn _ _ 134 _ _ _; refine c_X4_ofSide (by assumption) (k4 (by omega)) (by omega) ?_)
    | (show Rn _ _ 135 _ _ _; refine c_X4_worthOf (by assumption) (k4 (by omega)) (fun _ _ => ?_))
    | exact hq _ _ (by unfold vThen; omega) (FrR.jy (by assumption) (by omega))
    | (rw [kr _ (by assumption)]; exact hq _ _ (by unfold vThen; omega) (FrR.jy (by assumption) (by omega)))
    | (rw [kw (by omega) (by omega)]; exact hq _ _ (by unfold vThen; omega) (FrR.jy (by assumption) (by omega)))
    | (rw [kv (by omega) (by omega)]; exact hq _ _ (by unfold vThen; omega) (FrR.jy (by assumption) (by omega)))
    | exact hq _ _ (by unfold vThen; omega) JY.rf
    | (show Rn _ _ 158 _ _ _; refine c_X4_isLate (by first | omega | exact hI_R) (fun _ _ => ?_) (fun _ => ?_))
    | (show Rn _ _ 105 _ _ _; refine c_X4_isIn (by first | omega | exact hI_R) (by first | omega | exact hI_R) (by first | omega | exact hI_R) (fun _ _ => ?_) (fun _ => ?_))
    | (show Rn _ _ 133 _ _ _; refine c_X4_hereIn (by assumption) (by assumption) ?_)
    | (show Rn _ _ 134 _ _ _; refine c_X4_ofSide (by assumption) (by assumption) (by first | omega | exact hI_R) ?_)
    | (show Rn _ _ 135 _ _ _; refine c_X4_worthOf (by assumption) (by assumption) (fun _ _ => ?_))
    | (show Rch _ _ _ _ _ 0 _ _ _; refine Rch.blk' (Rn_mono mt _) bl_X4_then_0 (i_iload_n rfl (t_cs1 (Rn_mono mt _) 4 rfl (Nat.le_of_ble_eq_true rfl) ?_)))
    | (show Rch _ _ _ _ _ 4 _ _ _; refine Rch.blk' (Rn_mono mt _) bl_X4_then_4 (t_if_eq 16 7 rfl rfl (by first | exact hI_R | exact band_R | exact bor_R | exact bshr_R | exact lcm_R | omega) (fun hc => ?_) (fun hc => ?_)) <;> (first | (exfalso; omega) | skip))
    | (show Rch _ _ _ _ _ 7 _ _ _; refine Rch.blk' (Rn_mono mt _) bl_X4_then_7 (i_iload_n rfl (i_iconst k_0 (i_iconst k_3 (t_cs3 (Rn_mono mt _) 13 rfl (Nat.le_of_ble_eq_true rfl) ?_)))))
    | (show Rch _ _ _ _ _ 13 _ _ _; refine Rch.blk' (Rn_mono mt _) bl_X4_then_13 (t_if_ne 18 16 rfl rfl (by first | exact hI_R | exact band_R | exact bor_R | exact bshr_R | exact lcm_R | omega) (fun hc => ?_) (fun hc => ?_)) <;> (first | (exfalso; omega) | skip))
    | (show Rch _ _ _ _ _ 16 _ _ _; refine Rch.blk' (Rn_mono mt _) bl_X4_then_16 (i_iconst k_m1 (t_iret ?_)))
    | (show Rch _ _ _ _ _ 18 _ _ _; refine Rch.blk' (Rn_mono mt _) bl_X4_then_18 (i_aload_n rfl (i_iload_n rfl (t_cv2 (Rn_mono mt _) 23 rfl (Nat.le_of_ble_eq_true rfl) ?_))))
    | (show Rch _ _ _ _ _ 23 _ _ _; refine Rch.blk' (Rn_mono mt _) bl_X4_then_23 (i_iload_n rfl (t_if_ne 37 27 rfl rfl (by first | exact hI_R | exact band_R | exact bor_R | exact bshr_R | exact lcm_R | omega) (fun hc => ?_) (fun hc => ?_))) <;> (first | (exfalso; omega) | skip))
    | (show Rch _ _ _ _ _ 27 _ _ _; refine Rch.blk' (Rn_mono mt _) bl_X4_then_27 (i_aload_n rfl (i_gfs rfl (t_cs1 (Rn_mono mt _) 34 rfl (Nat.le_of_ble_eq_true rfl) ?_))))
    | (show Rch _ _ _ _ _ 34 _ _ _; refine Rch.blk' (Rn_mono mt _) bl_X4_then_34 (t_goto 68 rfl ?_))
    | (show Rch _ _ _ _ _ 37 _ _ _; refine Rch.blk' (Rn_mono mt _) bl_X4_then_37 (i_iload_n rfl (i_iconst k_1 (t_ic_ne 51 42 rfl rfl (by first | exact hI_R | exact band_R | exact bor_R | exact bshr_R | exact lcm_R | omega) (by first | exact hI_R | exact band_R | exact bor_R | exact bshr_R | exact lcm_R | omega) (fun hc => ?_) (fun hc => ?_)))) <;> (first | (exfalso; omega) | skip))
    | (show Rch _ _ _ _ _ 42 _ _ _; refine Rch.blk' (Rn_mono mt _) bl_X4_then_42 (i_aload_n rfl (i_gfs rfl (i_iconst k_3 (i_iald (n := 46) rfl (by omega) (by omega) (by omega) (t_goto 68 rfl ?_))))))
    | (show Rch _ _ _ _ _ 51 _ _ _; refine Rch.blk' (Rn_mono mt _) bl_X4_then_51 (i_aload_n rfl (i_gfs rfl (i_aload_n rfl (i_gfs rfl (i_iload_n rfl (i_iconst k_2 (i_isub (t_cs2 (Rn_mono mt _) 65 rfl (Nat.le_of_ble_eq_true rfl) ?_)))))))))
    | (show Rch _ _ _ _ _ 65 _ _ _; refine Rch.blk' (Rn_mono mt _) bl_X4_then_65 (t_cs2 (Rn_mono mt _) 68 rfl (Nat.le_of_ble_eq_true rfl) ?_))
    | (show Rch _ _ _ _ _ 68 _ _ _; refine Rch.blk' (Rn_mono mt _) bl_X4_then_68 (t_iret ?_)))
theorem c_X4_next (hG : RR h 0 G no0 0) (hO : OKB G) (hy : dy G ≤ 999) {w : Int} (hw : inR w) (hq : ∀ v h', v = vNext G w → JY h h' → Q (some (ai (I v))) h') : Rn mt (d + 20) 167 [ar 3 0, ai (I w)] h Q := by
  refine Rn.intro iX4_next rfl rfl ?_
  show Rch bX4_next _ _ _ _ 0 [some (ar 3 0), some (ai (I w)), none] [] _
  have e_d := hG.d
  have g_d := hO.2.2.2.1
  have g_n := hO.n
  have g_g := goer_R (G := G) (M := no0) (ra := 0) (y := dy G + 1) hO
  have g_g1 : goer G no0 0 (dy G + 1) = -4 ∨ (0 ≤ goer G no0 0 (dy G + 1) ∧ goer G no0 0 (dy G + 1) < nn G ∧ sq G (goer G no0 0 (dy G + 1)) < 36) := g_g.elim Or.inl (fun z => Or.inr ⟨z.1, z.2.1, z.2.2.2.1⟩)
  clear g_g
  have g_h : NH G 0 (goer G no0 0 (dy G + 1)) = cnt (HS G 0 (goer G no0 0 (dy G + 1))) 10 := rfl
  have g_i : sq G (goer G no0 0 (dy G + 1)) < 36 → ideN G (goer G no0 0 (dy G + 1)) = ide G (goer G no0 0 (dy G + 1)) (dy G + 1) := fun z => if_pos z
  repeat' (first
    | (show Rn _ _ 136 _ _ _; refine c_X4_goesOn hG hO (by omega) (by omega) (by omega) (fun v hv _ => ?_); subst hv)
    | exact hq _ _ (by subst_vars; unfold vNext; omega) JY.rf
    | (show Rn _ _ 105 _ _ _; refine c_X4_isIn (by first | omega | exact hI_R) (by first | omega | exact hI_R) (by first | omega | exact hI_R) (fun _ _ => ?_) (fun _ => ?_))
    | (show Rn _ _ 136 _ _ _; refine c_X4_goesOn (by assumption) (by assumption) (by omega) (by omega) (by omega) (fun _ _ _ => ?_))
    | (show Rn _ _ 148 _ _ _; refine c_X4_nextIdea (by assumption) (by assumption) (by omega) (by omega) (by omega) (fun _ _ _ => ?_))
    | (show Rn _ _ 132 _ _ _; refine c_X4_heardBy (by assumption) (by assumption) (by omega) (by omega) (by omega) (by omega) ?_)
    | (show Rn _ _ 116 _ _ _; refine c_X4_bits (fun _ _ => ?_))
    | (show Rch _ _ _ _ _ 0 _ _ _; refine Rch.blk' (Rn_mono mt _) bl_X4_next_0 (i_iload_n rfl (i_iconst k_0 (i_iconst k_2 (t_cs3 (Rn_mono mt _) 6 rfl (Nat.le_of_ble_eq_true rfl) ?_)))))
    | (show Rch _ _ _ _ _ 6 _ _ _; refine Rch.blk' (Rn_mono mt _) bl_X4_next_6 (t_if_ne 11 9 rfl rfl (by first | exact hI_R | exact band_R | exact bor_R | exact bshr_R | exact lcm_R | omega | (simp (disch := omega) only [e_d]; omega)) (fun hc => ?_) (fun hc => ?_)) <;> (first | (exfalso; omega) | skip))
    | (show Rch _ _ _ _ _ 9 _ _ _; refine Rch.blk' (Rn_mono mt _) bl_X4_next_9 (i_iconst k_m1 (t_iret ?_)))
    | (show Rch _ _ _ _ _ 11 _ _ _; refine Rch.blk' (Rn_mono mt _) bl_X4_next_11 (i_aload_n rfl (i_gfs rfl (i_aload_n rfl (i_gfs rfl (i_iconst k_1 (i_iald (n := 46) rfl (by first | omega | (simp (disch := omega) only [e_d]; omega)) (by first | omega | (simp (disch := omega) only [e_d]; omega)) (by first | omega | (simp (disch := omega) only [e_d]; omega)) (i_iconst k_1 (i_iadd (t_cs2 (Rn_mono mt _) 26 rfl (Nat.le_of_ble_eq_true rfl) ?_))))))))) <;> (try (simp (disch := omega) only [e_d])))
    | (show Rch _ _ _ _ _ 26 _ _ _; refine Rch.blk' (Rn_mono mt _) bl_X4_next_26 (i_istore2 trivial (i_iload_n rfl (t_if_ge 43 31 rfl rfl (by first | exact hI_R | exact band_R | exact bor_R | exact bshr_R | exact lcm_R | omega | (simp (disch := omega) only [e_d]; omega)) (fun hc => ?_) (fun hc => ?_)))) <;> (first | (exfalso; omega) | skip))
    | (show Rch _ _ _ _ _ 31 _ _ _; refine Rch.blk' (Rn_mono mt _) bl_X4_next_31 (i_iload_n rfl (i_iconst k_2 (t_ic_ne 40 36 rfl rfl (by first | exact hI_R | exact band_R | exact bor_R | exact bshr_R | exact lcm_R | omega | (simp (disch := omega) only [e_d]; omega)) (by first | exact hI_R | exact band_R | exact bor_R | exact bshr_R | exact lcm_R | omega | (simp (disch := omega) only [e_d]; omega)) (fun hc => ?_) (fun hc => ?_)))) <;> (first | (exfalso; omega) | skip))
    | (show Rch _ _ _ _ _ 36 _ _ _; refine Rch.blk' (Rn_mono mt _) bl_X4_next_36 (i_iconst k_0 (t_goto 42 rfl ?_)))
    | (show Rch _ _ _ _ _ 40 _ _ _; refine Rch.blk' (Rn_mono mt _) bl_X4_next_40 (i_bipush k_m4 (t_none ?_)))
    | (show Rch _ _ _ _ _ 42 _ _ _; refine Rch.blk' (Rn_mono mt _) bl_X4_next_42 (t_iret ?_))
    | (show Rch _ _ _ _ _ 43 _ _ _; refine Rch.blk' (Rn_mono mt _) bl_X4_next_43 (i_iload_n rfl (t_if_ne 51 47 rfl rfl (by first | exact hI_R | exact band_R | exact bor_R | exact bshr_R | exact lcm_R | omega | (simp (disch := omega) only [e_d]; omega)) (fun hc => ?_) (fun hc => ?_))) <;> (first | (exfalso; omega) | skip))
    | (show Rch _ _ _ _ _ 47 _ _ _; refine Rch.blk' (Rn_mono mt _) bl_X4_next_47 (i_iload_n rfl (t_goto 75 rfl ?_)))
    | (show Rch _ _ _ _ _ 51 _ _ _; refine Rch.blk' (Rn_mono mt _) bl_X4_next_51 (i_iload_n rfl (i_iconst k_1 (t_ic_ne 64 56 rfl rfl (by first | exact hI_R | exact band_R | exact bor_R | exact bshr_R | exact lcm_R | omega | (simp (disch := omega) only [e_d]; omega)) (by first | exact hI_R | exact band_R | exact bor_R | exact bshr_R | exact lcm_R | omega | (simp (disch := omega) only [e_d]; omega)) (fun hc => ?_) (fun hc => ?_)))) <;> (first | (exfalso; omega) | skip))
    | (show Rch _ _ _ _ _ 56 _ _ _; refine Rch.blk' (Rn_mono mt _) bl_X4_next_56 (i_aload_n rfl (i_iload_n rfl (t_cv2 (Rn_mono mt _) 61 rfl (Nat.le_of_ble_eq_true rfl) ?_))))
    | (show Rch _ _ _ _ _ 61 _ _ _; refine Rch.blk' (Rn_mono mt _) bl_X4_next_61 (t_goto 75 rfl ?_))
    | (show Rch _ _ _ _ _ 64 _ _ _; refine Rch.blk' (Rn_mono mt _) bl_X4_next_64 (i_aload_n rfl (i_gfs rfl (i_iload_n rfl (t_cs2 (Rn_mono mt _) 72 rfl (Nat.le_of_ble_eq_true rfl) ?_)))) <;> (try (simp (disch := omega) only [e_d])))
    | (show Rch _ _ _ _ _ 72 _ _ _; refine Rch.blk' (Rn_mono mt _) bl_X4_next_72 (t_cs1 (Rn_mono mt _) 75 rfl (Nat.le_of_ble_eq_true rfl) ?_))
    | (show Rch _ _ _ _ _ 75 _ _ _; refine Rch.blk' (Rn_mono mt _) bl_X4_next_75 (t_iret ?_)))
theorem c_X4_heard (hG : RR h 0 G no0 0) (hO : OKB G) {p : Int} (hp : inR p) (hq : ∀ v h', v = vHeard G p → JY h h' → Q (some (ai (I v))) h') : Rn mt (d + 20) 168 [ar 3 0, ai (I p)] h Q := by
  refine Rn.intro iX4_heard rfl rfl ?_
  show Rch bX4_heard _ _ _ _ 0 [some (ar 3 0), some (ai (I p))] [] _
  repeat' (first
    | exact hq _ _ (by unfold vHeard; omega) JY.rf
    | (show Rn _ _ 110 _ _ _; refine c_X4_isPiece (by assumption) (by assumption) (by first | omega | exact hI_R) (fun _ _ => ?_) (fun _ => ?_))
    | (show Rn _ _ 114 _ _ _; refine c_X4_isHere (by assumption) (by assumption) (by omega) (by omega) (fun _ _ => ?_) (fun _ => ?_))
    | (show Rn _ _ 132 _ _ _; refine c_X4_heardBy (by assumption) (by assumption) (by omega) (by omega) (by omega) (by omega) ?_)
    | (show Rch _ _ _ _ _ 0 _ _ _; refine Rch.blk' (Rn_mono mt _) bl_X4_heard_0 (i_aload_n rfl (i_iload_n rfl (t_cv2 (Rn_mono mt _) 5 rfl (Nat.le_of_ble_eq_true rfl) ?_))))
    | (show Rch _ _ _ _ _ 5 _ _ _; refine Rch.blk' (Rn_mono mt _) bl_X4_heard_5 (t_if_ne 10 8 rfl rfl (by first | exact hI_R | exact band_R | exact bor_R | exact bshr_R | exact lcm_R | omega) (fun hc => ?_) (fun hc => ?_)) <;> (first | (exfalso; omega) | skip))
    | (show Rch _ _ _ _ _ 8 _ _ _; refine Rch.blk' (Rn_mono mt _) bl_X4_heard_8 (i_iconst k_m1 (t_iret ?_)))
    | (show Rch _ _ _ _ _ 10 _ _ _; refine Rch.blk' (Rn_mono mt _) bl_X4_heard_10 (i_aload_n rfl (i_gfs rfl (i_iload_n rfl (t_cs2 (Rn_mono mt _) 18 rfl (Nat.le_of_ble_eq_true rfl) ?_)))))
    | (show Rch _ _ _ _ _ 18 _ _ _; refine Rch.blk' (Rn_mono mt _) bl_X4_heard_18 (t_if_eq 32 21 rfl rfl (by first | exact hI_R | exact band_R | exact bor_R | exact bshr_R | exact lcm_R | omega) (fun hc => ?_) (fun hc => ?_)) <;> (first | (exfalso; omega) | skip))
    | (show Rch _ _ _ _ _ 21 _ _ _; refine Rch.blk' (Rn_mono mt _) bl_X4_heard_21 (i_aload_n rfl (i_gfs rfl (i_iload_n rfl (t_cs2 (Rn_mono mt _) 29 rfl (Nat.le_of_ble_eq_true rfl) ?_)))))
    | (show Rch _ _ _ _ _ 29 _ _ _; refine Rch.blk' (Rn_mono mt _) bl_X4_heard_29 (t_goto 34 rfl ?_))
    | (show Rch _ _ _ _ _ 32 _ _ _; refine Rch.blk' (Rn_mono mt _) bl_X4_heard_32 (i_bipush k_m3 (t_none ?_)))
    | (show Rch _ _ _ _ _ 34 _ _ _; refine Rch.blk' (Rn_mono mt _) bl_X4_heard_34 (t_iret ?_)))
theorem c_X4_count (hG : RR h 0 G no0 0) (hO : OKB G) {w : Int} (hw : inR w) (hq : ∀ v h', v = vCount G w → JY h h' → Q (some (ai (I v))) h') : Rn mt (d + 20) 198 [ar 3 0, ai (I w)] h Q := by
  refine Rn.intro iX4_count rfl rfl ?_
  show Rch bX4_count _ _ _ _ 0 [some (ar 3 0), some (ai (I w))] [] _
  have e_n := hG.n
  have e_t := hG.t
  have e_o := hG.o
  have e_d := hG.d
  by_cases c0 : w = 0
  · subst c0
    repeat' (first
      | exact hq _ _ (by unfold vCount; omega) JY.rf
      | (show Rn _ _ 105 _ _ _; refine c_X4_isIn (by first | omega | exact hI_R) (by first | omega | exact hI_R) (by first | omega | exact hI_R) (fun _ _ => ?_) (fun _ => ?_))
      | (show Rn _ _ 133 _ _ _; refine c_X4_hereIn (by assumption) (by assumption) ?_)
      | (show Rch _ _ _ _ _ 0 _ _ _; refine Rch.blk' (Rn_mono mt _) bl_X4_count_0 (i_iload_n rfl (i_iconst k_0 (i_iconst k_3 (t_cs3 (Rn_mono mt _) 6 rfl (Nat.le_of_ble_eq_true rfl) ?_)))))
      | (show Rch _ _ _ _ _ 6 _ _ _; refine Rch.blk' (Rn_mono mt _) bl_X4_count_6 (t_if_eq 18 9 rfl rfl (by first | exact hI_R | exact band_R | exact bor_R | exact bshr_R | exact lcm_R | omega | (simp (disch := omega) only [e_n]; omega)) (fun hc => ?_) (fun hc => ?_)) <;> (first | (exfalso; omega) | skip))
      | (show Rch _ _ _ _ _ 9 _ _ _; refine Rch.blk' (Rn_mono mt _) bl_X4_count_9 (i_aload_n rfl (i_gfs rfl (i_iload_n rfl (i_iald (n := 46) rfl (by first | omega | (simp (disch := omega) only [e_n]; omega)) (by first | omega | (simp (disch := omega) only [e_n]; omega)) (by first | omega | (simp (disch := omega) only [e_n]; omega)) (t_goto 34 rfl ?_))))) <;> (try (simp (disch := omega) only [e_n])))
      | (show Rch _ _ _ _ _ 18 _ _ _; refine Rch.blk' (Rn_mono mt _) bl_X4_count_18 (i_iload_n rfl (i_iconst k_4 (t_ic_ne 33 23 rfl rfl (by first | exact hI_R | exact band_R | exact bor_R | exact bshr_R | exact lcm_R | omega | (simp (disch := omega) only [e_n]; omega)) (by first | exact hI_R | exact band_R | exact bor_R | exact bshr_R | exact lcm_R | omega | (simp (disch := omega) only [e_n]; omega)) (fun hc => ?_) (fun hc => ?_)))) <;> (first | (exfalso; omega) | skip))
      | (show Rch _ _ _ _ _ 23 _ _ _; refine Rch.blk' (Rn_mono mt _) bl_X4_count_23 (i_aload_n rfl (i_gfs rfl (t_cs1 (Rn_mono mt _) 30 rfl (Nat.le_of_ble_eq_true rfl) ?_))) <;> (try (simp (disch := omega) only [e_n])))
      | (show Rch _ _ _ _ _ 30 _ _ _; refine Rch.blk' (Rn_mono mt _) bl_X4_count_30 (t_goto 34 rfl ?_))
      | (show Rch _ _ _ _ _ 33 _ _ _; refine Rch.blk' (Rn_mono mt _) bl_X4_count_33 (i_iconst k_m1 (t_none ?_)))
      | (show Rch _ _ _ _ _ 34 _ _ _; refine Rch.blk' (Rn_mono mt _) bl_X4_count_34 (t_iret ?_)))
  by_cases c1 : w = 1
  · subst c1
    repeat' (first
      | exact hq _ _ (by unfold vCount; omega) JY.rf
      | (show Rn _ _ 105 _ _ _; refine c_X4_isIn (by first | omega | exact hI_R) (by first | omega | exact hI_R) (by first | omega | exact hI_R) (fun _ _ => ?_) (fun _ => ?_))
      | (show Rn _ _ 133 _ _ _; refine c_X4_hereIn (by assumption) (by assumption) ?_)
      | (show Rch _ _ _ _ _ 0 _ _ _; refine Rch.blk' (Rn_mono mt _) bl_X4_count_0 (i_iload_n rfl (i_iconst k_0 (i_iconst k_3 (t_cs3 (Rn_mono mt _) 6 rfl (Nat.le_of_ble_eq_true rfl) ?_)))))
      | (show Rch _ _ _ _ _ 6 _ _ _; refine Rch.blk' (Rn_mono mt _) bl_X4_count_6 (t_if_eq 18 9 rfl rfl (by first | exact hI_R | exact band_R | exact bor_R | exact bshr_R | exact lcm_R | omega | (simp (disch := omega) only [e_d]; omega)) (fun hc => ?_) (fun hc => ?_)) <;> (first | (exfalso; omega) | skip))
      | (show Rch _ _ _ _ _ 9 _ _ _; refine Rch.blk' (Rn_mono mt _) bl_X4_count_9 (i_aload_n rfl (i_gfs rfl (i_iload_n rfl (i_iald (n := 46) rfl (by first | omega | (simp (disch := omega) only [e_d]; omega)) (by first | omega | (simp (disch := omega) only [e_d]; omega)) (by first | omega | (simp (disch := omega) only [e_d]; omega)) (t_goto 34 rfl ?_))))) <;> (try (simp (disch := omega) only [e_d])))
      | (show Rch _ _ _ _ _ 18 _ _ _; refine Rch.blk' (Rn_mono mt _) bl_X4_count_18 (i_iload_n rfl (i_iconst k_4 (t_ic_ne 33 23 rfl rfl (by first | exact hI_R | exact band_R | exact bor_R | exact bshr_R | exact lcm_R | omega | (simp (disch := omega) only [e_d]; omega)) (by first | exact hI_R | exact band_R | exact bor_R | exact bshr_R | exact lcm_R | omega | (simp (disch := omega) only [e_d]; omega)) (fun hc => ?_) (fun hc => ?_)))) <;> (first | (exfalso; omega) | skip))
      | (show Rch _ _ _ _ _ 23 _ _ _; refine Rch.blk' (Rn_mono mt _) bl_X4_count_23 (i_aload_n rfl (i_gfs rfl (t_cs1 (Rn_mono mt _) 30 rfl (Nat.le_of_ble_eq_true rfl) ?_))) <;> (try (simp (disch := omega) only [e_d])))
      | (show Rch _ _ _ _ _ 30 _ _ _; refine Rch.blk' (Rn_mono mt _) bl_X4_count_30 (t_goto 34 rfl ?_))
      | (show Rch _ _ _ _ _ 33 _ _ _; refine Rch.blk' (Rn_mono mt _) bl_X4_count_33 (i_iconst k_m1 (t_none ?_)))
      | (show Rch _ _ _ _ _ 34 _ _ _; refine Rch.blk' (Rn_mono mt _) bl_X4_count_34 (t_iret ?_)))
  by_cases c2 : w = 2
  · subst c2
    repeat' (first
      | exact hq _ _ (by unfold vCount; omega) JY.rf
      | (show Rn _ _ 105 _ _ _; refine c_X4_isIn (by first | omega | exact hI_R) (by first | omega | exact hI_R) (by first | omega | exact hI_R) (fun _ _ => ?_) (fun _ => ?_))
      | (show Rn _ _ 133 _ _ _; refine c_X4_hereIn (by assumption) (by assumption) ?_)
      | (show Rch _ _ _ _ _ 0 _ _ _; refine Rch.blk' (Rn_mono mt _) bl_X4_count_0 (i_iload_n rfl (i_iconst k_0 (i_iconst k_3 (t_cs3 (Rn_mono mt _) 6 rfl (Nat.le_of_ble_eq_true rfl) ?_)))))
      | (show Rch _ _ _ _ _ 6 _ _ _; refine Rch.blk' (Rn_mono mt _) bl_X4_count_6 (t_if_eq 18 9 rfl rfl (by first | exact hI_R | exact band_R | exact bor_R | exact bshr_R | exact lcm_R | omega | (simp (disch := omega) only [e_t]; omega)) (fun hc => ?_) (fun hc => ?_)) <;> (first | (exfalso; omega) | skip))
      | (show Rch _ _ _ _ _ 9 _ _ _; refine Rch.blk' (Rn_mono mt _) bl_X4_count_9 (i_aload_n rfl (i_gfs rfl (i_iload_n rfl (i_iald (n := 46) rfl (by first | omega | (simp (disch := omega) only [e_t]; omega)) (by first | omega | (simp (disch := omega) only [e_t]; omega)) (by first | omega | (simp (disch := omega) only [e_t]; omega)) (t_goto 34 rfl ?_))))) <;> (try (simp (disch := omega) only [e_t])))
      | (show Rch _ _ _ _ _ 18 _ _ _; refine Rch.blk' (Rn_mono mt _) bl_X4_count_18 (i_iload_n rfl (i_iconst k_4 (t_ic_ne 33 23 rfl rfl (by first | exact hI_R | exact band_R | exact bor_R | exact bshr_R | exact lcm_R | omega | (simp (disch := omega) only [e_t]; omega)) (by first | exact hI_R | exact band_R | exact bor_R | exact bshr_R | exact lcm_R | omega | (simp (disch := omega) only [e_t]; omega)) (fun hc => ?_) (fun hc => ?_)))) <;> (first | (exfalso; omega) | skip))
      | (show Rch _ _ _ _ _ 23 _ _ _; refine Rch.blk' (Rn_mono mt _) bl_X4_count_23 (i_aload_n rfl (i_gfs rfl (t_cs1 (Rn_mono mt _) 30 rfl (Nat.le_of_ble_eq_true rfl) ?_))) <;> (try (simp (disch := omega) only [e_t])))
      | (show Rch _ _ _ _ _ 30 _ _ _; refine Rch.blk' (Rn_mono mt _) bl_X4_count_30 (t_goto 34 rfl ?_))
      | (show Rch _ _ _ _ _ 33 _ _ _; refine Rch.blk' (Rn_mono mt _) bl_X4_count_33 (i_iconst k_m1 (t_none ?_)))
      | (show Rch _ _ _ _ _ 34 _ _ _; refine Rch.blk' (Rn_mono mt _) bl_X4_count_34 (t_iret ?_)))
  by_cases c3 : w = 3
  · subst c3
    repeat' (first
      | exact hq _ _ (by unfold vCount; omega) JY.rf
      | (show Rn _ _ 105 _ _ _; refine c_X4_isIn (by first | omega | exact hI_R) (by first | omega | exact hI_R) (by first | omega | exact hI_R) (fun _ _ => ?_) (fun _ => ?_))
      | (show Rn _ _ 133 _ _ _; refine c_X4_hereIn (by assumption) (by assumption) ?_)
      | (show Rch _ _ _ _ _ 0 _ _ _; refine Rch.blk' (Rn_mono mt _) bl_X4_count_0 (i_iload_n rfl (i_iconst k_0 (i_iconst k_3 (t_cs3 (Rn_mono mt _) 6 rfl (Nat.le_of_ble_eq_true rfl) ?_)))))
      | (show Rch _ _ _ _ _ 6 _ _ _; refine Rch.blk' (Rn_mono mt _) bl_X4_count_6 (t_if_eq 18 9 rfl rfl (by first | exact hI_R | exact band_R | exact bor_R | exact bshr_R | exact lcm_R | omega | (simp (disch := omega) only [e_o]; omega)) (fun hc => ?_) (fun hc => ?_)) <;> (first | (exfalso; omega) | skip))
      | (show Rch _ _ _ _ _ 9 _ _ _; refine Rch.blk' (Rn_mono mt _) bl_X4_count_9 (i_aload_n rfl (i_gfs rfl (i_iload_n rfl (i_iald (n := 46) rfl (by first | omega | (simp (disch := omega) only [e_o]; omega)) (by first | omega | (simp (disch := omega) only [e_o]; omega)) (by first | omega | (simp (disch := omega) only [e_o]; omega)) (t_goto 34 rfl ?_))))) <;> (try (simp (disch := omega) only [e_o])))
      | (show Rch _ _ _ _ _ 18 _ _ _; refine Rch.blk' (Rn_mono mt _) bl_X4_count_18 (i_iload_n rfl (i_iconst k_4 (t_ic_ne 33 23 rfl rfl (by first | exact hI_R | exact band_R | exact bor_R | exact bshr_R | exact lcm_R | omega | (simp (disch := omega) only [e_o]; omega)) (by first | exact hI_R | exact band_R | exact bor_R | exact bshr_R | exact lcm_R | omega | (simp (disch := omega) only [e_o]; omega)) (fun hc => ?_) (fun hc => ?_)))) <;> (first | (exfalso; omega) | skip))
      | (show Rch _ _ _ _ _ 23 _ _ _; refine Rch.blk' (Rn_mono mt _) bl_X4_count_23 (i_aload_n rfl (i_gfs rfl (t_cs1 (Rn_mono mt _) 30 rfl (Nat.le_of_ble_eq_true rfl) ?_))) <;> (try (simp (disch := omega) only [e_o])))
      | (show Rch _ _ _ _ _ 30 _ _ _; refine Rch.blk' (Rn_mono mt _) bl_X4_count_30 (t_goto 34 rfl ?_))
      | (show Rch _ _ _ _ _ 33 _ _ _; refine Rch.blk' (Rn_mono mt _) bl_X4_count_33 (i_iconst k_m1 (t_none ?_)))
      | (show Rch _ _ _ _ _ 34 _ _ _; refine Rch.blk' (Rn_mono mt _) bl_X4_count_34 (t_iret ?_)))
  repeat' (first
    | exact hq _ _ (by unfold vCount; omega) JY.rf
    | (show Rn _ _ 105 _ _ _; refine c_X4_isIn (by first | omega | exact hI_R) (by first | omega | exact hI_R) (by first | omega | exact hI_R) (fun _ _ => ?_) (fun _ => ?_))
    | (show Rn _ _ 133 _ _ _; refine c_X4_hereIn (by assumption) (by assumption) ?_)
    | (show Rch _ _ _ _ _ 0 _ _ _; refine Rch.blk' (Rn_mono mt _) bl_X4_count_0 (i_iload_n rfl (i_iconst k_0 (i_iconst k_3 (t_cs3 (Rn_mono mt _) 6 rfl (Nat.le_of_ble_eq_true rfl) ?_)))))
    | (show Rch _ _ _ _ _ 6 _ _ _; refine Rch.blk' (Rn_mono mt _) bl_X4_count_6 (t_if_eq 18 9 rfl rfl (by first | exact hI_R | exact band_R | exact bor_R | exact bshr_R | exact lcm_R | omega) (fun hc => ?_) (fun hc => ?_)) <;> (first | (exfalso; omega) | skip))
    | (show Rch _ _ _ _ _ 9 _ _ _; refine Rch.blk' (Rn_mono mt _) bl_X4_count_9 (i_aload_n rfl (i_gfs rfl (i_iload_n rfl (i_iald (n := 46) rfl (by omega) (by omega) (by omega) (t_goto 34 rfl ?_))))))
    | (show Rch _ _ _ _ _ 18 _ _ _; refine Rch.blk' (Rn_mono mt _) bl_X4_count_18 (i_iload_n rfl (i_iconst k_4 (t_ic_ne 33 23 rfl rfl (by first | exact hI_R | exact band_R | exact bor_R | exact bshr_R | exact lcm_R | omega) (by first | exact hI_R | exact band_R | exact bor_R | exact bshr_R | exact lcm_R | omega) (fun hc => ?_) (fun hc => ?_)))) <;> (first | (exfalso; omega) | skip))
    | (show Rch _ _ _ _ _ 23 _ _ _; refine Rch.blk' (Rn_mono mt _) bl_X4_count_23 (i_aload_n rfl (i_gfs rfl (t_cs1 (Rn_mono mt _) 30 rfl (Nat.le_of_ble_eq_true rfl) ?_))))
    | (show Rch _ _ _ _ _ 30 _ _ _; refine Rch.blk' (Rn_mono mt _) bl_X4_count_30 (t_goto 34 rfl ?_))
    | (show Rch _ _ _ _ _ 33 _ _ _; refine Rch.blk' (Rn_mono mt _) bl_X4_count_33 (i_iconst k_m1 (t_none ?_)))
    | (show Rch _ _ _ _ _ 34 _ _ _; refine Rch.blk' (Rn_mono mt _) bl_X4_count_34 (t_iret ?_)))
end C10

