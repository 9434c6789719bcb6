/-! STILL: the reference -/
theorem bo_00 : bor 0 0 = 0 := by decide +kernel
theorem bo_01 : bor 0 1 = 1 := by decide +kernel
theorem bo_10 : bor 1 0 = 1 := by decide +kernel
theorem bo_11 : bor 1 1 = 1 := by decide +kernel
section C25
variable {d : Nat} {h : Mem} {Q : Option AV → Mem → Prop} {G : Bd}
theorem c_X4_isMoved (hG : RR h 1 G no0 0) (hO : OKB G) (hd : dy G < 900000) (hq : ∀ v h', RR h' 1 (DAY G no0 0) no0 0 → JY h h' → ((v = 0 ∧ goer (setd G (dy G + 1)) no0 0 (dy G + 1) = -4) ∨ (v = 1 ∧ ¬ goer (setd G (dy G + 1)) no0 0 (dy G + 1) = -4)) → Q (some (ai (I v))) h') : Rn mt (d + 10) 165 [ar 3 0] h Q := by
  refine Rn.intro iX4_isMoved rfl rfl ?_
  show Rch bX4_isMoved _ _ _ _ 0 [some (ar 3 0), none, none] [] _
  refine Rch.blk' (Rn_mono mt _) bl_X4_isMoved_0 (i_iconst k_0 (i_istore1 trivial (i_aload_n rfl (i_gfs rfl (i_aload_n rfl (i_gfs rfl (t_cs2 (Rn_mono mt _) 13 rfl (Nat.le_of_ble_eq_true rfl) ?_)))))))
  refine c_X4_copies hG hO (by decide) (fun h1 hG1 hF1 => ?_)
  have hG1m := hG.fr hF1 (by decide)
  refine Rch.blk' (Rn_mono mt _) bl_X4_isMoved_13 (i_aload_n rfl (i_gfs rfl (t_cs1 (Rn_mono mt _) 20 rfl (Nat.le_of_ble_eq_true rfl) ?_)))
  refine c_X4_day hG1m hO (by omega) hd (fun h2 hG2 hF2 => ?_)
  have hG3 := hG1.fr hF2 (by decide)
  have hJ : JY h h2 := (hF1.jy (by omega)).tr (hF2.jy (by omega))
  have hO1 : OKB (setd G (dy G + 1)) := OKB_setd hO (by have := hO.2.2.2.1; omega)
  have hO2 : OKB (DAY G no0 0) := OKB_DAY hO
  have hn2 : nn (DAY G no0 0) = nn G := DAY_f.1
  have e_1 := @DAY_eq G no0 0
  have e_2 := @DAY_ne G no0 0 hO1
  have hq2 := fun v => hq v h2 hG2 hJ
  clear hq
  generalize DAY G no0 0 = V at *
  have e_n := hG2.n
  rw [hn2] at e_n
  have e_q1 := @RR.q _ _ _ _ _ hG2
  have e_q3 := @RR.q _ _ _ _ _ hG3
  have g_n := hO.n
  have key : ∀ k : Int, k ≤ nn G → 0 ≤ k → ∀ x : Int, ((x = 0 ∧ ∀ j : Int, 0 ≤ j → j < k → sq V j = sq G j) ∨ (x = 1 ∧ ∃ j, 0 ≤ j ∧ j < nn G ∧ ¬ sq V j = sq G j)) → RH bX4_isMoved (d + 9) Q 22 [some (ar 3 0), some (ai (I x)), some (ai (I k))] h2 := by
    refine up_ind (fun k hk ih hk0 x hx => ?_)
    have g_x : x = 0 ∨ x = 1 := hx.elim (fun z => Or.inl z.1) (fun z => Or.inr z.1)
    by_cases hk1 : k < nn G
    · have ih := ih hk1 (by omega)
      have g_1 := hO.pc k hk0 hk1
      have g_2 := hO2.pc k hk0 (by rw [hn2]; exact hk1)
      have g_m1 := @m4_R (sq V k)
      have g_m3 := @m4_R (sq G k)
      have ih1 : ¬ sq V k = sq G k → RH bX4_isMoved (d + 9) Q 22 [some (ar 3 0), some (ai (I (bor x 1))), some (ai (I (k + 1)))] h2 := fun c => by
        refine ih _ (Or.inr ⟨?_, k, hk0, hk1, c⟩)
        rcases g_x with rfl | rfl
        · exact bo_01
        · exact bo_11
      have ih0 : sq V k = sq G k → RH bX4_isMoved (d + 9) Q 22 [some (ar 3 0), some (ai (I (bor x 0))), some (ai (I (k + 1)))] h2 := fun c => by
        rcases hx with ⟨rfl, hx⟩ | ⟨rfl, hx⟩
        · exact ih _ (Or.inl ⟨bo_00, fun j j0 j1 => by
            by_cases z : j = k
            · subst z; exact c
            · exact hx j j0 (by omega)⟩)
        · exact ih _ (Or.inr ⟨bo_10, hx⟩)
      clear ih hx e_1 e_2 hq2
      refine Rch.blk' (Rn_mono mt _) bl_X4_isMoved_22 (i_iload_n rfl (i_aload_n rfl (i_gfs rfl (i_iconst k_0 (i_iald (n := 46) rfl (by first | omega | (simp (disch := omega) only [e_n]; omega)) (by first | omega | (simp (disch := omega) only [e_n]; omega)) (by first | omega | (simp (disch := omega) only [e_n]; omega)) (t_ic_ge 69 32 rfl rfl (by first | exact hI_R | exact band_R | exact bor_R | exact bshr_R | exact lcm_R | omega | (simp (disch := omega) only [e_n]; omega)) (by first | exact hI_R | exact band_R | exact bor_R | exact bshr_R | exact lcm_R | omega | (simp (disch := omega) only [e_n]; omega)) (fun hc => ?_) (fun hc => ?_))))))) <;> (try (simp (disch := omega) only [e_n] at hc ⊢)) <;> (first | (exfalso; omega) | skip)
      repeat' (first
        | ((with_reducible refine ih1 ?_) <;> omega)
        | ((with_reducible refine ih0 ?_) <;> omega)
        | (show Rn _ _ 109 _ _ _; refine c_X4_of ?_)
        | (show Rch _ _ _ _ _ 0 _ _ _; refine Rch.blk' (Rn_mono mt _) bl_X4_isMoved_0 (i_iconst k_0 (i_istore1 trivial (i_aload_n rfl (i_gfs rfl (i_aload_n rfl (i_gfs rfl (t_cs2 (Rn_mono mt _) 13 rfl (Nat.le_of_ble_eq_true rfl) ?_))))))) <;> (try (simp (disch := omega) only [e_q1, e_q3])))
        | (show Rch _ _ _ _ _ 13 _ _ _; refine Rch.blk' (Rn_mono mt _) bl_X4_isMoved_13 (i_aload_n rfl (i_gfs rfl (t_cs1 (Rn_mono mt _) 20 rfl (Nat.le_of_ble_eq_true rfl) ?_))) <;> (try (simp (disch := omega) only [e_q1, e_q3])))
        | (show Rch _ _ _ _ _ 20 _ _ _; refine Rch.blk' (Rn_mono mt _) bl_X4_isMoved_20 (i_iconst k_0 (i_istore2 trivial (t_none ?_))))
        | (show Rch _ _ _ _ _ 32 _ _ _; refine Rch.blk' (Rn_mono mt _) bl_X4_isMoved_32 (i_iload_n rfl (i_aload_n rfl (i_gfs rfl (i_iload_n rfl (i_iconst k_3 (t_cs2 (Rn_mono mt _) 42 rfl (Nat.le_of_ble_eq_true rfl) ?_)))))) <;> (try (simp (disch := omega) only [e_q1, e_q3])))
        | (show Rch _ _ _ _ _ 42 _ _ _; refine Rch.blk' (Rn_mono mt _) bl_X4_isMoved_42 (i_iald rfl (by first | omega | (simp (disch := omega) only [e_q1, e_q3]; omega)) (by simp only [aln]; omega) (by simp only [aln]; omega) (i_aload_n rfl (i_gfs rfl (i_iload_n rfl (i_iconst k_3 (t_cs2 (Rn_mono mt _) 52 rfl (Nat.le_of_ble_eq_true rfl) ?_)))))) <;> (try (simp (disch := omega) only [e_q1, e_q3])))
        | (show Rch _ _ _ _ _ 52 _ _ _; refine Rch.blk' (Rn_mono mt _) bl_X4_isMoved_52 (i_iald rfl (by first | omega | (simp (disch := omega) only [e_q1, e_q3]; omega)) (by simp only [aln]; omega) (by simp only [aln]; omega) (t_ic_eq 60 56 rfl rfl (by first | exact hI_R | exact band_R | exact bor_R | exact bshr_R | exact lcm_R | omega | (simp (disch := omega) only [e_q1, e_q3]; omega)) (by first | exact hI_R | exact band_R | exact bor_R | exact bshr_R | exact lcm_R | omega | (simp (disch := omega) only [e_q1, e_q3]; omega)) (fun hc => ?_) (fun hc => ?_))) <;> (try (simp (disch := omega) only [e_q1, e_q3] at hc ⊢)) <;> (first | (exfalso; omega) | skip))
        | (show Rch _ _ _ _ _ 56 _ _ _; refine Rch.blk' (Rn_mono mt _) bl_X4_isMoved_56 (i_iconst k_1 (t_goto 61 rfl ?_)))
        | (show Rch _ _ _ _ _ 60 _ _ _; refine Rch.blk' (Rn_mono mt _) bl_X4_isMoved_60 (i_iconst k_0 (t_none ?_)))
        | (show Rch _ _ _ _ _ 61 _ _ _; refine Rch.blk' (Rn_mono mt _) bl_X4_isMoved_61 (i_ior (i_istore1 trivial (i_iinc2 trivial k_1 (t_goto 22 rfl ?_)))))
        | (show Rch _ _ _ _ _ 69 _ _ _; refine Rch.blk' (Rn_mono mt _) bl_X4_isMoved_69 (i_iload_n rfl (t_zret (by omega) ?_))))
    · obtain rfl : k = nn G := by omega
      have kk : Q (some (ai (I x))) h2 := by
        refine hq2 x ?_
        rcases hx with ⟨a, b⟩ | ⟨a, j, j0, j1, j2⟩
        · refine Or.inl ⟨a, Classical.byContradiction (fun z => ?_)⟩
          obtain ⟨g, g0, g1, g2⟩ := e_2 z
          exact g2 (b g g0 g1)
        · exact Or.inr ⟨a, fun z => j2 (e_1 z j)⟩
      clear e_1 e_2 hq2 hx ih
      refine Rch.blk' (Rn_mono mt _) bl_X4_isMoved_22 (i_iload_n rfl (i_aload_n rfl (i_gfs rfl (i_iconst k_0 (i_iald (n := 46) rfl (by first | omega | (simp (disch := omega) only [e_n]; omega)) (by first | omega | (simp (disch := omega) only [e_n]; omega)) (by first | omega | (simp (disch := omega) only [e_n]; omega)) (t_ic_ge 69 32 rfl rfl (by first | exact hI_R | exact band_R | exact bor_R | exact bshr_R | exact lcm_R | omega | (simp (disch := omega) only [e_n]; omega)) (by first | exact hI_R | exact band_R | exact bor_R | exact bshr_R | exact lcm_R | omega | (simp (disch := omega) only [e_n]; omega)) (fun hc => ?_) (fun hc => ?_))))))) <;> (try (simp (disch := omega) only [e_n] at hc ⊢)) <;> (first | (exfalso; omega) | skip)
      repeat' (first
        | exact kk
        | (show Rn _ _ 109 _ _ _; refine c_X4_of ?_)
        | (show Rch _ _ _ _ _ 0 _ _ _; refine Rch.blk' (Rn_mono mt _) bl_X4_isMoved_0 (i_iconst k_0 (i_istore1 trivial (i_aload_n rfl (i_gfs rfl (i_aload_n rfl (i_gfs rfl (t_cs2 (Rn_mono mt _) 13 rfl (Nat.le_of_ble_eq_true rfl) ?_))))))))
        | (show Rch _ _ _ _ _ 13 _ _ _; refine Rch.blk' (Rn_mono mt _) bl_X4_isMoved_13 (i_aload_n rfl (i_gfs rfl (t_cs1 (Rn_mono mt _) 20 rfl (Nat.le_of_ble_eq_true rfl) ?_))))
        | (show Rch _ _ _ _ _ 20 _ _ _; refine Rch.blk' (Rn_mono mt _) bl_X4_isMoved_20 (i_iconst k_0 (i_istore2 trivial (t_none ?_))))
        | (show Rch _ _ _ _ _ 32 _ _ _; refine Rch.blk' (Rn_mono mt _) bl_X4_isMoved_32 (i_iload_n rfl (i_aload_n rfl (i_gfs rfl (i_iload_n rfl (i_iconst k_3 (t_cs2 (Rn_mono mt _) 42 rfl (Nat.le_of_ble_eq_true rfl) ?_)))))))
        | (show Rch _ _ _ _ _ 42 _ _ _; refine Rch.blk' (Rn_mono mt _) bl_X4_isMoved_42 (i_iald rfl (by omega) (by simp only [aln]; omega) (by simp only [aln]; omega) (i_aload_n rfl (i_gfs rfl (i_iload_n rfl (i_iconst k_3 (t_cs2 (Rn_mono mt _) 52 rfl (Nat.le_of_ble_eq_true rfl) ?_)))))))
        | (show Rch _ _ _ _ _ 52 _ _ _; refine Rch.blk' (Rn_mono mt _) bl_X4_isMoved_52 (i_iald rfl (by omega) (by simp only [aln]; omega) (by simp only [aln]; omega) (t_ic_eq 60 56 rfl rfl (by first | exact hI_R | exact band_R | exact bor_R | exact bshr_R | exact lcm_R | omega) (by first | exact hI_R | exact band_R | exact bor_R | exact bshr_R | exact lcm_R | omega) (fun hc => ?_) (fun hc => ?_))) <;> (first | (exfalso; omega) | skip))
        | (show Rch _ _ _ _ _ 56 _ _ _; refine Rch.blk' (Rn_mono mt _) bl_X4_isMoved_56 (i_iconst k_1 (t_goto 61 rfl ?_)))
        | (show Rch _ _ _ _ _ 60 _ _ _; refine Rch.blk' (Rn_mono mt _) bl_X4_isMoved_60 (i_iconst k_0 (t_none ?_)))
        | (show Rch _ _ _ _ _ 61 _ _ _; refine Rch.blk' (Rn_mono mt _) bl_X4_isMoved_61 (i_ior (i_istore1 trivial (i_iinc2 trivial k_1 (t_goto 22 rfl ?_)))))
        | (show Rch _ _ _ _ _ 69 _ _ _; refine Rch.blk' (Rn_mono mt _) bl_X4_isMoved_69 (i_iload_n rfl (t_zret (by omega) ?_))))
  repeat' (first
    | exact key 0 (by omega) (by omega) 0 (Or.inl ⟨rfl, fun j _ _ => by omega⟩)
    | (show Rn _ _ 109 _ _ _; refine c_X4_of ?_)
    | (show Rch _ _ _ _ _ 0 _ _ _; refine Rch.blk' (Rn_mono mt _) bl_X4_isMoved_0 (i_iconst k_0 (i_istore1 trivial (i_aload_n rfl (i_gfs rfl (i_aload_n rfl (i_gfs rfl (t_cs2 (Rn_mono mt _) 13 rfl (Nat.le_of_ble_eq_true rfl) ?_))))))))
    | (show Rch _ _ _ _ _ 13 _ _ _; refine Rch.blk' (Rn_mono mt _) bl_X4_isMoved_13 (i_aload_n rfl (i_gfs rfl (t_cs1 (Rn_mono mt _) 20 rfl (Nat.le_of_ble_eq_true rfl) ?_))))
    | (show Rch _ _ _ _ _ 20 _ _ _; refine Rch.blk' (Rn_mono mt _) bl_X4_isMoved_20 (i_iconst k_0 (i_istore2 trivial (t_none ?_))))
    | (show Rch _ _ _ _ _ 32 _ _ _; refine Rch.blk' (Rn_mono mt _) bl_X4_isMoved_32 (i_iload_n rfl (i_aload_n rfl (i_gfs rfl (i_iload_n rfl (i_iconst k_3 (t_cs2 (Rn_mono mt _) 42 rfl (Nat.le_of_ble_eq_true rfl) ?_)))))))
    | (show Rch _ _ _ _ _ 42 _ _ _; refine Rch.blk' (Rn_mono mt _) bl_X4_isMoved_42 (i_iald rfl (by omega) (by simp only [aln]; omega) (by simp only [aln]; omega) (i_aload_n rfl (i_gfs rfl (i_iload_n rfl (i_iconst k_3 (t_cs2 (Rn_mono mt _) 52 rfl (Nat.le_of_ble_eq_true rfl) ?_)))))))
    | (show Rch _ _ _ _ _ 52 _ _ _; refine Rch.blk' (Rn_mono mt _) bl_X4_isMoved_52 (i_iald rfl (by omega) (by simp only [aln]; omega) (by simp only [aln]; omega) (t_ic_eq 60 56 rfl rfl (by first | exact hI_R | exact band_R | exact bor_R | exact bshr_R | exact lcm_R | omega) (by first | exact hI_R | exact band_R | exact bor_R | exact bshr_R | exact lcm_R | omega) (fun hc => ?_) (fun hc => ?_))) <;> (first | (exfalso; omega) | skip))
    | (show Rch _ _ _ _ _ 56 _ _ _; refine Rch.blk' (Rn_mono mt _) bl_X4_isMoved_56 (i_iconst k_1 (t_goto 61 rfl ?_)))
    | (show Rch _ _ _ _ _ 60 _ _ _; refine Rch.blk' (Rn_mono mt _) bl_X4_isMoved_60 (i_iconst k_0 (t_none ?_)))
    | (show Rch _ _ _ _ _ 61 _ _ _; refine Rch.blk' (Rn_mono mt _) bl_X4_isMoved_61 (i_ior (i_istore1 trivial (i_iinc2 trivial k_1 (t_goto 22 rfl ?_)))))
    | (show Rch _ _ _ _ _ 69 _ _ _; refine Rch.blk' (Rn_mono mt _) bl_X4_isMoved_69 (i_iload_n rfl (t_zret (by omega) ?_))))
theorem c_X4_still (hG : RR h 0 G no0 0) (hO : OKB G) (hy : dy G ≤ 999) (hq : ∀ v h', v = vStill G → JY h h' → Q (some (ai (I v))) h') : Rn mt (d + 20) 166 [ar 3 0] h Q := by
  refine Rn.intro iX4_still rfl rfl ?_
  show Rch bX4_still _ _ _ _ 0 [some (ar 3 0), none, none] [] _
  have key : ∀ m : Int, m ≤ 60 → 0 ≤ m → (∀ j : Int, 0 ≤ j → j < m + 1 → ¬ j - LM G j = 20) → ∀ (h' : Mem), RR h' 1 (DN G no0 m) no0 0 → JY h h' → ∀ x : Int, x = m - LM G m → RH bX4_still (d + 19) Q 15 [some (ar 3 0), some (ai (I x)), some (ai (I m))] h' := by
    refine up_ind (fun m hm ih m0 hj h' hR hF x hx => ?_)
    obtain ⟨hOk, hnk, hdk, -⟩ := DN_f (M := no0) hO m m0
    have g_r := @LM_r G m m0
    by_cases hm1 : m < 60
    · have ih := ih hm1 (by omega)
      have g_c := @LM_c G m m0
      refine Rch.blk' (Rn_mono mt _) bl_X4_still_15 (i_iload_n rfl (i_bipush k_60 (t_ic_ge 53 21 rfl rfl (by first | exact hI_R | exact band_R | exact bor_R | exact bshr_R | exact lcm_R | omega) (by first | exact hI_R | exact band_R | exact bor_R | exact bshr_R | exact lcm_R | omega) (fun hc => ?_) (fun hc => ?_)))) <;> (first | (exfalso; omega) | skip)
      refine Rch.blk' (Rn_mono mt _) bl_X4_still_21 (i_aload_n rfl (t_cv1 (Rn_mono mt _) 25 rfl (Nat.le_of_ble_eq_true rfl) ?_))
      refine c_X4_isMoved hR hOk (by omega) (fun v h2 hG2 hF2 hv => ?_)
      rw [← DN_up m0] at hG2
      have hFa := hF.tr hF2
      have g_v : (v = 0 ∧ LM G (m + 1) = LM G m) ∨ (v = 1 ∧ LM G (m + 1) = m + 1) := by
        rcases hv with ⟨a, b⟩ | ⟨a, b⟩
        · exact Or.inl ⟨a, g_c.elim (fun z => z.2) (fun z => absurd b z.1)⟩
        · exact Or.inr ⟨a, g_c.elim (fun z => absurd z.1 b) (fun z => z.2)⟩
      clear hv g_c
      have kR : m + 1 - LM G (m + 1) = 20 → ∀ u, u = m - 19 → Q (some (ai (I u))) h2 := fun c u e => hq u h2 (by
        have := vStill_is (k := m + 1) (by omega) (by omega) c hj
        omega) hFa
      have kS : ¬ m + 1 - LM G (m + 1) = 20 → ∀ u, u = m + 1 - LM G (m + 1) → RH bX4_still (d + 19) Q 15 [some (ar 3 0), some (ai (I u)), some (ai (I (m + 1)))] h2 := fun c u e => ih (fun j j0 j1 => by
          by_cases z : j = m + 1
          · subst z; exact c
          · exact hj j j0 (by omega)) h2 hG2 hFa u e
      clear ih hj
      repeat' (first
        | ((with_reducible refine kS ?_ _ ?_) <;> omega)
        | ((with_reducible refine kR ?_ _ ?_) <;> omega)
        | (show Rch _ _ _ _ _ 0 _ _ _; refine Rch.blk' (Rn_mono mt _) bl_X4_still_0 (i_aload_n rfl (i_gfs rfl (i_aload_n rfl (i_gfs rfl (t_cs2 (Rn_mono mt _) 11 rfl (Nat.le_of_ble_eq_true rfl) ?_))))))
        | (show Rch _ _ _ _ _ 11 _ _ _; refine Rch.blk' (Rn_mono mt _) bl_X4_still_11 (i_iconst k_0 (i_istore1 trivial (i_iconst k_0 (i_istore2 trivial (t_none ?_))))))
        | (show Rch _ _ _ _ _ 21 _ _ _; refine Rch.blk' (Rn_mono mt _) bl_X4_still_21 (i_aload_n rfl (t_cv1 (Rn_mono mt _) 25 rfl (Nat.le_of_ble_eq_true rfl) ?_)))
        | (show Rch _ _ _ _ _ 25 _ _ _; refine Rch.blk' (Rn_mono mt _) bl_X4_still_25 (t_if_eq 32 28 rfl rfl (by first | exact hI_R | exact band_R | exact bor_R | exact bshr_R | exact lcm_R | omega) (fun hc => ?_) (fun hc => ?_)) <;> (first | (exfalso; omega) | skip))
        | (show Rch _ _ _ _ _ 28 _ _ _; refine Rch.blk' (Rn_mono mt _) bl_X4_still_28 (i_iconst k_0 (t_goto 35 rfl ?_)))
        | (show Rch _ _ _ _ _ 32 _ _ _; refine Rch.blk' (Rn_mono mt _) bl_X4_still_32 (i_iload_n rfl (i_iconst k_1 (i_iadd (t_none ?_)))))
        | (show Rch _ _ _ _ _ 35 _ _ _; refine Rch.blk' (Rn_mono mt _) bl_X4_still_35 (i_istore1 trivial (i_iload_n rfl (i_bipush k_20 (t_ic_ne 47 42 rfl rfl (by first | exact hI_R | exact band_R | exact bor_R | exact bshr_R | exact lcm_R | omega) (by first | exact hI_R | exact band_R | exact bor_R | exact bshr_R | exact lcm_R | omega) (fun hc => ?_) (fun hc => ?_))))) <;> (first | (exfalso; omega) | skip))
        | (show Rch _ _ _ _ _ 42 _ _ _; refine Rch.blk' (Rn_mono mt _) bl_X4_still_42 (i_iload_n rfl (i_bipush k_19 (i_isub (t_iret ?_)))))
        | (show Rch _ _ _ _ _ 47 _ _ _; refine Rch.blk' (Rn_mono mt _) bl_X4_still_47 (i_iinc2 trivial k_1 (t_goto 15 rfl ?_)))
        | (show Rch _ _ _ _ _ 53 _ _ _; refine Rch.blk' (Rn_mono mt _) bl_X4_still_53 (i_bipush k_m4 (t_iret ?_))))
    · obtain rfl : m = 60 := by omega
      have kk : ∀ u, u = -4 → Q (some (ai (I u))) h' := fun u e => hq u h' (by rw [e]; exact (vStill_no (fun j j0 j1 => hj j j0 (by omega))).symm) hF
      clear ih hj
      refine Rch.blk' (Rn_mono mt _) bl_X4_still_15 (i_iload_n rfl (i_bipush k_60 (t_ic_ge 53 21 rfl rfl (by first | exact hI_R | exact band_R | exact bor_R | exact bshr_R | exact lcm_R | omega) (by first | exact hI_R | exact band_R | exact bor_R | exact bshr_R | exact lcm_R | omega) (fun hc => ?_) (fun hc => ?_)))) <;> (first | (exfalso; omega) | skip)
      repeat' (first
        | ((with_reducible refine kk _ ?_) <;> omega)
        | (show Rch _ _ _ _ _ 0 _ _ _; refine Rch.blk' (Rn_mono mt _) bl_X4_still_0 (i_aload_n rfl (i_gfs rfl (i_aload_n rfl (i_gfs rfl (t_cs2 (Rn_mono mt _) 11 rfl (Nat.le_of_ble_eq_true rfl) ?_))))))
        | (show Rch _ _ _ _ _ 11 _ _ _; refine Rch.blk' (Rn_mono mt _) bl_X4_still_11 (i_iconst k_0 (i_istore1 trivial (i_iconst k_0 (i_istore2 trivial (t_none ?_))))))
        | (show Rch _ _ _ _ _ 21 _ _ _; refine Rch.blk' (Rn_mono mt _) bl_X4_still_21 (i_aload_n rfl (t_cv1 (Rn_mono mt _) 25 rfl (Nat.le_of_ble_eq_true rfl) ?_)))
        | (show Rch _ _ _ _ _ 25 _ _ _; refine Rch.blk' (Rn_mono mt _) bl_X4_still_25 (t_if_eq 32 28 rfl rfl (by first | exact hI_R | exact band_R | exact bor_R | exact bshr_R | exact lcm_R | omega) (fun hc => ?_) (fun hc => ?_)) <;> (first | (exfalso; omega) | skip))
        | (show Rch _ _ _ _ _ 28 _ _ _; refine Rch.blk' (Rn_mono mt _) bl_X4_still_28 (i_iconst k_0 (t_goto 35 rfl ?_)))
        | (show Rch _ _ _ _ _ 32 _ _ _; refine Rch.blk' (Rn_mono mt _) bl_X4_still_32 (i_iload_n rfl (i_iconst k_1 (i_iadd (t_none ?_)))))
        | (show Rch _ _ _ _ _ 35 _ _ _; refine Rch.blk' (Rn_mono mt _) bl_X4_still_35 (i_istore1 trivial (i_iload_n rfl (i_bipush k_20 (t_ic_ne 47 42 rfl rfl (by first | exact hI_R | exact band_R | exact bor_R | exact bshr_R | exact lcm_R | omega) (by first | exact hI_R | exact band_R | exact bor_R | exact bshr_R | exact lcm_R | omega) (fun hc => ?_) (fun hc => ?_))))) <;> (first | (exfalso; omega) | skip))
        | (show Rch _ _ _ _ _ 42 _ _ _; refine Rch.blk' (Rn_mono mt _) bl_X4_still_42 (i_iload_n rfl (i_bipush k_19 (i_isub (t_iret ?_)))))
        | (show Rch _ _ _ _ _ 47 _ _ _; refine Rch.blk' (Rn_mono mt _) bl_X4_still_47 (i_iinc2 trivial k_1 (t_goto 15 rfl ?_)))
        | (show Rch _ _ _ _ _ 53 _ _ _; refine Rch.blk' (Rn_mono mt _) bl_X4_still_53 (i_bipush k_m4 (t_iret ?_))))
  have kz : ∀ j : Int, 0 ≤ j → j < 0 + 1 → ¬ j - LM G j = 20 := by
    intro j j0 j1
    have := @LM_r G j j0
    omega
  have ky : ∀ h', RR h' 1 G no0 0 → FrR h h' 1 → RH bX4_still (d + 19) Q 15 [some (ar 3 0), some (ai (I 0)), some (ai (I 0))] h' := fun h' a b => key 0 (by omega) (by omega) kz h' a (b.jy (by omega)) 0 (by rw [LM_0]; rfl)
  repeat' (first
    | (show Rn _ _ 108 _ _ _; refine c_X4_copies hG hO (by decide) (fun _ _ _ => ?_))
    | exact ky _ (by assumption) (by assumption)
    | (show Rch _ _ _ _ _ 0 _ _ _; refine Rch.blk' (Rn_mono mt _) bl_X4_still_0 (i_aload_n rfl (i_gfs rfl (i_aload_n rfl (i_gfs rfl (t_cs2 (Rn_mono mt _) 11 rfl (Nat.le_of_ble_eq_true rfl) ?_))))))
    | (show Rch _ _ _ _ _ 11 _ _ _; refine Rch.blk' (Rn_mono mt _) bl_X4_still_11 (i_iconst k_0 (i_istore1 trivial (i_iconst k_0 (i_istore2 trivial (t_none ?_))))))
    | (show Rch _ _ _ _ _ 21 _ _ _; refine Rch.blk' (Rn_mono mt _) bl_X4_still_21 (i_aload_n rfl (t_cv1 (Rn_mono mt _) 25 rfl (Nat.le_of_ble_eq_true rfl) ?_)))
    | (show Rch _ _ _ _ _ 25 _ _ _; refine Rch.blk' (Rn_mono mt _) bl_X4_still_25 (t_if_eq 32 28 rfl rfl (by first | exact hI_R | exact band_R | exact bor_R | exact bshr_R | exact lcm_R | omega) (fun hc => ?_) (fun hc => ?_)) <;> (first | (exfalso; omega) | skip))
    | (show Rch _ _ _ _ _ 28 _ _ _; refine Rch.blk' (Rn_mono mt _) bl_X4_still_28 (i_iconst k_0 (t_goto 35 rfl ?_)))
    | (show Rch _ _ _ _ _ 32 _ _ _; refine Rch.blk' (Rn_mono mt _) bl_X4_still_32 (i_iload_n rfl (i_iconst k_1 (i_iadd (t_none ?_)))))
    | (show Rch _ _ _ _ _ 35 _ _ _; refine Rch.blk' (Rn_mono mt _) bl_X4_still_35 (i_istore1 trivial (i_iload_n rfl (i_bipush k_20 (t_ic_ne 47 42 rfl rfl (by first | exact hI_R | exact band_R | exact bor_R | exact bshr_R | exact lcm_R | omega) (by first | exact hI_R | exact band_R | exact bor_R | exact bshr_R | exact lcm_R | omega) (fun hc => ?_) (fun hc => ?_))))) <;> (first | (exfalso; omega) | skip))
    | (show Rch _ _ _ _ _ 42 _ _ _; refine Rch.blk' (Rn_mono mt _) bl_X4_still_42 (i_iload_n rfl (i_bipush k_19 (i_isub (t_iret ?_)))))
    | (show Rch _ _ _ _ _ 47 _ _ _; refine Rch.blk' (Rn_mono mt _) bl_X4_still_47 (i_iinc2 trivial k_1 (t_goto 15 rfl ?_)))
    | (show Rch _ _ _ _ _ 53 _ _ _; refine Rch.blk' (Rn_mono mt _) bl_X4_still_53 (i_bipush k_m4 (t_iret ?_))))
end C25

