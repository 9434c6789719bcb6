/-! FALLS: the class's answer -/
section C23
variable {d L : Nat} {h : Mem} {Q : Option AV → Mem → Prop} {G : Bd}
theorem c_X3_falls (hG : RC h 0 G) (hO : OKB G) (hy : dy G ≤ 999) {p : Int} (hp : inR p) (hq : ∀ v h', v = vFalls G p → JX h h' → Q (some (ai (I v))) h') : Rn mt L (d + 7) 62 [ar 2 0, ai (I p)] h Q := by
  refine Rn.intro iX3_falls rfl rfl ?_
  show Rch bX3_falls _ _ _ _ 0 [some (ar 2 0), some (ai (I p)), none] [] _
  have g_n := hO.n
  have k1 : ∀ h', FrC h h' 2 → p = -1 → Q (some (ai (I (FF G)))) h' := fun h' a e => hq _ _ (by unfold vFalls; rw [if_pos e]) (a.jx (by omega))
  have k2 : ∀ v h', FrC h h' 2 → (0 ≤ p ∧ p < nn G) → v = FO G p → Q (some (ai (I v))) h' := fun v h' a c e => hq _ _ (by unfold vFalls; rw [if_neg (by omega), if_pos c]; exact e) (a.jx (by omega))
  have k3 : ∀ u, u = -1 → ¬ p = -1 → ¬ (0 ≤ p ∧ p < nn G) → Q (some (ai (I u))) h := fun u e a c => hq _ _ (by unfold vFalls; rw [if_neg a, if_neg c]; exact e) JX.rf
  clear hq
  have key : (0 ≤ p ∧ p < nn G) → ∀ n : Int, n ≤ 60 → 0 ≤ n → (∀ j : Int, 0 ≤ j → j < n → ¬ sq (DN G no0 j) p = 36) → ∀ (h' : Mem), RC h' 2 (DN G no0 n) → FrC h h' 2 → RH L bX3_falls (d + 6) Q 36 [some (ar 2 0), some (ai (I p)), some (ai (I n))] h' := by
    intro hp2
    refine up_ind (fun n hn ih n0 hj h' hR hF => ?_)
    obtain ⟨hOk, hnk, hdk, -⟩ := DN_f (M := no0) hO n n0
    have g_m : 0 ≤ sq (DN G no0 n) p ∧ sq (DN G no0 n) p ≤ 36 := (hOk.pc p hp2.1 (by rw [hnk]; exact hp2.2)).2.2.2
    have e_n := hR.n
    have kH : sq (DN G no0 n) p = 36 → ∀ u, u = n → Q (some (ai (I u))) h' := fun c u e => k2 u h' hF hp2 (by
      rw [e]; exact (fst_is n0 (by omega) c hj).symm)
    have kN : ¬ sq (DN G no0 n) p = 36 → n = 60 → ∀ u, u = -4 → Q (some (ai (I u))) h' := fun c e u e2 => k2 u h' hF hp2 (by
      rw [e2]; exact (fst_no (fun j j0 j1 => by
        by_cases z : j = n
        · subst z; exact c
        · exact hj j j0 (by omega))).symm)
    have kS : n < 60 → ¬ sq (DN G no0 n) p = 36 → ∀ h2, RC h2 2 (DAY (DN G no0 n) no0 0) → FrC h' h2 2 → RH L bX3_falls (d + 6) Q 36 [some (ar 2 0), some (ai (I p)), some (ai (I (n + 1)))] h2 := fun a c h2 b f => ih a (by omega) (fun j j0 j1 => by
      by_cases z : j = n
      · subst z; exact c
      · exact hj j j0 (by omega)) h2 (by rw [DN_up n0]; exact b) (hF.tr f)
    clear ih hj
    refine Rch.blk' (Rn_mono mt _ _) bl_X3_falls_36 (i_iload_n rfl (i_bipush k_60 (t_ic_ge 71 42 rfl rfl (by first | exact hI_R | exact band_R | exact bor_R | exact bshr_R | exact lcm_R | omega | (simp (disch := omega) only [e_n]; omega)) (by first | exact hI_R | exact band_R | exact bor_R | exact bshr_R | exact lcm_R | omega | (simp (disch := omega) only [e_n]; omega)) (fun hc => ?_) (fun hc => ?_)))) <;> (first | (exfalso; omega) | skip)
    repeat' (first
      | (show Rn _ _ _ 29 _ _ _; refine c_X0_passDay0 hR hOk (by omega) (by omega) (fun _ _ _ _ _ => ?_))
      | ((with_reducible refine kS (by omega) (by omega) _ (by assumption) (by assumption)) <;> omega)
      | ((with_reducible refine kH ?_ _ ?_) <;> omega)
      | ((with_reducible refine kN ?_ ?_ _ ?_) <;> omega)
      | (show Rn _ _ _ 1 _ _ _; refine c_X0_has (by assumption) (by assumption) (by first | omega | exact hI_R) (fun _ _ => ?_) (fun _ => ?_))
      | (show Rn _ _ _ 2 _ _ _; refine c_X0_isThere (by assumption) (by assumption) (by first | omega | exact hI_R) (fun _ _ _ _ => ?_) (fun _ => ?_))
      | (show Rch _ _ _ _ _ 0 _ _ _; refine Rch.blk' (Rn_mono mt _ _) bl_X3_falls_0 (i_iload_n rfl (i_iconst k_m1 (t_ic_ne 10 5 rfl rfl (by first | exact hI_R | exact band_R | exact bor_R | exact bshr_R | exact lcm_R | omega) (by first | exact hI_R | exact band_R | exact bor_R | exact bshr_R | exact lcm_R | omega) (fun hc => ?_) (fun hc => ?_)))) <;> (first | (exfalso; omega) | skip))
      | (show Rch _ _ _ _ _ 5 _ _ _; refine Rch.blk' (Rn_mono mt _ _) bl_X3_falls_5 (i_aload_n rfl (t_cv1 (Rn_mono mt _ _) 9 rfl (Nat.le_of_ble_eq_true rfl) ?_)))
      | (show Rch _ _ _ _ _ 9 _ _ _; refine Rch.blk' (Rn_mono mt _ _) bl_X3_falls_9 (t_iret ?_))
      | (show Rch _ _ _ _ _ 10 _ _ _; refine Rch.blk' (Rn_mono mt _ _) bl_X3_falls_10 (i_aload_n rfl (i_gfs rfl (i_iload_n rfl (t_cv2 (Rn_mono mt _ _) 18 rfl (Nat.le_of_ble_eq_true rfl) ?_)))))
      | (show Rch _ _ _ _ _ 18 _ _ _; refine Rch.blk' (Rn_mono mt _ _) bl_X3_falls_18 (t_if_ne 23 21 rfl rfl (by first | exact hI_R | exact band_R | exact bor_R | exact bshr_R | exact lcm_R | omega) (fun hc => ?_) (fun hc => ?_)) <;> (first | (exfalso; omega) | skip))
      | (show Rch _ _ _ _ _ 21 _ _ _; refine Rch.blk' (Rn_mono mt _ _) bl_X3_falls_21 (i_iconst k_m1 (t_iret ?_)))
      | (show Rch _ _ _ _ _ 23 _ _ _; refine Rch.blk' (Rn_mono mt _ _) bl_X3_falls_23 (i_aload_n rfl (i_gfs rfl (i_aload_n rfl (i_gfs rfl (t_cv2 (Rn_mono mt _ _) 34 rfl (Nat.le_of_ble_eq_true rfl) ?_))))))
      | (show Rch _ _ _ _ _ 34 _ _ _; refine Rch.blk' (Rn_mono mt _ _) bl_X3_falls_34 (i_iconst k_0 (i_istore2 trivial (t_none ?_))))
      | (show Rch _ _ _ _ _ 42 _ _ _; refine Rch.blk' (Rn_mono mt _ _) bl_X3_falls_42 (i_aload_n rfl (i_gfs rfl (i_iload_n rfl (t_cv2 (Rn_mono mt _ _) 50 rfl (Nat.le_of_ble_eq_true rfl) ?_)))))
      | (show Rch _ _ _ _ _ 50 _ _ _; refine Rch.blk' (Rn_mono mt _ _) bl_X3_falls_50 (t_if_ne 55 53 rfl rfl (by first | exact hI_R | exact band_R | exact bor_R | exact bshr_R | exact lcm_R | omega) (fun hc => ?_) (fun hc => ?_)) <;> (first | (exfalso; omega) | skip))
      | (show Rch _ _ _ _ _ 53 _ _ _; refine Rch.blk' (Rn_mono mt _ _) bl_X3_falls_53 (i_iload_n rfl (t_iret ?_)))
      | (show Rch _ _ _ _ _ 55 _ _ _; refine Rch.blk' (Rn_mono mt _ _) bl_X3_falls_55 (i_aload_n rfl (i_gfs rfl (i_iconst k_0 (i_iconst k_0 (t_cv3 (Rn_mono mt _ _) 64 rfl (Nat.le_of_ble_eq_true rfl) ?_))))))
      | (show Rch _ _ _ _ _ 64 _ _ _; refine Rch.blk' (Rn_mono mt _ _) bl_X3_falls_64 (i_pop rfl (i_iinc2 trivial k_1 (t_goto 36 rfl ?_))))
      | (show Rch _ _ _ _ _ 71 _ _ _; refine Rch.blk' (Rn_mono mt _ _) bl_X3_falls_71 (i_aload_n rfl (i_gfs rfl (i_iload_n rfl (t_cv2 (Rn_mono mt _ _) 79 rfl (Nat.le_of_ble_eq_true rfl) ?_)))))
      | (show Rch _ _ _ _ _ 79 _ _ _; refine Rch.blk' (Rn_mono mt _ _) bl_X3_falls_79 (t_if_eq 87 82 rfl rfl (by first | exact hI_R | exact band_R | exact bor_R | exact bshr_R | exact lcm_R | omega) (fun hc => ?_) (fun hc => ?_)) <;> (first | (exfalso; omega) | skip))
      | (show Rch _ _ _ _ _ 82 _ _ _; refine Rch.blk' (Rn_mono mt _ _) bl_X3_falls_82 (i_bipush k_m4 (t_goto 89 rfl ?_)))
      | (show Rch _ _ _ _ _ 87 _ _ _; refine Rch.blk' (Rn_mono mt _ _) bl_X3_falls_87 (i_bipush k_60 (t_none ?_)))
      | (show Rch _ _ _ _ _ 89 _ _ _; refine Rch.blk' (Rn_mono mt _ _) bl_X3_falls_89 (t_iret ?_)))
  repeat' (first
    | (show Rn _ _ _ 61 _ _ _; refine c_X3_firstToFall hG hO hy (fun _ _ => ?_))
    | (show Rn _ _ _ 0 _ _ _; refine c_X0_becomes hG hO (by decide) (fun _ _ _ => ?_))
    | exact key (by omega) 0 (by omega) (by omega) (fun j a b => by omega) _ (by assumption) (by assumption)
    | exact k1 _ (by assumption) (by omega)
    | ((with_reducible refine k3 _ ?_ ?_ ?_) <;> omega)
    | (show Rn _ _ _ 1 _ _ _; refine c_X0_has (by assumption) (by assumption) (by first | omega | exact hI_R) (fun _ _ => ?_) (fun _ => ?_))
    | (show Rn _ _ _ 2 _ _ _; refine c_X0_isThere (by assumption) (by assumption) (by first | omega | exact hI_R) (fun _ _ _ _ => ?_) (fun _ => ?_))
    | (show Rch _ _ _ _ _ 0 _ _ _; refine Rch.blk' (Rn_mono mt _ _) bl_X3_falls_0 (i_iload_n rfl (i_iconst k_m1 (t_ic_ne 10 5 rfl rfl (by first | exact hI_R | exact band_R | exact bor_R | exact bshr_R | exact lcm_R | omega) (by first | exact hI_R | exact band_R | exact bor_R | exact bshr_R | exact lcm_R | omega) (fun hc => ?_) (fun hc => ?_)))) <;> (first | (exfalso; omega) | skip))
    | (show Rch _ _ _ _ _ 5 _ _ _; refine Rch.blk' (Rn_mono mt _ _) bl_X3_falls_5 (i_aload_n rfl (t_cv1 (Rn_mono mt _ _) 9 rfl (Nat.le_of_ble_eq_true rfl) ?_)))
    | (show Rch _ _ _ _ _ 9 _ _ _; refine Rch.blk' (Rn_mono mt _ _) bl_X3_falls_9 (t_iret ?_))
    | (show Rch _ _ _ _ _ 10 _ _ _; refine Rch.blk' (Rn_mono mt _ _) bl_X3_falls_10 (i_aload_n rfl (i_gfs rfl (i_iload_n rfl (t_cv2 (Rn_mono mt _ _) 18 rfl (Nat.le_of_ble_eq_true rfl) ?_)))))
    | (show Rch _ _ _ _ _ 18 _ _ _; refine Rch.blk' (Rn_mono mt _ _) bl_X3_falls_18 (t_if_ne 23 21 rfl rfl (by first | exact hI_R | exact band_R | exact bor_R | exact bshr_R | exact lcm_R | omega) (fun hc => ?_) (fun hc => ?_)) <;> (first | (exfalso; omega) | skip))
    | (show Rch _ _ _ _ _ 21 _ _ _; refine Rch.blk' (Rn_mono mt _ _) bl_X3_falls_21 (i_iconst k_m1 (t_iret ?_)))
    | (show Rch _ _ _ _ _ 23 _ _ _; refine Rch.blk' (Rn_mono mt _ _) bl_X3_falls_23 (i_aload_n rfl (i_gfs rfl (i_aload_n rfl (i_gfs rfl (t_cv2 (Rn_mono mt _ _) 34 rfl (Nat.le_of_ble_eq_true rfl) ?_))))))
    | (show Rch _ _ _ _ _ 34 _ _ _; refine Rch.blk' (Rn_mono mt _ _) bl_X3_falls_34 (i_iconst k_0 (i_istore2 trivial (t_none ?_))))
    | (show Rch _ _ _ _ _ 42 _ _ _; refine Rch.blk' (Rn_mono mt _ _) bl_X3_falls_42 (i_aload_n rfl (i_gfs rfl (i_iload_n rfl (t_cv2 (Rn_mono mt _ _) 50 rfl (Nat.le_of_ble_eq_true rfl) ?_)))))
    | (show Rch _ _ _ _ _ 50 _ _ _; refine Rch.blk' (Rn_mono mt _ _) bl_X3_falls_50 (t_if_ne 55 53 rfl rfl (by first | exact hI_R | exact band_R | exact bor_R | exact bshr_R | exact lcm_R | omega) (fun hc => ?_) (fun hc => ?_)) <;> (first | (exfalso; omega) | skip))
    | (show Rch _ _ _ _ _ 53 _ _ _; refine Rch.blk' (Rn_mono mt _ _) bl_X3_falls_53 (i_iload_n rfl (t_iret ?_)))
    | (show Rch _ _ _ _ _ 55 _ _ _; refine Rch.blk' (Rn_mono mt _ _) bl_X3_falls_55 (i_aload_n rfl (i_gfs rfl (i_iconst k_0 (i_iconst k_0 (t_cv3 (Rn_mono mt _ _) 64 rfl (Nat.le_of_ble_eq_true rfl) ?_))))))
    | (show Rch _ _ _ _ _ 64 _ _ _; refine Rch.blk' (Rn_mono mt _ _) bl_X3_falls_64 (i_pop rfl (i_iinc2 trivial k_1 (t_goto 36 rfl ?_))))
    | (show Rch _ _ _ _ _ 71 _ _ _; refine Rch.blk' (Rn_mono mt _ _) bl_X3_falls_71 (i_aload_n rfl (i_gfs rfl (i_iload_n rfl (t_cv2 (Rn_mono mt _ _) 79 rfl (Nat.le_of_ble_eq_true rfl) ?_)))))
    | (show Rch _ _ _ _ _ 79 _ _ _; refine Rch.blk' (Rn_mono mt _ _) bl_X3_falls_79 (t_if_eq 87 82 rfl rfl (by first | exact hI_R | exact band_R | exact bor_R | exact bshr_R | exact lcm_R | omega) (fun hc => ?_) (fun hc => ?_)) <;> (first | (exfalso; omega) | skip))
    | (show Rch _ _ _ _ _ 82 _ _ _; refine Rch.blk' (Rn_mono mt _ _) bl_X3_falls_82 (i_bipush k_m4 (t_goto 89 rfl ?_)))
    | (show Rch _ _ _ _ _ 87 _ _ _; refine Rch.blk' (Rn_mono mt _ _) bl_X3_falls_87 (i_bipush k_60 (t_none ?_)))
    | (show Rch _ _ _ _ _ 89 _ _ _; refine Rch.blk' (Rn_mono mt _ _) bl_X3_falls_89 (t_iret ?_)))
end C23


