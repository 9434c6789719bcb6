/-! EARS and QUIET: both sides -/
abbrev QC (G : Bd) (y i : Int) : Prop := sq G i < 36 ∧ ide G i y = -4
section C15
variable {d L : Nat} {h : Mem} {Q : Option AV → Mem → Prop} {b : Nat} {G : Bd}
theorem c_X0_quietOn (hG : RC h b G) (hO : OKB G) {y : Int} (h4 : 0 ≤ y) (h5 : y < 1000000) (hq : Q (some (ai (I (BT (fun i => i < nn G ∧ QC G y i))))) h) : Rn mt L (d + 4) 41 [ar 0 b, ai (I y)] h Q := by
  refine Rn.intro iX0_quietOn rfl rfl ?_
  show Rch bX0_quietOn _ _ _ _ 0 [some (ar 0 b), some (ai (I y)), none, none] [] _
  have e_n := hG.n
  have g_n := hO.n
  have key : ∀ k : Int, k ≤ nn G → 0 ≤ k → RH L bX0_quietOn (d + 3) Q 4 [some (ar 0 b), some (ai (I y)), some (ai (I (BT (fun i => i < k ∧ QC G y i)))), some (ai (I k))] h := by
    refine up_ind (fun k hk ih hk0 => ?_)
    by_cases hk1 : k < nn G
    · have ih := ih hk1 (by omega)
      have ih1 : (sq G k < 36 ∧ ide G k y = -4) → RH L bX0_quietOn (d + 3) Q 4 [some (ar 0 b), some (ai (I y)), some (ai (I (bor (BT (fun i => i < k ∧ QC G y i)) (bshl 1 k)))), some (ai (I (k + 1)))] h := by
        intro hC; rw [BT_up1 (C := QC G y) hk0 (by omega) hC]; exact ih
      have ih0 : ¬ (sq G k < 36 ∧ ide G k y = -4) → RH L bX0_quietOn (d + 3) Q 4 [some (ar 0 b), some (ai (I y)), some (ai (I (bor (BT (fun i => i < k ∧ QC G y i)) 0))), some (ai (I (k + 1)))] h := by
        intro hC; rw [BT_up2 (C := QC G y) hC]; exact ih
      clear ih
      refine Rch.blk' (Rn_mono mt _ _) bl_X0_quietOn_4 (i_iload_n rfl (i_aload_n rfl (i_gfi rfl (t_ic_ge 47 12 rfl rfl (by first | exact hI_R | exact band_R | exact bor_R | exact bshr_R | exact lcm_R | omega | (simp (disch := omega) only [e_n]; omega)) (by first | exact hI_R | exact band_R | exact bor_R | exact bshr_R | exact lcm_R | omega | (simp (disch := omega) only [e_n]; omega)) (fun hc => ?_) (fun hc => ?_))))) <;> (try (simp (disch := omega) only [e_n] at hc ⊢)) <;> (first | (exfalso; omega) | skip)
      repeat' (first
        | exact ih1 (by omega)
        | exact ih0 (by omega)
        | (show Rn _ _ _ 2 _ _ _; refine c_X0_isThere (by assumption) (by assumption) (by first | omega | exact hI_R) (fun _ _ _ _ => ?_) (fun _ => ?_))
        | (show Rn _ _ _ 23 _ _ _; refine c_X0_ideaOf (by assumption) (by assumption) (by first | omega | exact hI_R) (by omega) (by omega) (fun _ _ _ _ _ _ _ => ?_) (fun _ => ?_))
        | (show Rch _ _ _ _ _ 0 _ _ _; refine Rch.blk' (Rn_mono mt _ _) bl_X0_quietOn_0 (i_iconst k_0 (i_istore2 trivial (i_iconst k_0 (i_istore3 trivial (t_none ?_))))))
        | (show Rch _ _ _ _ _ 12 _ _ _; refine Rch.blk' (Rn_mono mt _ _) bl_X0_quietOn_12 (i_iload_n rfl (i_aload_n rfl (i_iload_n rfl (t_cv2 (Rn_mono mt _ _) 18 rfl (Nat.le_of_ble_eq_true rfl) ?_)))))
        | (show Rch _ _ _ _ _ 18 _ _ _; refine Rch.blk' (Rn_mono mt _ _) bl_X0_quietOn_18 (t_if_eq 38 21 rfl rfl (by first | exact hI_R | exact band_R | exact bor_R | exact bshr_R | exact lcm_R | omega) (fun hc => ?_) (fun hc => ?_)) <;> (first | (exfalso; omega) | skip))
        | (show Rch _ _ _ _ _ 21 _ _ _; refine Rch.blk' (Rn_mono mt _ _) bl_X0_quietOn_21 (i_aload_n rfl (i_iload_n rfl (i_iload_n rfl (t_cv3 (Rn_mono mt _ _) 27 rfl (Nat.le_of_ble_eq_true rfl) ?_)))))
        | (show Rch _ _ _ _ _ 27 _ _ _; refine Rch.blk' (Rn_mono mt _ _) bl_X0_quietOn_27 (i_bipush k_m4 (t_ic_ne 38 32 rfl rfl (by first | exact hI_R | exact band_R | exact bor_R | exact bshr_R | exact lcm_R | omega) (by first | exact hI_R | exact band_R | exact bor_R | exact bshr_R | exact lcm_R | omega) (fun hc => ?_) (fun hc => ?_))) <;> (first | (exfalso; omega) | skip))
        | (show Rch _ _ _ _ _ 32 _ _ _; refine Rch.blk' (Rn_mono mt _ _) bl_X0_quietOn_32 (i_iconst k_1 (i_iload_n rfl (i_ishl (t_goto 39 rfl ?_)))))
        | (show Rch _ _ _ _ _ 38 _ _ _; refine Rch.blk' (Rn_mono mt _ _) bl_X0_quietOn_38 (i_iconst k_0 (t_none ?_)))
        | (show Rch _ _ _ _ _ 39 _ _ _; refine Rch.blk' (Rn_mono mt _ _) bl_X0_quietOn_39 (i_ior (i_istore2 trivial (i_iinc3 trivial k_1 (t_goto 4 rfl ?_)))))
        | (show Rch _ _ _ _ _ 47 _ _ _; refine Rch.blk' (Rn_mono mt _ _) bl_X0_quietOn_47 (i_iload_n rfl (t_iret ?_))))
    · obtain rfl : k = nn G := by omega
      refine Rch.blk' (Rn_mono mt _ _) bl_X0_quietOn_4 (i_iload_n rfl (i_aload_n rfl (i_gfi rfl (t_ic_ge 47 12 rfl rfl (by first | exact hI_R | exact band_R | exact bor_R | exact bshr_R | exact lcm_R | omega | (simp (disch := omega) only [e_n]; omega)) (by first | exact hI_R | exact band_R | exact bor_R | exact bshr_R | exact lcm_R | omega | (simp (disch := omega) only [e_n]; omega)) (fun hc => ?_) (fun hc => ?_))))) <;> (try (simp (disch := omega) only [e_n] at hc ⊢)) <;> (first | (exfalso; omega) | skip)
      repeat' (first
        | exact hq
        | (show Rn _ _ _ 2 _ _ _; refine c_X0_isThere (by assumption) (by assumption) (by first | omega | exact hI_R) (fun _ _ _ _ => ?_) (fun _ => ?_))
        | (show Rn _ _ _ 23 _ _ _; refine c_X0_ideaOf (by assumption) (by assumption) (by first | omega | exact hI_R) (by omega) (by omega) (fun _ _ _ _ _ _ _ => ?_) (fun _ => ?_))
        | (show Rch _ _ _ _ _ 0 _ _ _; refine Rch.blk' (Rn_mono mt _ _) bl_X0_quietOn_0 (i_iconst k_0 (i_istore2 trivial (i_iconst k_0 (i_istore3 trivial (t_none ?_))))))
        | (show Rch _ _ _ _ _ 12 _ _ _; refine Rch.blk' (Rn_mono mt _ _) bl_X0_quietOn_12 (i_iload_n rfl (i_aload_n rfl (i_iload_n rfl (t_cv2 (Rn_mono mt _ _) 18 rfl (Nat.le_of_ble_eq_true rfl) ?_)))))
        | (show Rch _ _ _ _ _ 18 _ _ _; refine Rch.blk' (Rn_mono mt _ _) bl_X0_quietOn_18 (t_if_eq 38 21 rfl rfl (by first | exact hI_R | exact band_R | exact bor_R | exact bshr_R | exact lcm_R | omega) (fun hc => ?_) (fun hc => ?_)) <;> (first | (exfalso; omega) | skip))
        | (show Rch _ _ _ _ _ 21 _ _ _; refine Rch.blk' (Rn_mono mt _ _) bl_X0_quietOn_21 (i_aload_n rfl (i_iload_n rfl (i_iload_n rfl (t_cv3 (Rn_mono mt _ _) 27 rfl (Nat.le_of_ble_eq_true rfl) ?_)))))
        | (show Rch _ _ _ _ _ 27 _ _ _; refine Rch.blk' (Rn_mono mt _ _) bl_X0_quietOn_27 (i_bipush k_m4 (t_ic_ne 38 32 rfl rfl (by first | exact hI_R | exact band_R | exact bor_R | exact bshr_R | exact lcm_R | omega) (by first | exact hI_R | exact band_R | exact bor_R | exact bshr_R | exact lcm_R | omega) (fun hc => ?_) (fun hc => ?_))) <;> (first | (exfalso; omega) | skip))
        | (show Rch _ _ _ _ _ 32 _ _ _; refine Rch.blk' (Rn_mono mt _ _) bl_X0_quietOn_32 (i_iconst k_1 (i_iload_n rfl (i_ishl (t_goto 39 rfl ?_)))))
        | (show Rch _ _ _ _ _ 38 _ _ _; refine Rch.blk' (Rn_mono mt _ _) bl_X0_quietOn_38 (i_iconst k_0 (t_none ?_)))
        | (show Rch _ _ _ _ _ 39 _ _ _; refine Rch.blk' (Rn_mono mt _ _) bl_X0_quietOn_39 (i_ior (i_istore2 trivial (i_iinc3 trivial k_1 (t_goto 4 rfl ?_)))))
        | (show Rch _ _ _ _ _ 47 _ _ _; refine Rch.blk' (Rn_mono mt _ _) bl_X0_quietOn_47 (i_iload_n rfl (t_iret ?_))))
  have key0 := key 0 (by omega) (by omega)
  rw [BT_0 (C := QC G y)] at key0
  repeat' (first
    | exact key0
    | (show Rn _ _ _ 2 _ _ _; refine c_X0_isThere (by assumption) (by assumption) (by first | omega | exact hI_R) (fun _ _ _ _ => ?_) (fun _ => ?_))
    | (show Rn _ _ _ 23 _ _ _; refine c_X0_ideaOf (by assumption) (by assumption) (by first | omega | exact hI_R) (by omega) (by omega) (fun _ _ _ _ _ _ _ => ?_) (fun _ => ?_))
    | (show Rch _ _ _ _ _ 0 _ _ _; refine Rch.blk' (Rn_mono mt _ _) bl_X0_quietOn_0 (i_iconst k_0 (i_istore2 trivial (i_iconst k_0 (i_istore3 trivial (t_none ?_))))))
    | (show Rch _ _ _ _ _ 12 _ _ _; refine Rch.blk' (Rn_mono mt _ _) bl_X0_quietOn_12 (i_iload_n rfl (i_aload_n rfl (i_iload_n rfl (t_cv2 (Rn_mono mt _ _) 18 rfl (Nat.le_of_ble_eq_true rfl) ?_)))))
    | (show Rch _ _ _ _ _ 18 _ _ _; refine Rch.blk' (Rn_mono mt _ _) bl_X0_quietOn_18 (t_if_eq 38 21 rfl rfl (by first | exact hI_R | exact band_R | exact bor_R | exact bshr_R | exact lcm_R | omega) (fun hc => ?_) (fun hc => ?_)) <;> (first | (exfalso; omega) | skip))
    | (show Rch _ _ _ _ _ 21 _ _ _; refine Rch.blk' (Rn_mono mt _ _) bl_X0_quietOn_21 (i_aload_n rfl (i_iload_n rfl (i_iload_n rfl (t_cv3 (Rn_mono mt _ _) 27 rfl (Nat.le_of_ble_eq_true rfl) ?_)))))
    | (show Rch _ _ _ _ _ 27 _ _ _; refine Rch.blk' (Rn_mono mt _ _) bl_X0_quietOn_27 (i_bipush k_m4 (t_ic_ne 38 32 rfl rfl (by first | exact hI_R | exact band_R | exact bor_R | exact bshr_R | exact lcm_R | omega) (by first | exact hI_R | exact band_R | exact bor_R | exact bshr_R | exact lcm_R | omega) (fun hc => ?_) (fun hc => ?_))) <;> (first | (exfalso; omega) | skip))
    | (show Rch _ _ _ _ _ 32 _ _ _; refine Rch.blk' (Rn_mono mt _ _) bl_X0_quietOn_32 (i_iconst k_1 (i_iload_n rfl (i_ishl (t_goto 39 rfl ?_)))))
    | (show Rch _ _ _ _ _ 38 _ _ _; refine Rch.blk' (Rn_mono mt _ _) bl_X0_quietOn_38 (i_iconst k_0 (t_none ?_)))
    | (show Rch _ _ _ _ _ 39 _ _ _; refine Rch.blk' (Rn_mono mt _ _) bl_X0_quietOn_39 (i_ior (i_istore2 trivial (i_iinc3 trivial k_1 (t_goto 4 rfl ?_)))))
    | (show Rch _ _ _ _ _ 47 _ _ _; refine Rch.blk' (Rn_mono mt _ _) bl_X0_quietOn_47 (i_iload_n rfl (t_iret ?_))))
end C15


