/-! THE LAW'S CASE OF A DAY -/
section C77
variable {d L : Nat} {Rt : Option AV → Mem → Prop} {h : Mem} {G Gi : Bd} {T : Int} {S : Sv} {i q sds p s : Int} {u13 u14 u15 u16 u17 u18 u19 u20 u21 u22 : Option AV}
theorem lw_c0_999 (hk : CK d L Rt i) (hW : CW h G T Gi S) (hO : OKB G) (hy : dy G = 999) (hT : T = 0 ∨ T = 1) (hTi : T = 1 → OKB Gi ∧ dy Gi ≤ 999) (hK : OKS S) (hE : OKE S) {w13 w14 w15 w20 w21 : Int} : Rch bL_law (Rn mt L (d + 8)) L (fun _ _ _ _ => False) Rt 433 [some (ar 22 0), some (ar 2 0), some (ar 12 0), some (ai (I i)), some (ai (I q)), some (al (SGT G)), none, some (ai (I (nn G))), some (ai (I (BT (TS G)))), some (ai (I (BT (TS G)))), some (ai (I sds)), some (ai (I p)), some (ai (I s)), some (ai (I w13)), some (ai (I w14)), some (ai (I w15)), some (ai (I (tn G))), some (ai (I (th G))), some (ai (I (dy G))), some (ai (I (CT G (tn G)))), some (ai (I w20)), u21, u22] [ai (I w21)] h := by
  have e_l := @lcm_s (SGT G)
  refine Rch.blk' (Rn_mono mt _ _) bl_L_law_433 (i_istore21 trivial (i_aload_n rfl (i_iconst k_1 (t_cv2 (Rn_mono mt _ _) 440 rfl (Nat.le_of_ble_eq_true rfl) ?_))))
  refine k_days hW hO (by omega) (by omega) ((@days_1 G).2 (by omega)) (fun h hW => ?_)
  repeat' (first
    | (show Rn _ _ _ 77 _ _ _; refine c_L_cell rfl (by omega) (by omega) (by omega) (fun _ _ => ?_))
    | (show Rn _ _ _ 87 _ _ _; refine c_L_bits (fun _ _ => ?_))
    | (show Rch _ _ _ _ _ 440 _ _ _; refine Rch.blk' (Rn_mono mt _ _) bl_L_law_440 (i_istore22 trivial (i_iload rfl (i_sipush k_999 (t_ic_ne 469 450 rfl rfl (by first | with_reducible exact hI_R | with_reducible exact lcm_R | with_reducible exact band_R | with_reducible exact bor_R | with_reducible exact bshr_R | with_reducible exact bshl_R | omega) (by first | with_reducible exact hI_R | with_reducible exact lcm_R | with_reducible exact band_R | with_reducible exact bor_R | with_reducible exact bshr_R | with_reducible exact bshl_R | omega) (fun hc => ?_) (fun hc => ?_))))) <;> (first | (exfalso; omega) | skip))
    | (show Rch _ _ _ _ _ 450 _ _ _; refine Rch.blk' (Rn_mono mt _ _) bl_L_law_450 (i_iload rfl (i_bipush k_m3 (t_ic_ne 467 457 rfl rfl (by first | with_reducible exact hI_R | with_reducible exact lcm_R | with_reducible exact band_R | with_reducible exact bor_R | with_reducible exact bshr_R | with_reducible exact bshl_R | omega) (by first | with_reducible exact hI_R | with_reducible exact lcm_R | with_reducible exact band_R | with_reducible exact bor_R | with_reducible exact bshr_R | with_reducible exact bshl_R | omega) (fun hc => ?_) (fun hc => ?_)))) <;> (first | (exfalso; omega) | skip))
    | (show Rch _ _ _ _ _ 457 _ _ _; refine Rch.blk' (Rn_mono mt _ _) bl_L_law_457 (i_aload_n rfl (t_cs1 (Rn_mono mt _ _) 461 rfl (Nat.le_of_ble_eq_true rfl) ?_))))
  refine k_sight hW hO (by omega) (fun h hW => ?_)
  have hk := fun (x22 : Option AV) => hk h (some (ai (I q))) (some (al (SGT G))) none (some (ai (I (nn G)))) (some (ai (I (BT (TS G))))) (some (ai (I (BT (TS G))))) (some (ai (I sds))) (some (ai (I p))) (some (ai (I s))) (some (ai (I w13))) (some (ai (I w14))) (some (ai (I w15))) (some (ai (I (tn G)))) (some (ai (I (th G)))) (some (ai (I (dy G)))) (some (ai (I (CT G (tn G))))) (some (ai (I w20))) (some (ai (I w21))) x22 ⟨G, T, Gi, S, hW, ⟨hO, by omega⟩, hT, hTi, hK, hE⟩
  repeat' (first
    | exact hk _
    | (show Rn _ _ _ 77 _ _ _; refine c_L_cell rfl (by omega) (by omega) (by omega) (fun _ _ => ?_))
    | (show Rn _ _ _ 87 _ _ _; refine c_L_bits (fun _ _ => ?_))
    | (show Rch _ _ _ _ _ 461 _ _ _; refine Rch.blk' (Rn_mono mt _ _) bl_L_law_461 (i_lload rfl (i_lcmp (t_if_eq 668 467 rfl rfl (by first | with_reducible exact hI_R | with_reducible exact lcm_R | with_reducible exact band_R | with_reducible exact bor_R | with_reducible exact bshr_R | with_reducible exact bshl_R | omega) (fun hc => ?_) (fun hc => ?_)))) <;> (first | (exfalso; omega) | skip))
    | (show Rch _ _ _ _ _ 467 _ _ _; refine Rch.blk' (Rn_mono mt _ _) bl_L_law_467 (i_iconst k_0 (t_zret (by omega) ?_)))
    | (show Rch _ _ _ _ _ 469 _ _ _; refine Rch.blk' (Rn_mono mt _ _) bl_L_law_469 (i_iload rfl (t_if_ge 541 474 rfl rfl (by first | with_reducible exact hI_R | with_reducible exact lcm_R | with_reducible exact band_R | with_reducible exact bor_R | with_reducible exact bshr_R | with_reducible exact bshl_R | omega) (fun hc => ?_) (fun hc => ?_))) <;> (first | (exfalso; omega) | skip))
    | (show Rch _ _ _ _ _ 474 _ _ _; refine Rch.blk' (Rn_mono mt _ _) bl_L_law_474 (i_iload rfl (i_bipush k_m4 (t_ic_ne 539 481 rfl rfl (by first | with_reducible exact hI_R | with_reducible exact lcm_R | with_reducible exact band_R | with_reducible exact bor_R | with_reducible exact bshr_R | with_reducible exact bshl_R | omega) (by first | with_reducible exact hI_R | with_reducible exact lcm_R | with_reducible exact band_R | with_reducible exact bor_R | with_reducible exact bshr_R | with_reducible exact bshl_R | omega) (fun hc => ?_) (fun hc => ?_)))) <;> (first | (exfalso; omega) | skip))
    | (show Rch _ _ _ _ _ 481 _ _ _; refine Rch.blk' (Rn_mono mt _ _) bl_L_law_481 (i_iload rfl (t_if_ne 539 486 rfl rfl (by first | with_reducible exact hI_R | with_reducible exact lcm_R | with_reducible exact band_R | with_reducible exact bor_R | with_reducible exact bshr_R | with_reducible exact bshl_R | omega) (fun hc => ?_) (fun hc => ?_))) <;> (first | (exfalso; omega) | skip))
    | (show Rch _ _ _ _ _ 486 _ _ _; refine Rch.blk' (Rn_mono mt _ _) bl_L_law_486 (i_aload_n rfl (i_iconst k_4 (t_cv2 (Rn_mono mt _ _) 491 rfl (Nat.le_of_ble_eq_true rfl) ?_))))
    | (show Rch _ _ _ _ _ 491 _ _ _; refine Rch.blk' (Rn_mono mt _ _) bl_L_law_491 (i_iload rfl (t_ic_ne 539 496 rfl rfl (by first | with_reducible exact hI_R | with_reducible exact lcm_R | with_reducible exact band_R | with_reducible exact bor_R | with_reducible exact bshr_R | with_reducible exact bshl_R | omega) (by first | with_reducible exact hI_R | with_reducible exact lcm_R | with_reducible exact band_R | with_reducible exact bor_R | with_reducible exact bshr_R | with_reducible exact bshl_R | omega) (fun hc => ?_) (fun hc => ?_))) <;> (first | (exfalso; omega) | skip))
    | (show Rch _ _ _ _ _ 496 _ _ _; refine Rch.blk' (Rn_mono mt _ _) bl_L_law_496 (i_aload_n rfl (i_iconst k_3 (t_cv2 (Rn_mono mt _ _) 501 rfl (Nat.le_of_ble_eq_true rfl) ?_))))
    | (show Rch _ _ _ _ _ 501 _ _ _; refine Rch.blk' (Rn_mono mt _ _) bl_L_law_501 (i_iload rfl (i_sipush k_9999 (t_ic_ge 516 509 rfl rfl (by first | with_reducible exact hI_R | with_reducible exact lcm_R | with_reducible exact band_R | with_reducible exact bor_R | with_reducible exact bshr_R | with_reducible exact bshl_R | omega) (by first | with_reducible exact hI_R | with_reducible exact lcm_R | with_reducible exact band_R | with_reducible exact bor_R | with_reducible exact bshr_R | with_reducible exact bshl_R | omega) (fun hc => ?_) (fun hc => ?_)))) <;> (first | (exfalso; omega) | skip))
    | (show Rch _ _ _ _ _ 509 _ _ _; refine Rch.blk' (Rn_mono mt _ _) bl_L_law_509 (i_iload rfl (i_iconst k_1 (i_iadd (t_goto 519 rfl ?_)))))
    | (show Rch _ _ _ _ _ 516 _ _ _; refine Rch.blk' (Rn_mono mt _ _) bl_L_law_516 (i_sipush k_9999 (t_none ?_)))
    | (show Rch _ _ _ _ _ 519 _ _ _; refine Rch.blk' (Rn_mono mt _ _) bl_L_law_519 (t_ic_ne 539 522 rfl rfl (by first | with_reducible exact hI_R | with_reducible exact lcm_R | with_reducible exact band_R | with_reducible exact bor_R | with_reducible exact bshr_R | with_reducible exact bshl_R | omega) (by first | with_reducible exact hI_R | with_reducible exact lcm_R | with_reducible exact band_R | with_reducible exact bor_R | with_reducible exact bshr_R | with_reducible exact bshl_R | omega) (fun hc => ?_) (fun hc => ?_)) <;> (first | (exfalso; omega) | skip))
    | (show Rch _ _ _ _ _ 522 _ _ _; refine Rch.blk' (Rn_mono mt _ _) bl_L_law_522 (i_iload rfl (t_if_le 668 527 rfl rfl (by first | with_reducible exact hI_R | with_reducible exact lcm_R | with_reducible exact band_R | with_reducible exact bor_R | with_reducible exact bshr_R | with_reducible exact bshl_R | omega) (fun hc => ?_) (fun hc => ?_))) <;> (first | (exfalso; omega) | skip))
    | (show Rch _ _ _ _ _ 527 _ _ _; refine Rch.blk' (Rn_mono mt _ _) bl_L_law_527 (i_aload_n rfl (i_iload rfl (i_iconst k_3 (t_cv3 (Rn_mono mt _ _) 534 rfl (Nat.le_of_ble_eq_true rfl) ?_)))))
    | (show Rch _ _ _ _ _ 534 _ _ _; refine Rch.blk' (Rn_mono mt _ _) bl_L_law_534 (i_iload rfl (t_ic_eq 668 539 rfl rfl (by first | with_reducible exact hI_R | with_reducible exact lcm_R | with_reducible exact band_R | with_reducible exact bor_R | with_reducible exact bshr_R | with_reducible exact bshl_R | omega) (by first | with_reducible exact hI_R | with_reducible exact lcm_R | with_reducible exact band_R | with_reducible exact bor_R | with_reducible exact bshr_R | with_reducible exact bshl_R | omega) (fun hc => ?_) (fun hc => ?_))) <;> (first | (exfalso; omega) | skip))
    | (show Rch _ _ _ _ _ 539 _ _ _; refine Rch.blk' (Rn_mono mt _ _) bl_L_law_539 (i_iconst k_0 (t_zret (by omega) ?_)))
    | (show Rch _ _ _ _ _ 541 _ _ _; refine Rch.blk' (Rn_mono mt _ _) bl_L_law_541 (i_iconst k_2 (i_iload rfl (i_imul (i_iload rfl (t_ic_le 666 550 rfl rfl (by first | with_reducible exact hI_R | with_reducible exact lcm_R | with_reducible exact band_R | with_reducible exact bor_R | with_reducible exact bshr_R | with_reducible exact bshl_R | omega) (by first | with_reducible exact hI_R | with_reducible exact lcm_R | with_reducible exact band_R | with_reducible exact bor_R | with_reducible exact bshr_R | with_reducible exact bshl_R | omega) (fun hc => ?_) (fun hc => ?_)))))) <;> (first | (exfalso; omega) | skip))
    | (show Rch _ _ _ _ _ 550 _ _ _; refine Rch.blk' (Rn_mono mt _ _) bl_L_law_550 (i_aload_n rfl (i_iload rfl (i_iconst k_2 (t_cv3 (Rn_mono mt _ _) 557 rfl (Nat.le_of_ble_eq_true rfl) ?_)))))
    | (show Rch _ _ _ _ _ 557 _ _ _; refine Rch.blk' (Rn_mono mt _ _) bl_L_law_557 (i_iload rfl (t_ic_ne 666 562 rfl rfl (by first | with_reducible exact hI_R | with_reducible exact lcm_R | with_reducible exact band_R | with_reducible exact bor_R | with_reducible exact bshr_R | with_reducible exact bshl_R | omega) (by first | with_reducible exact hI_R | with_reducible exact lcm_R | with_reducible exact band_R | with_reducible exact bor_R | with_reducible exact bshr_R | with_reducible exact bshl_R | omega) (fun hc => ?_) (fun hc => ?_))) <;> (first | (exfalso; omega) | skip))
    | (show Rch _ _ _ _ _ 562 _ _ _; refine Rch.blk' (Rn_mono mt _ _) bl_L_law_562 (i_aload_n rfl (i_iload rfl (i_iconst k_3 (t_cv3 (Rn_mono mt _ _) 569 rfl (Nat.le_of_ble_eq_true rfl) ?_)))))
    | (show Rch _ _ _ _ _ 569 _ _ _; refine Rch.blk' (Rn_mono mt _ _) bl_L_law_569 (i_iload rfl (t_ic_ne 666 574 rfl rfl (by first | with_reducible exact hI_R | with_reducible exact lcm_R | with_reducible exact band_R | with_reducible exact bor_R | with_reducible exact bshr_R | with_reducible exact bshl_R | omega) (by first | with_reducible exact hI_R | with_reducible exact lcm_R | with_reducible exact band_R | with_reducible exact bor_R | with_reducible exact bshr_R | with_reducible exact bshl_R | omega) (fun hc => ?_) (fun hc => ?_))) <;> (first | (exfalso; omega) | skip))
    | (show Rch _ _ _ _ _ 574 _ _ _; refine Rch.blk' (Rn_mono mt _ _) bl_L_law_574 (i_aload_n rfl (i_iconst k_3 (t_cv2 (Rn_mono mt _ _) 579 rfl (Nat.le_of_ble_eq_true rfl) ?_))))
    | (show Rch _ _ _ _ _ 579 _ _ _; refine Rch.blk' (Rn_mono mt _ _) bl_L_law_579 (i_iload rfl (t_ic_ne 666 584 rfl rfl (by first | with_reducible exact hI_R | with_reducible exact lcm_R | with_reducible exact band_R | with_reducible exact bor_R | with_reducible exact bshr_R | with_reducible exact bshl_R | omega) (by first | with_reducible exact hI_R | with_reducible exact lcm_R | with_reducible exact band_R | with_reducible exact bor_R | with_reducible exact bshr_R | with_reducible exact bshl_R | omega) (fun hc => ?_) (fun hc => ?_))) <;> (first | (exfalso; omega) | skip))
    | (show Rch _ _ _ _ _ 584 _ _ _; refine Rch.blk' (Rn_mono mt _ _) bl_L_law_584 (i_iload rfl (t_if_lt 613 589 rfl rfl (by first | with_reducible exact hI_R | with_reducible exact lcm_R | with_reducible exact band_R | with_reducible exact bor_R | with_reducible exact bshr_R | with_reducible exact bshl_R | omega) (fun hc => ?_) (fun hc => ?_))) <;> (first | (exfalso; omega) | skip))
    | (show Rch _ _ _ _ _ 589 _ _ _; refine Rch.blk' (Rn_mono mt _ _) bl_L_law_589 (i_aload_n rfl (i_iload rfl (i_iconst k_2 (t_cv3 (Rn_mono mt _ _) 596 rfl (Nat.le_of_ble_eq_true rfl) ?_)))))
    | (show Rch _ _ _ _ _ 596 _ _ _; refine Rch.blk' (Rn_mono mt _ _) bl_L_law_596 (i_iload rfl (t_ic_eq 666 601 rfl rfl (by first | with_reducible exact hI_R | with_reducible exact lcm_R | with_reducible exact band_R | with_reducible exact bor_R | with_reducible exact bshr_R | with_reducible exact bshl_R | omega) (by first | with_reducible exact hI_R | with_reducible exact lcm_R | with_reducible exact band_R | with_reducible exact bor_R | with_reducible exact bshr_R | with_reducible exact bshl_R | omega) (fun hc => ?_) (fun hc => ?_))) <;> (first | (exfalso; omega) | skip))
    | (show Rch _ _ _ _ _ 601 _ _ _; refine Rch.blk' (Rn_mono mt _ _) bl_L_law_601 (i_aload_n rfl (i_iload rfl (i_iconst k_3 (t_cv3 (Rn_mono mt _ _) 608 rfl (Nat.le_of_ble_eq_true rfl) ?_)))))
    | (show Rch _ _ _ _ _ 608 _ _ _; refine Rch.blk' (Rn_mono mt _ _) bl_L_law_608 (i_bipush k_m4 (t_ic_ne 666 613 rfl rfl (by first | with_reducible exact hI_R | with_reducible exact lcm_R | with_reducible exact band_R | with_reducible exact bor_R | with_reducible exact bshr_R | with_reducible exact bshl_R | omega) (by first | with_reducible exact hI_R | with_reducible exact lcm_R | with_reducible exact band_R | with_reducible exact bor_R | with_reducible exact bshr_R | with_reducible exact bshl_R | omega) (fun hc => ?_) (fun hc => ?_))) <;> (first | (exfalso; omega) | skip))
    | (show Rch _ _ _ _ _ 613 _ _ _; refine Rch.blk' (Rn_mono mt _ _) bl_L_law_613 (i_aload_n rfl (i_iconst k_4 (t_cv2 (Rn_mono mt _ _) 618 rfl (Nat.le_of_ble_eq_true rfl) ?_))))
    | (show Rch _ _ _ _ _ 618 _ _ _; refine Rch.blk' (Rn_mono mt _ _) bl_L_law_618 (i_iload rfl (t_if_ge 628 623 rfl rfl (by first | with_reducible exact hI_R | with_reducible exact lcm_R | with_reducible exact band_R | with_reducible exact bor_R | with_reducible exact bshr_R | with_reducible exact bshl_R | omega) (fun hc => ?_) (fun hc => ?_))) <;> (first | (exfalso; omega) | skip))
    | (show Rch _ _ _ _ _ 623 _ _ _; refine Rch.blk' (Rn_mono mt _ _) bl_L_law_623 (i_iload rfl (t_goto 637 rfl ?_)))
    | (show Rch _ _ _ _ _ 628 _ _ _; refine Rch.blk' (Rn_mono mt _ _) bl_L_law_628 (i_iload rfl (i_iconst k_1 (i_iload rfl (i_ishl (i_iconst k_m1 (i_ixor (i_iand (t_none ?_)))))))))
    | (show Rch _ _ _ _ _ 637 _ _ _; refine Rch.blk' (Rn_mono mt _ _) bl_L_law_637 (t_ic_ne 666 640 rfl rfl (by first | with_reducible exact hI_R | with_reducible exact lcm_R | with_reducible exact band_R | with_reducible exact bor_R | with_reducible exact bshr_R | with_reducible exact bshl_R | omega) (by first | with_reducible exact hI_R | with_reducible exact lcm_R | with_reducible exact band_R | with_reducible exact bor_R | with_reducible exact bshr_R | with_reducible exact bshl_R | omega) (fun hc => ?_) (fun hc => ?_)) <;> (first | (exfalso; omega) | skip))
    | (show Rch _ _ _ _ _ 640 _ _ _; refine Rch.blk' (Rn_mono mt _ _) bl_L_law_640 (i_iload rfl (i_iload rfl (t_ic_eq 668 647 rfl rfl (by first | with_reducible exact hI_R | with_reducible exact lcm_R | with_reducible exact band_R | with_reducible exact bor_R | with_reducible exact bshr_R | with_reducible exact bshl_R | omega) (by first | with_reducible exact hI_R | with_reducible exact lcm_R | with_reducible exact band_R | with_reducible exact bor_R | with_reducible exact bshr_R | with_reducible exact bshl_R | omega) (fun hc => ?_) (fun hc => ?_)))) <;> (first | (exfalso; omega) | skip))
    | (show Rch _ _ _ _ _ 647 _ _ _; refine Rch.blk' (Rn_mono mt _ _) bl_L_law_647 (i_iload rfl (i_iload rfl (t_ic_eq 668 654 rfl rfl (by first | with_reducible exact hI_R | with_reducible exact lcm_R | with_reducible exact band_R | with_reducible exact bor_R | with_reducible exact bshr_R | with_reducible exact bshl_R | omega) (by first | with_reducible exact hI_R | with_reducible exact lcm_R | with_reducible exact band_R | with_reducible exact bor_R | with_reducible exact bshr_R | with_reducible exact bshl_R | omega) (fun hc => ?_) (fun hc => ?_)))) <;> (first | (exfalso; omega) | skip))
    | (show Rch _ _ _ _ _ 654 _ _ _; refine Rch.blk' (Rn_mono mt _ _) bl_L_law_654 (i_aload_n rfl (i_iload rfl (i_iconst k_3 (t_cv3 (Rn_mono mt _ _) 661 rfl (Nat.le_of_ble_eq_true rfl) ?_)))))
    | (show Rch _ _ _ _ _ 661 _ _ _; refine Rch.blk' (Rn_mono mt _ _) bl_L_law_661 (i_iload rfl (t_ic_eq 668 666 rfl rfl (by first | with_reducible exact hI_R | with_reducible exact lcm_R | with_reducible exact band_R | with_reducible exact bor_R | with_reducible exact bshr_R | with_reducible exact bshl_R | omega) (by first | with_reducible exact hI_R | with_reducible exact lcm_R | with_reducible exact band_R | with_reducible exact bor_R | with_reducible exact bshr_R | with_reducible exact bshl_R | omega) (fun hc => ?_) (fun hc => ?_))) <;> (first | (exfalso; omega) | skip))
    | (show Rch _ _ _ _ _ 666 _ _ _; refine Rch.blk' (Rn_mono mt _ _) bl_L_law_666 (i_iconst k_0 (t_zret (by omega) ?_)))
    | (show Rch _ _ _ _ _ 668 _ _ _; refine Rch.blk' (Rn_mono mt _ _) bl_L_law_668 (i_iload rfl (i_sipush k_999 (t_ic_ge 1339 676 rfl rfl (by first | with_reducible exact hI_R | with_reducible exact lcm_R | with_reducible exact band_R | with_reducible exact bor_R | with_reducible exact bshr_R | with_reducible exact bshl_R | omega) (by first | with_reducible exact hI_R | with_reducible exact lcm_R | with_reducible exact band_R | with_reducible exact bor_R | with_reducible exact bshr_R | with_reducible exact bshl_R | omega) (fun hc => ?_) (fun hc => ?_)))) <;> (first | (exfalso; omega) | skip)))
/-- behind a day that was: what is answered, the day, the turn -/
theorem lw_c0_end (hk : CK d L Rt i) {D : Bd} (hW : CW h D T Gi S) (hO : OKB D) (hy : dy G < 999) (g_d : 0 ≤ dy G) (g_t : tn G = 0 ∨ tn G = 1) (hd : dy D = dy G + 1) (ht : tn D = 1 - tn G) (hT : T = 0 ∨ T = 1) (hTi : T = 1 → OKB Gi ∧ dy Gi ≤ 999) (hK : OKS S) (hE : OKE S) {w13 w14 w15 w20 w21 : Int} : LR d L Rt 668 [some (ar 22 0), some (ar 2 0), some (ar 12 0), some (ai (I i)), some (ai (I q)), some (al (SGT G)), none, some (ai (I (nn G))), some (ai (I (BT (TS G)))), some (ai (I (BT (TS G)))), some (ai (I sds)), some (ai (I p)), some (ai (I s)), some (ai (I w13)), some (ai (I w14)), some (ai (I w15)), some (ai (I (tn G))), some (ai (I (th G))), some (ai (I (dy G))), some (ai (I (CT G (tn G)))), some (ai (I w20)), some (ai (I w21)), some (ai (I (NT D)))] h := by
  have eN : cnt (TS D) 10 = NT D := TS_cnt hO
  have gN := NT_R hO
  repeat' (first
    | (show Rn _ _ _ 77 _ _ _; refine c_L_cell rfl (by omega) (by omega) (by omega) (fun _ _ => ?_))
    | (show Rn _ _ _ 87 _ _ _; refine c_L_bits (fun _ _ => ?_))
    | (show Rch _ _ _ _ _ 668 _ _ _; refine Rch.blk' (Rn_mono mt _ _) bl_L_law_668 (i_iload rfl (i_sipush k_999 (t_ic_ge 1339 676 rfl rfl (by first | with_reducible exact hI_R | with_reducible exact lcm_R | with_reducible exact band_R | with_reducible exact bor_R | with_reducible exact bshr_R | with_reducible exact bshl_R | omega) (by first | with_reducible exact hI_R | with_reducible exact lcm_R | with_reducible exact band_R | with_reducible exact bor_R | with_reducible exact bshr_R | with_reducible exact bshl_R | omega) (fun hc => ?_) (fun hc => ?_)))) <;> (first | (exfalso; omega) | skip))
    | (show Rch _ _ _ _ _ 676 _ _ _; refine Rch.blk' (Rn_mono mt _ _) bl_L_law_676 (i_iload rfl (i_aload_n rfl (i_iconst k_4 (t_cv2 (Rn_mono mt _ _) 683 rfl (Nat.le_of_ble_eq_true rfl) ?_))))))
  refine k_count hW hO (by omega) (v := BT (TS D)) rfl (fun h hW => ?_)
  refine Rch.blk' (Rn_mono mt _ _) bl_L_law_683 (t_cs1 (Rn_mono mt _ _) 686 rfl (Nat.le_of_ble_eq_true rfl) ?_)
  refine c_L_bits (fun _ _ => ?_)
  rw [eN]
  repeat' (first
    | (show Rn _ _ _ 77 _ _ _; refine c_L_cell rfl (by omega) (by omega) (by omega) (fun _ _ => ?_))
    | (show Rn _ _ _ 87 _ _ _; refine c_L_bits (fun _ _ => ?_))
    | (show Rch _ _ _ _ _ 686 _ _ _; refine Rch.blk' (Rn_mono mt _ _) bl_L_law_686 (t_ic_ne 713 689 rfl rfl (by first | with_reducible exact hI_R | with_reducible exact lcm_R | with_reducible exact band_R | with_reducible exact bor_R | with_reducible exact bshr_R | with_reducible exact bshl_R | omega) (by first | with_reducible exact hI_R | with_reducible exact lcm_R | with_reducible exact band_R | with_reducible exact bor_R | with_reducible exact bshr_R | with_reducible exact bshl_R | omega) (fun hc => ?_) (fun hc => ?_)) <;> (first | (exfalso; omega) | skip))
    | (show Rch _ _ _ _ _ 689 _ _ _; refine Rch.blk' (Rn_mono mt _ _) bl_L_law_689 (i_aload_n rfl (i_iconst k_1 (t_cv2 (Rn_mono mt _ _) 694 rfl (Nat.le_of_ble_eq_true rfl) ?_)))))
  refine k_count hW hO (by omega) (v := dy G + 1) hd (fun h hW => ?_)
  repeat' (first
    | (show Rn _ _ _ 77 _ _ _; refine c_L_cell rfl (by omega) (by omega) (by omega) (fun _ _ => ?_))
    | (show Rn _ _ _ 87 _ _ _; refine c_L_bits (fun _ _ => ?_))
    | (show Rch _ _ _ _ _ 694 _ _ _; refine Rch.blk' (Rn_mono mt _ _) bl_L_law_694 (i_iload rfl (i_iconst k_1 (i_iadd (t_ic_ne 713 701 rfl rfl (by first | with_reducible exact hI_R | with_reducible exact lcm_R | with_reducible exact band_R | with_reducible exact bor_R | with_reducible exact bshr_R | with_reducible exact bshl_R | omega) (by first | with_reducible exact hI_R | with_reducible exact lcm_R | with_reducible exact band_R | with_reducible exact bor_R | with_reducible exact bshr_R | with_reducible exact bshl_R | omega) (fun hc => ?_) (fun hc => ?_))))) <;> (first | (exfalso; omega) | skip))
    | (show Rch _ _ _ _ _ 701 _ _ _; refine Rch.blk' (Rn_mono mt _ _) bl_L_law_701 (i_aload_n rfl (i_iconst k_2 (t_cv2 (Rn_mono mt _ _) 706 rfl (Nat.le_of_ble_eq_true rfl) ?_)))))
  refine k_count hW hO (by omega) (v := 1 - tn G) ht (fun h hW => ?_)
  have hk := hk h (some (ai (I q))) (some (al (SGT G))) none (some (ai (I (nn G)))) (some (ai (I (BT (TS G))))) (some (ai (I (BT (TS G))))) (some (ai (I sds))) (some (ai (I p))) (some (ai (I s))) (some (ai (I w13))) (some (ai (I w14))) (some (ai (I w15))) (some (ai (I (tn G)))) (some (ai (I (th G)))) (some (ai (I (dy G)))) (some (ai (I (CT G (tn G))))) (some (ai (I w20))) (some (ai (I w21))) (some (ai (I (NT D)))) ⟨D, T, Gi, S, hW, ⟨hO, by omega⟩, hT, hTi, hK, hE⟩
  repeat' (first
    | exact hk
    | (show Rn _ _ _ 77 _ _ _; refine c_L_cell rfl (by omega) (by omega) (by omega) (fun _ _ => ?_))
    | (show Rn _ _ _ 87 _ _ _; refine c_L_bits (fun _ _ => ?_))
    | (show Rch _ _ _ _ _ 706 _ _ _; refine Rch.blk' (Rn_mono mt _ _) bl_L_law_706 (i_iconst k_1 (i_iload rfl (i_isub (t_ic_eq 1339 713 rfl rfl (by first | with_reducible exact hI_R | with_reducible exact lcm_R | with_reducible exact band_R | with_reducible exact bor_R | with_reducible exact bshr_R | with_reducible exact bshl_R | omega) (by first | with_reducible exact hI_R | with_reducible exact lcm_R | with_reducible exact band_R | with_reducible exact bor_R | with_reducible exact bshr_R | with_reducible exact bshl_R | omega) (fun hc => ?_) (fun hc => ?_))))) <;> (first | (exfalso; omega) | skip))
    | (show Rch _ _ _ _ _ 713 _ _ _; refine Rch.blk' (Rn_mono mt _ _) bl_L_law_713 (i_iconst k_0 (t_zret (by omega) ?_))))
theorem lw_c0_n (hk : CK d L Rt i) (hW : CW h G T Gi S) (hO : OKB G) (hy : dy G ≤ 999) (hT : T = 0 ∨ T = 1) (hTi : T = 1 → OKB Gi ∧ dy Gi ≤ 999) (hK : OKS S) (hE : OKE S) (hp : (nn G = 0 ∧ p = 0) ∨ (0 ≤ p ∧ p < nn G)) (hg : goer G no0 0 (dy G + 1) = -4) {w21 : Int} (h21 : 0 < nn G → w21 = m4 (sq G p)) : Rch bL_law (Rn mt L (d + 8)) L (fun _ _ _ _ => False) Rt 433 [some (ar 22 0), some (ar 2 0), some (ar 12 0), some (ai (I i)), some (ai (I q)), some (al (SGT G)), none, some (ai (I (nn G))), some (ai (I (BT (TS G)))), some (ai (I (BT (TS G)))), some (ai (I sds)), some (ai (I p)), some (ai (I s)), some (ai (I (-4))), some (ai (I (-4))), some (ai (I 0)), some (ai (I (tn G))), some (ai (I (th G))), some (ai (I (dy G))), some (ai (I (CT G (tn G)))), some (ai (I (-4))), u21, u22] [ai (I w21)] h := by
  have g_n := hO.n
  have g_d := hO.2.2.2.1
  have g_t := hO.2.1
  have g_h := hO.2.2.1
  by_cases h9 : dy G = 999
  · exact lw_c0_999 hk hW hO h9 hT hTi hK hE
  · obtain ⟨ds, dt, du⟩ := day_no hg
    obtain ⟨fn, fd, -, -, fs⟩ := @DAY_f G no0 0
    have hO2 : OKB (DAY G no0 0) := OKB_DAY hO
    have hy2 : dy (DAY G no0 0) ≤ 999 := by omega
    have eTS : BT (TS (DAY G no0 0)) = BT (TS G) := BT_ext (fun j _ _ => by unfold TS; rw [fn, ds])
    have g_h2 := hO2.2.2.1
    have g_b := @BT_R (TS G)
    refine Rch.blk' (Rn_mono mt _ _) bl_L_law_433 (i_istore21 trivial (i_aload_n rfl (i_iconst k_1 (t_cv2 (Rn_mono mt _ _) 440 rfl (Nat.le_of_ble_eq_true rfl) ?_))))
    refine k_days hW hO hy (by omega) ((@days_1 G).1 (by omega)) (fun h hW => ?_)
    have kE := fun (h : Mem) (hW : CW h (DAY G no0 0) T Gi S) => lw_c0_end (d := d) (L := L) (Rt := Rt) (i := i) (q := q) (sds := sds) (p := p) (s := s) (w13 := -4) (w14 := -4) (w15 := 0) (w20 := -4) (w21 := w21) hk hW hO2 (by omega) g_d g_t fd du hT hTi hK hE
    generalize DAY G no0 0 = D at ds dt du fn fd fs hO2 hy2 eTS g_h2 hW kE ⊢
    repeat' (first
      | (show Rn _ _ _ 77 _ _ _; refine c_L_cell rfl (by omega) (by omega) (by omega) (fun _ _ => ?_))
      | (show Rn _ _ _ 87 _ _ _; refine c_L_bits (fun _ _ => ?_))
      | (show Rch _ _ _ _ _ 440 _ _ _; refine Rch.blk' (Rn_mono mt _ _) bl_L_law_440 (i_istore22 trivial (i_iload rfl (i_sipush k_999 (t_ic_ne 469 450 rfl rfl (by first | with_reducible exact hI_R | with_reducible exact lcm_R | with_reducible exact band_R | with_reducible exact bor_R | with_reducible exact bshr_R | with_reducible exact bshl_R | omega) (by first | with_reducible exact hI_R | with_reducible exact lcm_R | with_reducible exact band_R | with_reducible exact bor_R | with_reducible exact bshr_R | with_reducible exact bshl_R | omega) (fun hc => ?_) (fun hc => ?_))))) <;> (first | (exfalso; omega) | skip))
      | (show Rch _ _ _ _ _ 450 _ _ _; refine Rch.blk' (Rn_mono mt _ _) bl_L_law_450 (i_iload rfl (i_bipush k_m3 (t_ic_ne 467 457 rfl rfl (by first | with_reducible exact hI_R | with_reducible exact lcm_R | with_reducible exact band_R | with_reducible exact bor_R | with_reducible exact bshr_R | with_reducible exact bshl_R | omega) (by first | with_reducible exact hI_R | with_reducible exact lcm_R | with_reducible exact band_R | with_reducible exact bor_R | with_reducible exact bshr_R | with_reducible exact bshl_R | omega) (fun hc => ?_) (fun hc => ?_)))) <;> (first | (exfalso; omega) | skip))
      | (show Rch _ _ _ _ _ 457 _ _ _; refine Rch.blk' (Rn_mono mt _ _) bl_L_law_457 (i_aload_n rfl (t_cs1 (Rn_mono mt _ _) 461 rfl (Nat.le_of_ble_eq_true rfl) ?_)))
      | (show Rch _ _ _ _ _ 461 _ _ _; refine Rch.blk' (Rn_mono mt _ _) bl_L_law_461 (i_lload rfl (i_lcmp (t_if_eq 668 467 rfl rfl (by first | with_reducible exact hI_R | with_reducible exact lcm_R | with_reducible exact band_R | with_reducible exact bor_R | with_reducible exact bshr_R | with_reducible exact bshl_R | omega) (fun hc => ?_) (fun hc => ?_)))) <;> (first | (exfalso; omega) | skip))
      | (show Rch _ _ _ _ _ 467 _ _ _; refine Rch.blk' (Rn_mono mt _ _) bl_L_law_467 (i_iconst k_0 (t_zret (by omega) ?_)))
      | (show Rch _ _ _ _ _ 469 _ _ _; refine Rch.blk' (Rn_mono mt _ _) bl_L_law_469 (i_iload rfl (t_if_ge 541 474 rfl rfl (by first | with_reducible exact hI_R | with_reducible exact lcm_R | with_reducible exact band_R | with_reducible exact bor_R | with_reducible exact bshr_R | with_reducible exact bshl_R | omega) (fun hc => ?_) (fun hc => ?_))) <;> (first | (exfalso; omega) | skip))
      | (show Rch _ _ _ _ _ 474 _ _ _; refine Rch.blk' (Rn_mono mt _ _) bl_L_law_474 (i_iload rfl (i_bipush k_m4 (t_ic_ne 539 481 rfl rfl (by first | with_reducible exact hI_R | with_reducible exact lcm_R | with_reducible exact band_R | with_reducible exact bor_R | with_reducible exact bshr_R | with_reducible exact bshl_R | omega) (by first | with_reducible exact hI_R | with_reducible exact lcm_R | with_reducible exact band_R | with_reducible exact bor_R | with_reducible exact bshr_R | with_reducible exact bshl_R | omega) (fun hc => ?_) (fun hc => ?_)))) <;> (first | (exfalso; omega) | skip))
      | (show Rch _ _ _ _ _ 481 _ _ _; refine Rch.blk' (Rn_mono mt _ _) bl_L_law_481 (i_iload rfl (t_if_ne 539 486 rfl rfl (by first | with_reducible exact hI_R | with_reducible exact lcm_R | with_reducible exact band_R | with_reducible exact bor_R | with_reducible exact bshr_R | with_reducible exact bshl_R | omega) (fun hc => ?_) (fun hc => ?_))) <;> (first | (exfalso; omega) | skip))
      | (show Rch _ _ _ _ _ 486 _ _ _; refine Rch.blk' (Rn_mono mt _ _) bl_L_law_486 (i_aload_n rfl (i_iconst k_4 (t_cv2 (Rn_mono mt _ _) 491 rfl (Nat.le_of_ble_eq_true rfl) ?_)))))
    refine k_count hW hO2 (by omega) (v := BT (TS G)) eTS (fun h hW => ?_)
    repeat' (first
      | (show Rn _ _ _ 77 _ _ _; refine c_L_cell rfl (by omega) (by omega) (by omega) (fun _ _ => ?_))
      | (show Rn _ _ _ 87 _ _ _; refine c_L_bits (fun _ _ => ?_))
      | (show Rch _ _ _ _ _ 491 _ _ _; refine Rch.blk' (Rn_mono mt _ _) bl_L_law_491 (i_iload rfl (t_ic_ne 539 496 rfl rfl (by first | with_reducible exact hI_R | with_reducible exact lcm_R | with_reducible exact band_R | with_reducible exact bor_R | with_reducible exact bshr_R | with_reducible exact bshl_R | omega) (by first | with_reducible exact hI_R | with_reducible exact lcm_R | with_reducible exact band_R | with_reducible exact bor_R | with_reducible exact bshr_R | with_reducible exact bshl_R | omega) (fun hc => ?_) (fun hc => ?_))) <;> (first | (exfalso; omega) | skip))
      | (show Rch _ _ _ _ _ 496 _ _ _; refine Rch.blk' (Rn_mono mt _ _) bl_L_law_496 (i_aload_n rfl (i_iconst k_3 (t_cv2 (Rn_mono mt _ _) 501 rfl (Nat.le_of_ble_eq_true rfl) ?_)))))
    refine k_count hW hO2 (by omega) (v := th D) rfl (fun h hW => ?_)
    rcases hp with ⟨hn, rfl⟩ | ⟨p0, p1⟩
    · have kE := kE h hW
      repeat' (first
        | exact kE
        | (show Rn _ _ _ 77 _ _ _; refine c_L_cell rfl (by omega) (by omega) (by omega) (fun _ _ => ?_))
        | (show Rn _ _ _ 87 _ _ _; refine c_L_bits (fun _ _ => ?_))
        | (show Rch _ _ _ _ _ 501 _ _ _; refine Rch.blk' (Rn_mono mt _ _) bl_L_law_501 (i_iload rfl (i_sipush k_9999 (t_ic_ge 516 509 rfl rfl (by first | with_reducible exact hI_R | with_reducible exact lcm_R | with_reducible exact band_R | with_reducible exact bor_R | with_reducible exact bshr_R | with_reducible exact bshl_R | omega) (by first | with_reducible exact hI_R | with_reducible exact lcm_R | with_reducible exact band_R | with_reducible exact bor_R | with_reducible exact bshr_R | with_reducible exact bshl_R | omega) (fun hc => ?_) (fun hc => ?_)))) <;> (first | (exfalso; omega) | skip))
        | (show Rch _ _ _ _ _ 509 _ _ _; refine Rch.blk' (Rn_mono mt _ _) bl_L_law_509 (i_iload rfl (i_iconst k_1 (i_iadd (t_goto 519 rfl ?_)))))
        | (show Rch _ _ _ _ _ 516 _ _ _; refine Rch.blk' (Rn_mono mt _ _) bl_L_law_516 (i_sipush k_9999 (t_none ?_)))
        | (show Rch _ _ _ _ _ 519 _ _ _; refine Rch.blk' (Rn_mono mt _ _) bl_L_law_519 (t_ic_ne 539 522 rfl rfl (by first | with_reducible exact hI_R | with_reducible exact lcm_R | with_reducible exact band_R | with_reducible exact bor_R | with_reducible exact bshr_R | with_reducible exact bshl_R | omega) (by first | with_reducible exact hI_R | with_reducible exact lcm_R | with_reducible exact band_R | with_reducible exact bor_R | with_reducible exact bshr_R | with_reducible exact bshl_R | omega) (fun hc => ?_) (fun hc => ?_)) <;> (first | (exfalso; omega) | skip))
        | (show Rch _ _ _ _ _ 522 _ _ _; refine Rch.blk' (Rn_mono mt _ _) bl_L_law_522 (i_iload rfl (t_if_le 668 527 rfl rfl (by first | with_reducible exact hI_R | with_reducible exact lcm_R | with_reducible exact band_R | with_reducible exact bor_R | with_reducible exact bshr_R | with_reducible exact bshl_R | omega) (fun hc => ?_) (fun hc => ?_))) <;> (first | (exfalso; omega) | skip)))
    · have h21 := h21 (by omega)
      subst h21
      have pv := (pc_v (G := D) p0 (by omega)).2.1
      rw [ds p] at pv
      have g_4 := @m4_R (sq G p)
      have g_p := hO.pc p p0 p1
      by_cases ht : th G < 9999
      · rw [if_pos ht] at dt
        repeat' (first
          | (show Rn _ _ _ 77 _ _ _; refine c_L_cell rfl (by omega) (by omega) (by omega) (fun _ _ => ?_))
          | (show Rn _ _ _ 87 _ _ _; refine c_L_bits (fun _ _ => ?_))
          | (show Rch _ _ _ _ _ 501 _ _ _; refine Rch.blk' (Rn_mono mt _ _) bl_L_law_501 (i_iload rfl (i_sipush k_9999 (t_ic_ge 516 509 rfl rfl (by first | with_reducible exact hI_R | with_reducible exact lcm_R | with_reducible exact band_R | with_reducible exact bor_R | with_reducible exact bshr_R | with_reducible exact bshl_R | omega) (by first | with_reducible exact hI_R | with_reducible exact lcm_R | with_reducible exact band_R | with_reducible exact bor_R | with_reducible exact bshr_R | with_reducible exact bshl_R | omega) (fun hc => ?_) (fun hc => ?_)))) <;> (first | (exfalso; omega) | skip))
          | (show Rch _ _ _ _ _ 509 _ _ _; refine Rch.blk' (Rn_mono mt _ _) bl_L_law_509 (i_iload rfl (i_iconst k_1 (i_iadd (t_goto 519 rfl ?_)))))
          | (show Rch _ _ _ _ _ 516 _ _ _; refine Rch.blk' (Rn_mono mt _ _) bl_L_law_516 (i_sipush k_9999 (t_none ?_)))
          | (show Rch _ _ _ _ _ 519 _ _ _; refine Rch.blk' (Rn_mono mt _ _) bl_L_law_519 (t_ic_ne 539 522 rfl rfl (by first | with_reducible exact hI_R | with_reducible exact lcm_R | with_reducible exact band_R | with_reducible exact bor_R | with_reducible exact bshr_R | with_reducible exact bshl_R | omega) (by first | with_reducible exact hI_R | with_reducible exact lcm_R | with_reducible exact band_R | with_reducible exact bor_R | with_reducible exact bshr_R | with_reducible exact bshl_R | omega) (fun hc => ?_) (fun hc => ?_)) <;> (first | (exfalso; omega) | skip))
          | (show Rch _ _ _ _ _ 522 _ _ _; refine Rch.blk' (Rn_mono mt _ _) bl_L_law_522 (i_iload rfl (t_if_le 668 527 rfl rfl (by first | with_reducible exact hI_R | with_reducible exact lcm_R | with_reducible exact band_R | with_reducible exact bor_R | with_reducible exact bshr_R | with_reducible exact bshl_R | omega) (fun hc => ?_) (fun hc => ?_))) <;> (first | (exfalso; omega) | skip))
          | (show Rch _ _ _ _ _ 527 _ _ _; refine Rch.blk' (Rn_mono mt _ _) bl_L_law_527 (i_aload_n rfl (i_iload rfl (i_iconst k_3 (t_cv3 (Rn_mono mt _ _) 534 rfl (Nat.le_of_ble_eq_true rfl) ?_))))))
        refine k_piece hW hO2 hy2 (by omega) (by omega) pv (fun h hW => ?_)
        have kE := kE h hW
        repeat' (first
          | exact kE
          | (show Rn _ _ _ 77 _ _ _; refine c_L_cell rfl (by omega) (by omega) (by omega) (fun _ _ => ?_))
          | (show Rn _ _ _ 87 _ _ _; refine c_L_bits (fun _ _ => ?_))
          | (show Rch _ _ _ _ _ 534 _ _ _; refine Rch.blk' (Rn_mono mt _ _) bl_L_law_534 (i_iload rfl (t_ic_eq 668 539 rfl rfl (by first | with_reducible exact hI_R | with_reducible exact lcm_R | with_reducible exact band_R | with_reducible exact bor_R | with_reducible exact bshr_R | with_reducible exact bshl_R | omega) (by first | with_reducible exact hI_R | with_reducible exact lcm_R | with_reducible exact band_R | with_reducible exact bor_R | with_reducible exact bshr_R | with_reducible exact bshl_R | omega) (fun hc => ?_) (fun hc => ?_))) <;> (first | (exfalso; omega) | skip)))
      · rw [if_neg ht] at dt
        repeat' (first
          | (show Rn _ _ _ 77 _ _ _; refine c_L_cell rfl (by omega) (by omega) (by omega) (fun _ _ => ?_))
          | (show Rn _ _ _ 87 _ _ _; refine c_L_bits (fun _ _ => ?_))
          | (show Rch _ _ _ _ _ 501 _ _ _; refine Rch.blk' (Rn_mono mt _ _) bl_L_law_501 (i_iload rfl (i_sipush k_9999 (t_ic_ge 516 509 rfl rfl (by first | with_reducible exact hI_R | with_reducible exact lcm_R | with_reducible exact band_R | with_reducible exact bor_R | with_reducible exact bshr_R | with_reducible exact bshl_R | omega) (by first | with_reducible exact hI_R | with_reducible exact lcm_R | with_reducible exact band_R | with_reducible exact bor_R | with_reducible exact bshr_R | with_reducible exact bshl_R | omega) (fun hc => ?_) (fun hc => ?_)))) <;> (first | (exfalso; omega) | skip))
          | (show Rch _ _ _ _ _ 509 _ _ _; refine Rch.blk' (Rn_mono mt _ _) bl_L_law_509 (i_iload rfl (i_iconst k_1 (i_iadd (t_goto 519 rfl ?_)))))
          | (show Rch _ _ _ _ _ 516 _ _ _; refine Rch.blk' (Rn_mono mt _ _) bl_L_law_516 (i_sipush k_9999 (t_none ?_)))
          | (show Rch _ _ _ _ _ 519 _ _ _; refine Rch.blk' (Rn_mono mt _ _) bl_L_law_519 (t_ic_ne 539 522 rfl rfl (by first | with_reducible exact hI_R | with_reducible exact lcm_R | with_reducible exact band_R | with_reducible exact bor_R | with_reducible exact bshr_R | with_reducible exact bshl_R | omega) (by first | with_reducible exact hI_R | with_reducible exact lcm_R | with_reducible exact band_R | with_reducible exact bor_R | with_reducible exact bshr_R | with_reducible exact bshl_R | omega) (fun hc => ?_) (fun hc => ?_)) <;> (first | (exfalso; omega) | skip))
          | (show Rch _ _ _ _ _ 522 _ _ _; refine Rch.blk' (Rn_mono mt _ _) bl_L_law_522 (i_iload rfl (t_if_le 668 527 rfl rfl (by first | with_reducible exact hI_R | with_reducible exact lcm_R | with_reducible exact band_R | with_reducible exact bor_R | with_reducible exact bshr_R | with_reducible exact bshl_R | omega) (fun hc => ?_) (fun hc => ?_))) <;> (first | (exfalso; omega) | skip))
          | (show Rch _ _ _ _ _ 527 _ _ _; refine Rch.blk' (Rn_mono mt _ _) bl_L_law_527 (i_aload_n rfl (i_iload rfl (i_iconst k_3 (t_cv3 (Rn_mono mt _ _) 534 rfl (Nat.le_of_ble_eq_true rfl) ?_))))))
        refine k_piece hW hO2 hy2 (by omega) (by omega) pv (fun h hW => ?_)
        have kE := kE h hW
        repeat' (first
          | exact kE
          | (show Rn _ _ _ 77 _ _ _; refine c_L_cell rfl (by omega) (by omega) (by omega) (fun _ _ => ?_))
          | (show Rn _ _ _ 87 _ _ _; refine c_L_bits (fun _ _ => ?_))
          | (show Rch _ _ _ _ _ 534 _ _ _; refine Rch.blk' (Rn_mono mt _ _) bl_L_law_534 (i_iload rfl (t_ic_eq 668 539 rfl rfl (by first | with_reducible exact hI_R | with_reducible exact lcm_R | with_reducible exact band_R | with_reducible exact bor_R | with_reducible exact bshr_R | with_reducible exact bshl_R | omega) (by first | with_reducible exact hI_R | with_reducible exact lcm_R | with_reducible exact band_R | with_reducible exact bor_R | with_reducible exact bshr_R | with_reducible exact bshl_R | omega) (fun hc => ?_) (fun hc => ?_))) <;> (first | (exfalso; omega) | skip)))
theorem lw_c0_g (hk : CK d L Rt i) (hW : CW h G T Gi S) (hO : OKB G) (hy : dy G ≤ 999) (hT : T = 0 ∨ T = 1) (hTi : T = 1 → OKB Gi ∧ dy Gi ≤ 999) (hK : OKS S) (hE : OKE S) (p0 : 0 ≤ p) (p1 : p < nn G) {g t : Int} (hg : goer G no0 0 (dy G + 1) = g) (h4 : ¬ g = -4) (hs : ide G g (dy G + 1) = t) : Rch bL_law (Rn mt L (d + 8)) L (fun _ _ _ _ => False) Rt 433 [some (ar 22 0), some (ar 2 0), some (ar 12 0), some (ai (I i)), some (ai (I q)), some (al (SGT G)), none, some (ai (I (nn G))), some (ai (I (BT (TS G)))), some (ai (I (BT (TS G)))), some (ai (I sds)), some (ai (I p)), some (ai (I s)), some (ai (I g)), some (ai (I t)), some (ai (I (NH G 0 g))), some (ai (I (tn G))), some (ai (I (th G))), some (ai (I (dy G))), some (ai (I (CT G (tn G)))), some (ai (I (ons G t))), u21, u22] [ai (I (m4 (sq G p)))] h := by
  have g_n := hO.n
  have g_d := hO.2.2.2.1
  have g_t := hO.2.1
  have g_h := hO.2.2.1
  by_cases h9 : dy G = 999
  · exact lw_c0_999 hk hW hO h9 hT hTi hK hE
  · have hr := goer_R (G := G) (M := no0) (ra := 0) (y := dy G + 1) hO
    rw [hg] at hr
    have hr : 0 ≤ g ∧ g < nn G ∧ cand G no0 (dy G + 1) g := by
      rcases hr with e | e
      · exact absurd e h4
      · exact e
    obtain ⟨g0, g1, gc⟩ := hr
    have gsd := gc.1
    have gnot := gc.2.2.2
    rw [hs] at gnot
    have hsR := @ide_R G g (dy G + 1)
    rw [hs] at hsR
    have hTG := @ide_TG G hO g (dy G + 1) g0 g1
    rw [hs] at hTG
    have hTG : ons G t = -4 ∨ (0 ≤ ons G t ∧ sd G (ons G t) = 1 - sd G g) := by
      rcases hTG with e | e
      · exact absurd e gnot
      · exact e
    have gmaj : CT G (tn G) < 2 * NH G 0 g := by
      have e := hg
      unfold goer at e
      split at e
      · rename_i c; rw [e] at c; exact c.2
      · omega
    have gNH := @NH_R G 0 g hO g0 g1
    have gCT := CT_R hO (tn G)
    have g_o := ons_R G hO t
    obtain ⟨ds, dt, du⟩ := day_go hg h4 hs
    obtain ⟨tA, tB⟩ := TS_day hO hg h4 hs
    obtain ⟨fn, fd, -, -, fs⟩ := @DAY_f G no0 0
    have hO2 : OKB (DAY G no0 0) := OKB_DAY hO
    have hy2 : dy (DAY G no0 0) ≤ 999 := by omega
    have g_4 := @m4_R (sq G p)
    have g_p := hO.pc p p0 p1
    refine Rch.blk' (Rn_mono mt _ _) bl_L_law_433 (i_istore21 trivial (i_aload_n rfl (i_iconst k_1 (t_cv2 (Rn_mono mt _ _) 440 rfl (Nat.le_of_ble_eq_true rfl) ?_))))
    refine k_days hW hO hy (by omega) ((@days_1 G).1 (by omega)) (fun h hW => ?_)
    have kE := fun (h : Mem) (hW : CW h (DAY G no0 0) T Gi S) => lw_c0_end (d := d) (L := L) (Rt := Rt) (i := i) (q := q) (sds := sds) (p := p) (s := s) (w13 := g) (w14 := t) (w15 := NH G 0 g) (w20 := ons G t) (w21 := m4 (sq G p)) hk hW hO2 (by omega) g_d g_t fd du hT hTi hK hE
    generalize DAY G no0 0 = D at ds dt du fn fd fs hO2 hy2 hW kE tA tB ⊢
    have pg2 := (pc_v (G := D) g0 (by omega)).1
    rw [fs] at pg2
    have pg3 := (pc_v (G := D) g0 (by omega)).2.1
    rw [ds g g0, if_pos rfl, m4_p (show t < 36 by omega)] at pg3
    have pp3 := (pc_v (G := D) p0 (by omega)).2.1
    rw [ds p p0] at pp3
    have k637 : ∀ (x : Int) (h : Mem), x = BT (TS D) → CW h D T Gi S → Rch bL_law (Rn mt L (d + 8)) L (fun _ _ _ _ => False) Rt 637 [some (ar 22 0), some (ar 2 0), some (ar 12 0), some (ai (I i)), some (ai (I q)), some (al (SGT G)), none, some (ai (I (nn G))), some (ai (I (BT (TS G)))), some (ai (I (BT (TS G)))), some (ai (I sds)), some (ai (I p)), some (ai (I s)), some (ai (I g)), some (ai (I t)), some (ai (I (NH G 0 g))), some (ai (I (tn G))), some (ai (I (th G))), some (ai (I (dy G))), some (ai (I (CT G (tn G)))), some (ai (I (ons G t))), some (ai (I (m4 (sq G p)))), some (ai (I (NT D)))] [ai (I x), ai (I (BT (TS D)))] h := by
      intro x h ex hW
      subst ex
      have g_b := @BT_R (TS D)
      by_cases c1 : p = g
      · have kE := kE h hW
        repeat' (first
          | exact kE
          | (show Rn _ _ _ 77 _ _ _; refine c_L_cell rfl (by omega) (by omega) (by omega) (fun _ _ => ?_))
          | (show Rn _ _ _ 87 _ _ _; refine c_L_bits (fun _ _ => ?_))
          | (show Rch _ _ _ _ _ 637 _ _ _; refine Rch.blk' (Rn_mono mt _ _) bl_L_law_637 (t_ic_ne 666 640 rfl rfl (by first | with_reducible exact hI_R | with_reducible exact lcm_R | with_reducible exact band_R | with_reducible exact bor_R | with_reducible exact bshr_R | with_reducible exact bshl_R | omega) (by first | with_reducible exact hI_R | with_reducible exact lcm_R | with_reducible exact band_R | with_reducible exact bor_R | with_reducible exact bshr_R | with_reducible exact bshl_R | omega) (fun hc => ?_) (fun hc => ?_)) <;> (first | (exfalso; omega) | skip))
          | (show Rch _ _ _ _ _ 640 _ _ _; refine Rch.blk' (Rn_mono mt _ _) bl_L_law_640 (i_iload rfl (i_iload rfl (t_ic_eq 668 647 rfl rfl (by first | with_reducible exact hI_R | with_reducible exact lcm_R | with_reducible exact band_R | with_reducible exact bor_R | with_reducible exact bshr_R | with_reducible exact bshl_R | omega) (by first | with_reducible exact hI_R | with_reducible exact lcm_R | with_reducible exact band_R | with_reducible exact bor_R | with_reducible exact bshr_R | with_reducible exact bshl_R | omega) (fun hc => ?_) (fun hc => ?_)))) <;> (first | (exfalso; omega) | skip))
          | (show Rch _ _ _ _ _ 647 _ _ _; refine Rch.blk' (Rn_mono mt _ _) bl_L_law_647 (i_iload rfl (i_iload rfl (t_ic_eq 668 654 rfl rfl (by first | with_reducible exact hI_R | with_reducible exact lcm_R | with_reducible exact band_R | with_reducible exact bor_R | with_reducible exact bshr_R | with_reducible exact bshl_R | omega) (by first | with_reducible exact hI_R | with_reducible exact lcm_R | with_reducible exact band_R | with_reducible exact bor_R | with_reducible exact bshr_R | with_reducible exact bshl_R | omega) (fun hc => ?_) (fun hc => ?_)))) <;> (first | (exfalso; omega) | skip)))
      · by_cases c2 : p = ons G t
        · have kE := kE h hW
          repeat' (first
            | exact kE
            | (show Rn _ _ _ 77 _ _ _; refine c_L_cell rfl (by omega) (by omega) (by omega) (fun _ _ => ?_))
            | (show Rn _ _ _ 87 _ _ _; refine c_L_bits (fun _ _ => ?_))
            | (show Rch _ _ _ _ _ 637 _ _ _; refine Rch.blk' (Rn_mono mt _ _) bl_L_law_637 (t_ic_ne 666 640 rfl rfl (by first | with_reducible exact hI_R | with_reducible exact lcm_R | with_reducible exact band_R | with_reducible exact bor_R | with_reducible exact bshr_R | with_reducible exact bshl_R | omega) (by first | with_reducible exact hI_R | with_reducible exact lcm_R | with_reducible exact band_R | with_reducible exact bor_R | with_reducible exact bshr_R | with_reducible exact bshl_R | omega) (fun hc => ?_) (fun hc => ?_)) <;> (first | (exfalso; omega) | skip))
            | (show Rch _ _ _ _ _ 640 _ _ _; refine Rch.blk' (Rn_mono mt _ _) bl_L_law_640 (i_iload rfl (i_iload rfl (t_ic_eq 668 647 rfl rfl (by first | with_reducible exact hI_R | with_reducible exact lcm_R | with_reducible exact band_R | with_reducible exact bor_R | with_reducible exact bshr_R | with_reducible exact bshl_R | omega) (by first | with_reducible exact hI_R | with_reducible exact lcm_R | with_reducible exact band_R | with_reducible exact bor_R | with_reducible exact bshr_R | with_reducible exact bshl_R | omega) (fun hc => ?_) (fun hc => ?_)))) <;> (first | (exfalso; omega) | skip))
            | (show Rch _ _ _ _ _ 647 _ _ _; refine Rch.blk' (Rn_mono mt _ _) bl_L_law_647 (i_iload rfl (i_iload rfl (t_ic_eq 668 654 rfl rfl (by first | with_reducible exact hI_R | with_reducible exact lcm_R | with_reducible exact band_R | with_reducible exact bor_R | with_reducible exact bshr_R | with_reducible exact bshl_R | omega) (by first | with_reducible exact hI_R | with_reducible exact lcm_R | with_reducible exact band_R | with_reducible exact bor_R | with_reducible exact bshr_R | with_reducible exact bshl_R | omega) (fun hc => ?_) (fun hc => ?_)))) <;> (first | (exfalso; omega) | skip)))
        · rw [if_neg c1, if_neg c2] at pp3
          repeat' (first
            | (show Rn _ _ _ 77 _ _ _; refine c_L_cell rfl (by omega) (by omega) (by omega) (fun _ _ => ?_))
            | (show Rn _ _ _ 87 _ _ _; refine c_L_bits (fun _ _ => ?_))
            | (show Rch _ _ _ _ _ 637 _ _ _; refine Rch.blk' (Rn_mono mt _ _) bl_L_law_637 (t_ic_ne 666 640 rfl rfl (by first | with_reducible exact hI_R | with_reducible exact lcm_R | with_reducible exact band_R | with_reducible exact bor_R | with_reducible exact bshr_R | with_reducible exact bshl_R | omega) (by first | with_reducible exact hI_R | with_reducible exact lcm_R | with_reducible exact band_R | with_reducible exact bor_R | with_reducible exact bshr_R | with_reducible exact bshl_R | omega) (fun hc => ?_) (fun hc => ?_)) <;> (first | (exfalso; omega) | skip))
            | (show Rch _ _ _ _ _ 640 _ _ _; refine Rch.blk' (Rn_mono mt _ _) bl_L_law_640 (i_iload rfl (i_iload rfl (t_ic_eq 668 647 rfl rfl (by first | with_reducible exact hI_R | with_reducible exact lcm_R | with_reducible exact band_R | with_reducible exact bor_R | with_reducible exact bshr_R | with_reducible exact bshl_R | omega) (by first | with_reducible exact hI_R | with_reducible exact lcm_R | with_reducible exact band_R | with_reducible exact bor_R | with_reducible exact bshr_R | with_reducible exact bshl_R | omega) (fun hc => ?_) (fun hc => ?_)))) <;> (first | (exfalso; omega) | skip))
            | (show Rch _ _ _ _ _ 647 _ _ _; refine Rch.blk' (Rn_mono mt _ _) bl_L_law_647 (i_iload rfl (i_iload rfl (t_ic_eq 668 654 rfl rfl (by first | with_reducible exact hI_R | with_reducible exact lcm_R | with_reducible exact band_R | with_reducible exact bor_R | with_reducible exact bshr_R | with_reducible exact bshl_R | omega) (by first | with_reducible exact hI_R | with_reducible exact lcm_R | with_reducible exact band_R | with_reducible exact bor_R | with_reducible exact bshr_R | with_reducible exact bshl_R | omega) (fun hc => ?_) (fun hc => ?_)))) <;> (first | (exfalso; omega) | skip))
            | (show Rch _ _ _ _ _ 654 _ _ _; refine Rch.blk' (Rn_mono mt _ _) bl_L_law_654 (i_aload_n rfl (i_iload rfl (i_iconst k_3 (t_cv3 (Rn_mono mt _ _) 661 rfl (Nat.le_of_ble_eq_true rfl) ?_))))))
          refine k_piece hW hO2 hy2 (by omega) (by omega) pp3 (fun h hW => ?_)
          have kE := kE h hW
          repeat' (first
            | exact kE
            | (show Rn _ _ _ 77 _ _ _; refine c_L_cell rfl (by omega) (by omega) (by omega) (fun _ _ => ?_))
            | (show Rn _ _ _ 87 _ _ _; refine c_L_bits (fun _ _ => ?_))
            | (show Rch _ _ _ _ _ 661 _ _ _; refine Rch.blk' (Rn_mono mt _ _) bl_L_law_661 (i_iload rfl (t_ic_eq 668 666 rfl rfl (by first | with_reducible exact hI_R | with_reducible exact lcm_R | with_reducible exact band_R | with_reducible exact bor_R | with_reducible exact bshr_R | with_reducible exact bshl_R | omega) (by first | with_reducible exact hI_R | with_reducible exact lcm_R | with_reducible exact band_R | with_reducible exact bor_R | with_reducible exact bshr_R | with_reducible exact bshl_R | omega) (fun hc => ?_) (fun hc => ?_))) <;> (first | (exfalso; omega) | skip))
            | (show Rch _ _ _ _ _ 666 _ _ _; refine Rch.blk' (Rn_mono mt _ _) bl_L_law_666 (i_iconst k_0 (t_zret (by omega) ?_))))
    repeat' (first
      | (show Rn _ _ _ 77 _ _ _; refine c_L_cell rfl (by omega) (by omega) (by omega) (fun _ _ => ?_))
      | (show Rn _ _ _ 87 _ _ _; refine c_L_bits (fun _ _ => ?_))
      | (show Rch _ _ _ _ _ 440 _ _ _; refine Rch.blk' (Rn_mono mt _ _) bl_L_law_440 (i_istore22 trivial (i_iload rfl (i_sipush k_999 (t_ic_ne 469 450 rfl rfl (by first | with_reducible exact hI_R | with_reducible exact lcm_R | with_reducible exact band_R | with_reducible exact bor_R | with_reducible exact bshr_R | with_reducible exact bshl_R | omega) (by first | with_reducible exact hI_R | with_reducible exact lcm_R | with_reducible exact band_R | with_reducible exact bor_R | with_reducible exact bshr_R | with_reducible exact bshl_R | omega) (fun hc => ?_) (fun hc => ?_))))) <;> (first | (exfalso; omega) | skip))
      | (show Rch _ _ _ _ _ 450 _ _ _; refine Rch.blk' (Rn_mono mt _ _) bl_L_law_450 (i_iload rfl (i_bipush k_m3 (t_ic_ne 467 457 rfl rfl (by first | with_reducible exact hI_R | with_reducible exact lcm_R | with_reducible exact band_R | with_reducible exact bor_R | with_reducible exact bshr_R | with_reducible exact bshl_R | omega) (by first | with_reducible exact hI_R | with_reducible exact lcm_R | with_reducible exact band_R | with_reducible exact bor_R | with_reducible exact bshr_R | with_reducible exact bshl_R | omega) (fun hc => ?_) (fun hc => ?_)))) <;> (first | (exfalso; omega) | skip))
      | (show Rch _ _ _ _ _ 457 _ _ _; refine Rch.blk' (Rn_mono mt _ _) bl_L_law_457 (i_aload_n rfl (t_cs1 (Rn_mono mt _ _) 461 rfl (Nat.le_of_ble_eq_true rfl) ?_)))
      | (show Rch _ _ _ _ _ 461 _ _ _; refine Rch.blk' (Rn_mono mt _ _) bl_L_law_461 (i_lload rfl (i_lcmp (t_if_eq 668 467 rfl rfl (by first | with_reducible exact hI_R | with_reducible exact lcm_R | with_reducible exact band_R | with_reducible exact bor_R | with_reducible exact bshr_R | with_reducible exact bshl_R | omega) (fun hc => ?_) (fun hc => ?_)))) <;> (first | (exfalso; omega) | skip))
      | (show Rch _ _ _ _ _ 467 _ _ _; refine Rch.blk' (Rn_mono mt _ _) bl_L_law_467 (i_iconst k_0 (t_zret (by omega) ?_)))
      | (show Rch _ _ _ _ _ 469 _ _ _; refine Rch.blk' (Rn_mono mt _ _) bl_L_law_469 (i_iload rfl (t_if_ge 541 474 rfl rfl (by first | with_reducible exact hI_R | with_reducible exact lcm_R | with_reducible exact band_R | with_reducible exact bor_R | with_reducible exact bshr_R | with_reducible exact bshl_R | omega) (fun hc => ?_) (fun hc => ?_))) <;> (first | (exfalso; omega) | skip))
      | (show Rch _ _ _ _ _ 474 _ _ _; refine Rch.blk' (Rn_mono mt _ _) bl_L_law_474 (i_iload rfl (i_bipush k_m4 (t_ic_ne 539 481 rfl rfl (by first | with_reducible exact hI_R | with_reducible exact lcm_R | with_reducible exact band_R | with_reducible exact bor_R | with_reducible exact bshr_R | with_reducible exact bshl_R | omega) (by first | with_reducible exact hI_R | with_reducible exact lcm_R | with_reducible exact band_R | with_reducible exact bor_R | with_reducible exact bshr_R | with_reducible exact bshl_R | omega) (fun hc => ?_) (fun hc => ?_)))) <;> (first | (exfalso; omega) | skip))
      | (show Rch _ _ _ _ _ 481 _ _ _; refine Rch.blk' (Rn_mono mt _ _) bl_L_law_481 (i_iload rfl (t_if_ne 539 486 rfl rfl (by first | with_reducible exact hI_R | with_reducible exact lcm_R | with_reducible exact band_R | with_reducible exact bor_R | with_reducible exact bshr_R | with_reducible exact bshl_R | omega) (fun hc => ?_) (fun hc => ?_))) <;> (first | (exfalso; omega) | skip))
      | (show Rch _ _ _ _ _ 486 _ _ _; refine Rch.blk' (Rn_mono mt _ _) bl_L_law_486 (i_aload_n rfl (i_iconst k_4 (t_cv2 (Rn_mono mt _ _) 491 rfl (Nat.le_of_ble_eq_true rfl) ?_))))
      | (show Rch _ _ _ _ _ 491 _ _ _; refine Rch.blk' (Rn_mono mt _ _) bl_L_law_491 (i_iload rfl (t_ic_ne 539 496 rfl rfl (by first | with_reducible exact hI_R | with_reducible exact lcm_R | with_reducible exact band_R | with_reducible exact bor_R | with_reducible exact bshr_R | with_reducible exact bshl_R | omega) (by first | with_reducible exact hI_R | with_reducible exact lcm_R | with_reducible exact band_R | with_reducible exact bor_R | with_reducible exact bshr_R | with_reducible exact bshl_R | omega) (fun hc => ?_) (fun hc => ?_))) <;> (first | (exfalso; omega) | skip))
      | (show Rch _ _ _ _ _ 496 _ _ _; refine Rch.blk' (Rn_mono mt _ _) bl_L_law_496 (i_aload_n rfl (i_iconst k_3 (t_cv2 (Rn_mono mt _ _) 501 rfl (Nat.le_of_ble_eq_true rfl) ?_))))
      | (show Rch _ _ _ _ _ 501 _ _ _; refine Rch.blk' (Rn_mono mt _ _) bl_L_law_501 (i_iload rfl (i_sipush k_9999 (t_ic_ge 516 509 rfl rfl (by first | with_reducible exact hI_R | with_reducible exact lcm_R | with_reducible exact band_R | with_reducible exact bor_R | with_reducible exact bshr_R | with_reducible exact bshl_R | omega) (by first | with_reducible exact hI_R | with_reducible exact lcm_R | with_reducible exact band_R | with_reducible exact bor_R | with_reducible exact bshr_R | with_reducible exact bshl_R | omega) (fun hc => ?_) (fun hc => ?_)))) <;> (first | (exfalso; omega) | skip))
      | (show Rch _ _ _ _ _ 509 _ _ _; refine Rch.blk' (Rn_mono mt _ _) bl_L_law_509 (i_iload rfl (i_iconst k_1 (i_iadd (t_goto 519 rfl ?_)))))
      | (show Rch _ _ _ _ _ 516 _ _ _; refine Rch.blk' (Rn_mono mt _ _) bl_L_law_516 (i_sipush k_9999 (t_none ?_)))
      | (show Rch _ _ _ _ _ 519 _ _ _; refine Rch.blk' (Rn_mono mt _ _) bl_L_law_519 (t_ic_ne 539 522 rfl rfl (by first | with_reducible exact hI_R | with_reducible exact lcm_R | with_reducible exact band_R | with_reducible exact bor_R | with_reducible exact bshr_R | with_reducible exact bshl_R | omega) (by first | with_reducible exact hI_R | with_reducible exact lcm_R | with_reducible exact band_R | with_reducible exact bor_R | with_reducible exact bshr_R | with_reducible exact bshl_R | omega) (fun hc => ?_) (fun hc => ?_)) <;> (first | (exfalso; omega) | skip))
      | (show Rch _ _ _ _ _ 522 _ _ _; refine Rch.blk' (Rn_mono mt _ _) bl_L_law_522 (i_iload rfl (t_if_le 668 527 rfl rfl (by first | with_reducible exact hI_R | with_reducible exact lcm_R | with_reducible exact band_R | with_reducible exact bor_R | with_reducible exact bshr_R | with_reducible exact bshl_R | omega) (fun hc => ?_) (fun hc => ?_))) <;> (first | (exfalso; omega) | skip))
      | (show Rch _ _ _ _ _ 527 _ _ _; refine Rch.blk' (Rn_mono mt _ _) bl_L_law_527 (i_aload_n rfl (i_iload rfl (i_iconst k_3 (t_cv3 (Rn_mono mt _ _) 534 rfl (Nat.le_of_ble_eq_true rfl) ?_)))))
      | (show Rch _ _ _ _ _ 534 _ _ _; refine Rch.blk' (Rn_mono mt _ _) bl_L_law_534 (i_iload rfl (t_ic_eq 668 539 rfl rfl (by first | with_reducible exact hI_R | with_reducible exact lcm_R | with_reducible exact band_R | with_reducible exact bor_R | with_reducible exact bshr_R | with_reducible exact bshl_R | omega) (by first | with_reducible exact hI_R | with_reducible exact lcm_R | with_reducible exact band_R | with_reducible exact bor_R | with_reducible exact bshr_R | with_reducible exact bshl_R | omega) (fun hc => ?_) (fun hc => ?_))) <;> (first | (exfalso; omega) | skip))
      | (show Rch _ _ _ _ _ 539 _ _ _; refine Rch.blk' (Rn_mono mt _ _) bl_L_law_539 (i_iconst k_0 (t_zret (by omega) ?_)))
      | (show Rch _ _ _ _ _ 541 _ _ _; refine Rch.blk' (Rn_mono mt _ _) bl_L_law_541 (i_iconst k_2 (i_iload rfl (i_imul (i_iload rfl (t_ic_le 666 550 rfl rfl (by first | with_reducible exact hI_R | with_reducible exact lcm_R | with_reducible exact band_R | with_reducible exact bor_R | with_reducible exact bshr_R | with_reducible exact bshl_R | omega) (by first | with_reducible exact hI_R | with_reducible exact lcm_R | with_reducible exact band_R | with_reducible exact bor_R | with_reducible exact bshr_R | with_reducible exact bshl_R | omega) (fun hc => ?_) (fun hc => ?_)))))) <;> (first | (exfalso; omega) | skip))
      | (show Rch _ _ _ _ _ 550 _ _ _; refine Rch.blk' (Rn_mono mt _ _) bl_L_law_550 (i_aload_n rfl (i_iload rfl (i_iconst k_2 (t_cv3 (Rn_mono mt _ _) 557 rfl (Nat.le_of_ble_eq_true rfl) ?_))))))
    refine k_piece hW hO2 hy2 (by omega) (by omega) pg2 (fun h hW => ?_)
    repeat' (first
      | (show Rn _ _ _ 77 _ _ _; refine c_L_cell rfl (by omega) (by omega) (by omega) (fun _ _ => ?_))
      | (show Rn _ _ _ 87 _ _ _; refine c_L_bits (fun _ _ => ?_))
      | (show Rch _ _ _ _ _ 557 _ _ _; refine Rch.blk' (Rn_mono mt _ _) bl_L_law_557 (i_iload rfl (t_ic_ne 666 562 rfl rfl (by first | with_reducible exact hI_R | with_reducible exact lcm_R | with_reducible exact band_R | with_reducible exact bor_R | with_reducible exact bshr_R | with_reducible exact bshl_R | omega) (by first | with_reducible exact hI_R | with_reducible exact lcm_R | with_reducible exact band_R | with_reducible exact bor_R | with_reducible exact bshr_R | with_reducible exact bshl_R | omega) (fun hc => ?_) (fun hc => ?_))) <;> (first | (exfalso; omega) | skip))
      | (show Rch _ _ _ _ _ 562 _ _ _; refine Rch.blk' (Rn_mono mt _ _) bl_L_law_562 (i_aload_n rfl (i_iload rfl (i_iconst k_3 (t_cv3 (Rn_mono mt _ _) 569 rfl (Nat.le_of_ble_eq_true rfl) ?_))))))
    refine k_piece hW hO2 hy2 (by omega) (by omega) pg3 (fun h hW => ?_)
    repeat' (first
      | (show Rn _ _ _ 77 _ _ _; refine c_L_cell rfl (by omega) (by omega) (by omega) (fun _ _ => ?_))
      | (show Rn _ _ _ 87 _ _ _; refine c_L_bits (fun _ _ => ?_))
      | (show Rch _ _ _ _ _ 569 _ _ _; refine Rch.blk' (Rn_mono mt _ _) bl_L_law_569 (i_iload rfl (t_ic_ne 666 574 rfl rfl (by first | with_reducible exact hI_R | with_reducible exact lcm_R | with_reducible exact band_R | with_reducible exact bor_R | with_reducible exact bshr_R | with_reducible exact bshl_R | omega) (by first | with_reducible exact hI_R | with_reducible exact lcm_R | with_reducible exact band_R | with_reducible exact bor_R | with_reducible exact bshr_R | with_reducible exact bshl_R | omega) (fun hc => ?_) (fun hc => ?_))) <;> (first | (exfalso; omega) | skip))
      | (show Rch _ _ _ _ _ 574 _ _ _; refine Rch.blk' (Rn_mono mt _ _) bl_L_law_574 (i_aload_n rfl (i_iconst k_3 (t_cv2 (Rn_mono mt _ _) 579 rfl (Nat.le_of_ble_eq_true rfl) ?_)))))
    refine k_count hW hO2 (by omega) (v := th D) rfl (fun h hW => ?_)
    rcases hTG with ho | ⟨ho, hosd⟩
    · have tA := tA ho
      rw [tA] at k637
      repeat' (first
        | (show Rn _ _ _ 77 _ _ _; refine c_L_cell rfl (by omega) (by omega) (by omega) (fun _ _ => ?_))
        | (show Rn _ _ _ 87 _ _ _; refine c_L_bits (fun _ _ => ?_))
        | (show Rch _ _ _ _ _ 579 _ _ _; refine Rch.blk' (Rn_mono mt _ _) bl_L_law_579 (i_iload rfl (t_ic_ne 666 584 rfl rfl (by first | with_reducible exact hI_R | with_reducible exact lcm_R | with_reducible exact band_R | with_reducible exact bor_R | with_reducible exact bshr_R | with_reducible exact bshl_R | omega) (by first | with_reducible exact hI_R | with_reducible exact lcm_R | with_reducible exact band_R | with_reducible exact bor_R | with_reducible exact bshr_R | with_reducible exact bshl_R | omega) (fun hc => ?_) (fun hc => ?_))) <;> (first | (exfalso; omega) | skip))
        | (show Rch _ _ _ _ _ 584 _ _ _; refine Rch.blk' (Rn_mono mt _ _) bl_L_law_584 (i_iload rfl (t_if_lt 613 589 rfl rfl (by first | with_reducible exact hI_R | with_reducible exact lcm_R | with_reducible exact band_R | with_reducible exact bor_R | with_reducible exact bshr_R | with_reducible exact bshl_R | omega) (fun hc => ?_) (fun hc => ?_))) <;> (first | (exfalso; omega) | skip))
        | (show Rch _ _ _ _ _ 589 _ _ _; refine Rch.blk' (Rn_mono mt _ _) bl_L_law_589 (i_aload_n rfl (i_iload rfl (i_iconst k_2 (t_cv3 (Rn_mono mt _ _) 596 rfl (Nat.le_of_ble_eq_true rfl) ?_)))))
        | (show Rch _ _ _ _ _ 596 _ _ _; refine Rch.blk' (Rn_mono mt _ _) bl_L_law_596 (i_iload rfl (t_ic_eq 666 601 rfl rfl (by first | with_reducible exact hI_R | with_reducible exact lcm_R | with_reducible exact band_R | with_reducible exact bor_R | with_reducible exact bshr_R | with_reducible exact bshl_R | omega) (by first | with_reducible exact hI_R | with_reducible exact lcm_R | with_reducible exact band_R | with_reducible exact bor_R | with_reducible exact bshr_R | with_reducible exact bshl_R | omega) (fun hc => ?_) (fun hc => ?_))) <;> (first | (exfalso; omega) | skip))
        | (show Rch _ _ _ _ _ 601 _ _ _; refine Rch.blk' (Rn_mono mt _ _) bl_L_law_601 (i_aload_n rfl (i_iload rfl (i_iconst k_3 (t_cv3 (Rn_mono mt _ _) 608 rfl (Nat.le_of_ble_eq_true rfl) ?_)))))
        | (show Rch _ _ _ _ _ 608 _ _ _; refine Rch.blk' (Rn_mono mt _ _) bl_L_law_608 (i_bipush k_m4 (t_ic_ne 666 613 rfl rfl (by first | with_reducible exact hI_R | with_reducible exact lcm_R | with_reducible exact band_R | with_reducible exact bor_R | with_reducible exact bshr_R | with_reducible exact bshl_R | omega) (by first | with_reducible exact hI_R | with_reducible exact lcm_R | with_reducible exact band_R | with_reducible exact bor_R | with_reducible exact bshr_R | with_reducible exact bshl_R | omega) (fun hc => ?_) (fun hc => ?_))) <;> (first | (exfalso; omega) | skip))
        | (show Rch _ _ _ _ _ 613 _ _ _; refine Rch.blk' (Rn_mono mt _ _) bl_L_law_613 (i_aload_n rfl (i_iconst k_4 (t_cv2 (Rn_mono mt _ _) 618 rfl (Nat.le_of_ble_eq_true rfl) ?_)))))
      refine k_count hW hO2 (by omega) (v := BT (TS G)) tA (fun h hW => ?_)
      have k637 := k637 _ h rfl hW
      repeat' (first
        | exact k637
        | (show Rn _ _ _ 77 _ _ _; refine c_L_cell rfl (by omega) (by omega) (by omega) (fun _ _ => ?_))
        | (show Rn _ _ _ 87 _ _ _; refine c_L_bits (fun _ _ => ?_))
        | (show Rch _ _ _ _ _ 618 _ _ _; refine Rch.blk' (Rn_mono mt _ _) bl_L_law_618 (i_iload rfl (t_if_ge 628 623 rfl rfl (by first | with_reducible exact hI_R | with_reducible exact lcm_R | with_reducible exact band_R | with_reducible exact bor_R | with_reducible exact bshr_R | with_reducible exact bshl_R | omega) (fun hc => ?_) (fun hc => ?_))) <;> (first | (exfalso; omega) | skip))
        | (show Rch _ _ _ _ _ 623 _ _ _; refine Rch.blk' (Rn_mono mt _ _) bl_L_law_623 (i_iload rfl (t_goto 637 rfl ?_)))
        | (show Rch _ _ _ _ _ 628 _ _ _; refine Rch.blk' (Rn_mono mt _ _) bl_L_law_628 (i_iload rfl (i_iconst k_1 (i_iload rfl (i_ishl (i_iconst k_m1 (i_ixor (i_iand (t_none ?_))))))))))
    · have tB := tB ho
      have po2 := (pc_v (G := D) ho (by omega)).1
      rw [fs] at po2
      have po3 := (pc_v (G := D) ho (by omega)).2.1
      have hne : ¬ ons G t = g := by
        intro z
        rw [z] at hosd
        have := (hO.pc g g0 g1).2.2.1
        omega
      rw [ds _ ho, if_neg hne, if_pos rfl, m4_n rfl] at po3
      repeat' (first
        | (show Rn _ _ _ 77 _ _ _; refine c_L_cell rfl (by omega) (by omega) (by omega) (fun _ _ => ?_))
        | (show Rn _ _ _ 87 _ _ _; refine c_L_bits (fun _ _ => ?_))
        | (show Rch _ _ _ _ _ 579 _ _ _; refine Rch.blk' (Rn_mono mt _ _) bl_L_law_579 (i_iload rfl (t_ic_ne 666 584 rfl rfl (by first | with_reducible exact hI_R | with_reducible exact lcm_R | with_reducible exact band_R | with_reducible exact bor_R | with_reducible exact bshr_R | with_reducible exact bshl_R | omega) (by first | with_reducible exact hI_R | with_reducible exact lcm_R | with_reducible exact band_R | with_reducible exact bor_R | with_reducible exact bshr_R | with_reducible exact bshl_R | omega) (fun hc => ?_) (fun hc => ?_))) <;> (first | (exfalso; omega) | skip))
        | (show Rch _ _ _ _ _ 584 _ _ _; refine Rch.blk' (Rn_mono mt _ _) bl_L_law_584 (i_iload rfl (t_if_lt 613 589 rfl rfl (by first | with_reducible exact hI_R | with_reducible exact lcm_R | with_reducible exact band_R | with_reducible exact bor_R | with_reducible exact bshr_R | with_reducible exact bshl_R | omega) (fun hc => ?_) (fun hc => ?_))) <;> (first | (exfalso; omega) | skip))
        | (show Rch _ _ _ _ _ 589 _ _ _; refine Rch.blk' (Rn_mono mt _ _) bl_L_law_589 (i_aload_n rfl (i_iload rfl (i_iconst k_2 (t_cv3 (Rn_mono mt _ _) 596 rfl (Nat.le_of_ble_eq_true rfl) ?_))))))
      refine k_piece hW hO2 hy2 (by omega) (by omega) po2 (fun h hW => ?_)
      repeat' (first
        | (show Rn _ _ _ 77 _ _ _; refine c_L_cell rfl (by omega) (by omega) (by omega) (fun _ _ => ?_))
        | (show Rn _ _ _ 87 _ _ _; refine c_L_bits (fun _ _ => ?_))
        | (show Rch _ _ _ _ _ 596 _ _ _; refine Rch.blk' (Rn_mono mt _ _) bl_L_law_596 (i_iload rfl (t_ic_eq 666 601 rfl rfl (by first | with_reducible exact hI_R | with_reducible exact lcm_R | with_reducible exact band_R | with_reducible exact bor_R | with_reducible exact bshr_R | with_reducible exact bshl_R | omega) (by first | with_reducible exact hI_R | with_reducible exact lcm_R | with_reducible exact band_R | with_reducible exact bor_R | with_reducible exact bshr_R | with_reducible exact bshl_R | omega) (fun hc => ?_) (fun hc => ?_))) <;> (first | (exfalso; omega) | skip))
        | (show Rch _ _ _ _ _ 601 _ _ _; refine Rch.blk' (Rn_mono mt _ _) bl_L_law_601 (i_aload_n rfl (i_iload rfl (i_iconst k_3 (t_cv3 (Rn_mono mt _ _) 608 rfl (Nat.le_of_ble_eq_true rfl) ?_))))))
      refine k_piece hW hO2 hy2 (by omega) (by omega) po3 (fun h hW => ?_)
      repeat' (first
        | (show Rn _ _ _ 77 _ _ _; refine c_L_cell rfl (by omega) (by omega) (by omega) (fun _ _ => ?_))
        | (show Rn _ _ _ 87 _ _ _; refine c_L_bits (fun _ _ => ?_))
        | (show Rch _ _ _ _ _ 608 _ _ _; refine Rch.blk' (Rn_mono mt _ _) bl_L_law_608 (i_bipush k_m4 (t_ic_ne 666 613 rfl rfl (by first | with_reducible exact hI_R | with_reducible exact lcm_R | with_reducible exact band_R | with_reducible exact bor_R | with_reducible exact bshr_R | with_reducible exact bshl_R | omega) (by first | with_reducible exact hI_R | with_reducible exact lcm_R | with_reducible exact band_R | with_reducible exact bor_R | with_reducible exact bshr_R | with_reducible exact bshl_R | omega) (fun hc => ?_) (fun hc => ?_))) <;> (first | (exfalso; omega) | skip))
        | (show Rch _ _ _ _ _ 613 _ _ _; refine Rch.blk' (Rn_mono mt _ _) bl_L_law_613 (i_aload_n rfl (i_iconst k_4 (t_cv2 (Rn_mono mt _ _) 618 rfl (Nat.le_of_ble_eq_true rfl) ?_)))))
      refine k_count hW hO2 (by omega) (v := BT (TS D)) rfl (fun h hW => ?_)
      have k637 := k637 _ h tB.symm hW
      repeat' (first
        | exact k637
        | (show Rn _ _ _ 77 _ _ _; refine c_L_cell rfl (by omega) (by omega) (by omega) (fun _ _ => ?_))
        | (show Rn _ _ _ 87 _ _ _; refine c_L_bits (fun _ _ => ?_))
        | (show Rch _ _ _ _ _ 618 _ _ _; refine Rch.blk' (Rn_mono mt _ _) bl_L_law_618 (i_iload rfl (t_if_ge 628 623 rfl rfl (by first | with_reducible exact hI_R | with_reducible exact lcm_R | with_reducible exact band_R | with_reducible exact bor_R | with_reducible exact bshr_R | with_reducible exact bshl_R | omega) (fun hc => ?_) (fun hc => ?_))) <;> (first | (exfalso; omega) | skip))
        | (show Rch _ _ _ _ _ 623 _ _ _; refine Rch.blk' (Rn_mono mt _ _) bl_L_law_623 (i_iload rfl (t_goto 637 rfl ?_)))
        | (show Rch _ _ _ _ _ 628 _ _ _; refine Rch.blk' (Rn_mono mt _ _) bl_L_law_628 (i_iload rfl (i_iconst k_1 (i_iload rfl (i_ishl (i_iconst k_m1 (i_ixor (i_iand (t_none ?_))))))))))
theorem lw_c0 (hk : CK d L Rt i) (hW : CW h G T Gi S) (hO : OKB G) (hy : dy G ≤ 999) (hT : T = 0 ∨ T = 1) (hTi : T = 1 → OKB Gi ∧ dy Gi ≤ 999) (hK : OKS S) (hE : OKE S) (hp : (nn G = 0 ∧ p = 0) ∨ (0 ≤ p ∧ p < nn G)) : LR d L Rt 348 [some (ar 22 0), some (ar 2 0), some (ar 12 0), some (ai (I i)), some (ai (I q)), some (al (SGT G)), none, some (ai (I (nn G))), some (ai (I (BT (TS G)))), some (ai (I (BT (TS G)))), some (ai (I sds)), some (ai (I p)), some (ai (I s)), u13, u14, u15, u16, u17, u18, u19, u20, u21, u22] h := by
  have g_n := hO.n
  have g_t := hO.2.1
  have g_t2 : 0 ≤ tn G ∧ tn G ≤ 1 := by omega
  by_cases hg : goer G no0 0 (dy G + 1) = -4
  · obtain ⟨n0, n1, n2⟩ := next_n hg
    have kN := fun (w21 : Int) (h21 : 0 < nn G → w21 = m4 (sq G p)) (h : Mem) (hW : CW h G T Gi S) => lw_c0_n (d := d) (L := L) (Rt := Rt) (i := i) (q := q) (sds := sds) (p := p) (s := s) (u21 := u21) (u22 := u22) hk hW hO hy hT hTi hK hE hp hg h21
    refine Rch.blk' (Rn_mono mt _ _) bl_L_law_348 (i_aload_n rfl (i_iconst k_0 (t_cv2 (Rn_mono mt _ _) 353 rfl (Nat.le_of_ble_eq_true rfl) ?_)))
    refine k_next hW hO hy (by omega) n0 (fun h hW => ?_)
    refine Rch.blk' (Rn_mono mt _ _) bl_L_law_353 (i_istore13 trivial (i_aload_n rfl (i_iconst k_1 (t_cv2 (Rn_mono mt _ _) 360 rfl (Nat.le_of_ble_eq_true rfl) ?_))))
    refine k_next hW hO hy (by omega) n1 (fun h hW => ?_)
    refine Rch.blk' (Rn_mono mt _ _) bl_L_law_360 (i_istore14 trivial (i_aload_n rfl (i_iconst k_2 (t_cv2 (Rn_mono mt _ _) 367 rfl (Nat.le_of_ble_eq_true rfl) ?_))))
    refine k_next hW hO hy (by omega) n2 (fun h hW => ?_)
    refine Rch.blk' (Rn_mono mt _ _) bl_L_law_367 (i_istore15 trivial (i_aload_n rfl (i_iconst k_2 (t_cv2 (Rn_mono mt _ _) 374 rfl (Nat.le_of_ble_eq_true rfl) ?_))))
    refine k_count hW hO (by omega) (v := tn G) rfl (fun h hW => ?_)
    refine Rch.blk' (Rn_mono mt _ _) bl_L_law_374 (i_istore16 trivial (i_aload_n rfl (i_iconst k_3 (t_cv2 (Rn_mono mt _ _) 381 rfl (Nat.le_of_ble_eq_true rfl) ?_))))
    refine k_count hW hO (by omega) (v := th G) rfl (fun h hW => ?_)
    refine Rch.blk' (Rn_mono mt _ _) bl_L_law_381 (i_istore17 trivial (i_aload_n rfl (i_iconst k_1 (t_cv2 (Rn_mono mt _ _) 388 rfl (Nat.le_of_ble_eq_true rfl) ?_))))
    refine k_count hW hO (by omega) (v := dy G) rfl (fun h hW => ?_)
    refine Rch.blk' (Rn_mono mt _ _) bl_L_law_388 (i_istore18 trivial (i_aload_n rfl (i_iload rfl (i_iconst k_3 (t_cv3 (Rn_mono mt _ _) 397 rfl (Nat.le_of_ble_eq_true rfl) ?_)))))
    refine k_side hW hO g_t2 (by omega) (side_v g_t).2.2 (fun h hW => ?_)
    rcases hp with ⟨hn, rfl⟩ | ⟨p0, p1⟩
    · have kN := kN 0 (fun z => by omega) h hW
      repeat' (first
        | exact kN
        | (show Rn _ _ _ 77 _ _ _; refine c_L_cell rfl (by omega) (by omega) (by omega) (fun _ _ => ?_))
        | (show Rn _ _ _ 87 _ _ _; refine c_L_bits (fun _ _ => ?_))
        | (show Rch _ _ _ _ _ 397 _ _ _; refine Rch.blk' (Rn_mono mt _ _) bl_L_law_397 (i_istore19 trivial (i_iload rfl (t_if_ge 409 404 rfl rfl (by first | with_reducible exact hI_R | with_reducible exact lcm_R | with_reducible exact band_R | with_reducible exact bor_R | with_reducible exact bshr_R | with_reducible exact bshl_R | omega) (fun hc => ?_) (fun hc => ?_)))) <;> (first | (exfalso; omega) | skip))
        | (show Rch _ _ _ _ _ 404 _ _ _; refine Rch.blk' (Rn_mono mt _ _) bl_L_law_404 (i_bipush k_m4 (t_goto 415 rfl ?_)))
        | (show Rch _ _ _ _ _ 409 _ _ _; refine Rch.blk' (Rn_mono mt _ _) bl_L_law_409 (i_aload_n rfl (i_iload rfl (t_cv2 (Rn_mono mt _ _) 415 rfl (Nat.le_of_ble_eq_true rfl) ?_))))
        | (show Rch _ _ _ _ _ 415 _ _ _; refine Rch.blk' (Rn_mono mt _ _) bl_L_law_415 (i_istore20 trivial (i_iload rfl (t_if_ne 426 422 rfl rfl (by first | with_reducible exact hI_R | with_reducible exact lcm_R | with_reducible exact band_R | with_reducible exact bor_R | with_reducible exact bshr_R | with_reducible exact bshl_R | omega) (fun hc => ?_) (fun hc => ?_)))) <;> (first | (exfalso; omega) | skip))
        | (show Rch _ _ _ _ _ 422 _ _ _; refine Rch.blk' (Rn_mono mt _ _) bl_L_law_422 (i_iconst k_0 (t_goto 433 rfl ?_)))
        | (show Rch _ _ _ _ _ 426 _ _ _; refine Rch.blk' (Rn_mono mt _ _) bl_L_law_426 (i_aload_n rfl (i_iload rfl (i_iconst k_3 (t_cv3 (Rn_mono mt _ _) 433 rfl (Nat.le_of_ble_eq_true rfl) ?_))))))
    · skip
      repeat' (first
        | (show Rn _ _ _ 77 _ _ _; refine c_L_cell rfl (by omega) (by omega) (by omega) (fun _ _ => ?_))
        | (show Rn _ _ _ 87 _ _ _; refine c_L_bits (fun _ _ => ?_))
        | (show Rch _ _ _ _ _ 397 _ _ _; refine Rch.blk' (Rn_mono mt _ _) bl_L_law_397 (i_istore19 trivial (i_iload rfl (t_if_ge 409 404 rfl rfl (by first | with_reducible exact hI_R | with_reducible exact lcm_R | with_reducible exact band_R | with_reducible exact bor_R | with_reducible exact bshr_R | with_reducible exact bshl_R | omega) (fun hc => ?_) (fun hc => ?_)))) <;> (first | (exfalso; omega) | skip))
        | (show Rch _ _ _ _ _ 404 _ _ _; refine Rch.blk' (Rn_mono mt _ _) bl_L_law_404 (i_bipush k_m4 (t_goto 415 rfl ?_)))
        | (show Rch _ _ _ _ _ 409 _ _ _; refine Rch.blk' (Rn_mono mt _ _) bl_L_law_409 (i_aload_n rfl (i_iload rfl (t_cv2 (Rn_mono mt _ _) 415 rfl (Nat.le_of_ble_eq_true rfl) ?_))))
        | (show Rch _ _ _ _ _ 415 _ _ _; refine Rch.blk' (Rn_mono mt _ _) bl_L_law_415 (i_istore20 trivial (i_iload rfl (t_if_ne 426 422 rfl rfl (by first | with_reducible exact hI_R | with_reducible exact lcm_R | with_reducible exact band_R | with_reducible exact bor_R | with_reducible exact bshr_R | with_reducible exact bshl_R | omega) (fun hc => ?_) (fun hc => ?_)))) <;> (first | (exfalso; omega) | skip))
        | (show Rch _ _ _ _ _ 422 _ _ _; refine Rch.blk' (Rn_mono mt _ _) bl_L_law_422 (i_iconst k_0 (t_goto 433 rfl ?_)))
        | (show Rch _ _ _ _ _ 426 _ _ _; refine Rch.blk' (Rn_mono mt _ _) bl_L_law_426 (i_aload_n rfl (i_iload rfl (i_iconst k_3 (t_cv3 (Rn_mono mt _ _) 433 rfl (Nat.le_of_ble_eq_true rfl) ?_))))))
      refine k_piece hW hO hy (by omega) (by omega) (pc_v p0 p1).2.1 (fun h hW => ?_)
      exact kN _ (fun _ => rfl) h hW
  · obtain ⟨n0, n1, n2⟩ := next_g hg
    have hr := goer_R (G := G) (M := no0) (ra := 0) (y := dy G + 1) hO
    have hr : 0 ≤ goer G no0 0 (dy G + 1) ∧ goer G no0 0 (dy G + 1) < nn G ∧ cand G no0 (dy G + 1) (goer G no0 0 (dy G + 1)) := by
      rcases hr with e | e
      · exact absurd e hg
      · exact e
    have p0 : 0 ≤ p := by omega
    have p1 : p < nn G := by omega
    have kG := fun (h : Mem) (hW : CW h G T Gi S) => lw_c0_g (d := d) (L := L) (Rt := Rt) (i := i) (q := q) (sds := sds) (p := p) (s := s) (u21 := u21) (u22 := u22) hk hW hO hy hT hTi hK hE p0 p1 rfl hg rfl
    have hsR := @ide_R G (goer G no0 0 (dy G + 1)) (dy G + 1)
    have hs4 := hr.2.2.2.2.2
    have g0 := hr.1
    have g1 := hr.2.1
    clear hr
    generalize goer G no0 0 (dy G + 1) = g at n0 n1 n2 kG hsR hs4 g0 g1 hg
    generalize ide G g (dy G + 1) = t at n1 kG hsR hs4
    refine Rch.blk' (Rn_mono mt _ _) bl_L_law_348 (i_aload_n rfl (i_iconst k_0 (t_cv2 (Rn_mono mt _ _) 353 rfl (Nat.le_of_ble_eq_true rfl) ?_)))
    refine k_next hW hO hy (by omega) n0 (fun h hW => ?_)
    refine Rch.blk' (Rn_mono mt _ _) bl_L_law_353 (i_istore13 trivial (i_aload_n rfl (i_iconst k_1 (t_cv2 (Rn_mono mt _ _) 360 rfl (Nat.le_of_ble_eq_true rfl) ?_))))
    refine k_next hW hO hy (by omega) n1 (fun h hW => ?_)
    refine Rch.blk' (Rn_mono mt _ _) bl_L_law_360 (i_istore14 trivial (i_aload_n rfl (i_iconst k_2 (t_cv2 (Rn_mono mt _ _) 367 rfl (Nat.le_of_ble_eq_true rfl) ?_))))
    refine k_next hW hO hy (by omega) n2 (fun h hW => ?_)
    refine Rch.blk' (Rn_mono mt _ _) bl_L_law_367 (i_istore15 trivial (i_aload_n rfl (i_iconst k_2 (t_cv2 (Rn_mono mt _ _) 374 rfl (Nat.le_of_ble_eq_true rfl) ?_))))
    refine k_count hW hO (by omega) (v := tn G) rfl (fun h hW => ?_)
    refine Rch.blk' (Rn_mono mt _ _) bl_L_law_374 (i_istore16 trivial (i_aload_n rfl (i_iconst k_3 (t_cv2 (Rn_mono mt _ _) 381 rfl (Nat.le_of_ble_eq_true rfl) ?_))))
    refine k_count hW hO (by omega) (v := th G) rfl (fun h hW => ?_)
    refine Rch.blk' (Rn_mono mt _ _) bl_L_law_381 (i_istore17 trivial (i_aload_n rfl (i_iconst k_1 (t_cv2 (Rn_mono mt _ _) 388 rfl (Nat.le_of_ble_eq_true rfl) ?_))))
    refine k_count hW hO (by omega) (v := dy G) rfl (fun h hW => ?_)
    refine Rch.blk' (Rn_mono mt _ _) bl_L_law_388 (i_istore18 trivial (i_aload_n rfl (i_iload rfl (i_iconst k_3 (t_cv3 (Rn_mono mt _ _) 397 rfl (Nat.le_of_ble_eq_true rfl) ?_)))))
    refine k_side hW hO g_t2 (by omega) (side_v g_t).2.2 (fun h hW => ?_)
    repeat' (first
      | (show Rn _ _ _ 77 _ _ _; refine c_L_cell rfl (by omega) (by omega) (by omega) (fun _ _ => ?_))
      | (show Rn _ _ _ 87 _ _ _; refine c_L_bits (fun _ _ => ?_))
      | (show Rch _ _ _ _ _ 397 _ _ _; refine Rch.blk' (Rn_mono mt _ _) bl_L_law_397 (i_istore19 trivial (i_iload rfl (t_if_ge 409 404 rfl rfl (by first | with_reducible exact hI_R | with_reducible exact lcm_R | with_reducible exact band_R | with_reducible exact bor_R | with_reducible exact bshr_R | with_reducible exact bshl_R | omega) (fun hc => ?_) (fun hc => ?_)))) <;> (first | (exfalso; omega) | skip))
      | (show Rch _ _ _ _ _ 404 _ _ _; refine Rch.blk' (Rn_mono mt _ _) bl_L_law_404 (i_bipush k_m4 (t_goto 415 rfl ?_)))
      | (show Rch _ _ _ _ _ 409 _ _ _; refine Rch.blk' (Rn_mono mt _ _) bl_L_law_409 (i_aload_n rfl (i_iload rfl (t_cv2 (Rn_mono mt _ _) 415 rfl (Nat.le_of_ble_eq_true rfl) ?_)))))
    refine k_on hW hO ⟨by omega, by omega⟩ (fun h hW => ?_)
    repeat' (first
      | (show Rn _ _ _ 77 _ _ _; refine c_L_cell rfl (by omega) (by omega) (by omega) (fun _ _ => ?_))
      | (show Rn _ _ _ 87 _ _ _; refine c_L_bits (fun _ _ => ?_))
      | (show Rch _ _ _ _ _ 415 _ _ _; refine Rch.blk' (Rn_mono mt _ _) bl_L_law_415 (i_istore20 trivial (i_iload rfl (t_if_ne 426 422 rfl rfl (by first | with_reducible exact hI_R | with_reducible exact lcm_R | with_reducible exact band_R | with_reducible exact bor_R | with_reducible exact bshr_R | with_reducible exact bshl_R | omega) (fun hc => ?_) (fun hc => ?_)))) <;> (first | (exfalso; omega) | skip))
      | (show Rch _ _ _ _ _ 422 _ _ _; refine Rch.blk' (Rn_mono mt _ _) bl_L_law_422 (i_iconst k_0 (t_goto 433 rfl ?_)))
      | (show Rch _ _ _ _ _ 426 _ _ _; refine Rch.blk' (Rn_mono mt _ _) bl_L_law_426 (i_aload_n rfl (i_iload rfl (i_iconst k_3 (t_cv3 (Rn_mono mt _ _) 433 rfl (Nat.le_of_ble_eq_true rfl) ?_))))))
    refine k_piece hW hO hy (by omega) (by omega) (pc_v p0 p1).2.1 (fun h hW => ?_)
    exact kG h hW
end C77

