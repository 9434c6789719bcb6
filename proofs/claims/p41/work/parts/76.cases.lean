/-! THE LAW'S CASES -/
def IN4 (h : Mem) : Prop := ∃ (G : Bd) (T : Int) (Gi : Bd) (S : Sv), CW h G T Gi S ∧ (OKB G ∧ dy G ≤ 999) ∧ (T = 0 ∨ T = 1) ∧ (T = 1 → OKB Gi ∧ dy Gi ≤ 999) ∧ OKS S ∧ OKE S
abbrev LR (d L : Nat) (Rt : Option AV → Mem → Prop) (pc : Nat) (ls : Lc) (h : Mem) : Prop := Rch bL_law (Rn mt L (d + 8)) L (fun _ _ _ _ => False) Rt pc ls [] h
/-- behind a case -/
abbrev CK (d L : Nat) (Rt : Option AV → Mem → Prop) (i : Int) : Prop := ∀ (h : Mem) (u4 u5 u6 u7 u8 u9 u10 u11 u12 u13 u14 u15 u16 u17 u18 u19 u20 u21 u22 : Option AV), IN4 h → LR d L Rt 1339 [some (ar 22 0), some (ar 2 0), some (ar 12 0), some (ai (I i)), u4, u5, u6, u7, u8, u9, u10, u11, u12, u13, u14, u15, u16, u17, u18, u19, u20, u21, u22] h
section C76
variable {d L : Nat} {Rt : Option AV → Mem → Prop} {h : Mem} {G Gi : Bd} {T : Int} {S : Sv} {i q sds p s : Int} {u13 u14 u15 u16 u17 u18 u19 u20 u21 u22 : Option AV}
theorem lw_c3 (hk : CK d L Rt i) (hW : CW h G T Gi S) (hO : OKB G) (hy : dy G ≤ 999) (hT : T = 0 ∨ T = 1) (hTi : T = 1 → OKB Gi ∧ dy Gi ≤ 999) (hK : OKS S) (hE : OKE S) (hp : (nn G = 0 ∧ p = 0) ∨ (0 ≤ p ∧ p < nn G)) (s0 : 0 ≤ s) (s1 : s < 36) : LR d L Rt 715 [some (ar 22 0), some (ar 2 0), some (ar 12 0), some (ai (I i)), some (ai (I q)), some (al (SGT G)), none, some (ai (I (nn G))), some (ai (I (BT (TS G)))), some (ai (I (BT (TS G)))), some (ai (I sds)), some (ai (I p)), some (ai (I s)), u13, u14, u15, u16, u17, u18, u19, u20, u21, u22] h := by
  have g_n := hO.n
  have g_o := ons_R G hO s
  have e_l := @lcm_s (SGT G)
  have hk := fun (G' : Bd) (h' : Mem) (a : OKB G') (b : dy G' ≤ 999) (c : CW h' G' T Gi S) (x13 x14 x15 x16 : Option AV) => hk h' (some (ai (I q))) (some (al (SGT G))) none (some (ai (I (nn G)))) (some (ai (I (BT (TS G))))) (some (ai (I (BT (TS G))))) (some (ai (I sds))) (some (ai (I p))) (some (ai (I s))) x13 x14 x15 x16 u17 u18 u19 u20 u21 u22 ⟨G', T, Gi, S, c, ⟨a, b⟩, hT, hTi, hK, hE⟩
  obtain ⟨v1, v2, v3⟩ := @stands_v G p s s0 s1
  refine Rch.blk' (Rn_mono mt _ _) bl_L_law_715 (i_aload_n rfl (i_iload rfl (t_cv2 (Rn_mono mt _ _) 721 rfl (Nat.le_of_ble_eq_true rfl) ?_)))
  refine k_on hW hO ⟨s0, s1⟩ (fun h hW => ?_)
  rcases hp with ⟨hn, rfl⟩ | ⟨p0, p1⟩
  · skip
    repeat' (first
      | (show Rn _ _ _ 77 _ _ _; refine c_L_cell rfl (by omega) (by omega) (by omega) (fun _ _ => ?_))
      | (show Rn _ _ _ 87 _ _ _; refine c_L_bits (fun _ _ => ?_))
      | (show Rch _ _ _ _ _ 721 _ _ _; refine Rch.blk' (Rn_mono mt _ _) bl_L_law_721 (i_istore13 trivial (i_iload rfl (t_if_ne 732 728 rfl rfl (by first | with_reducible exact hI_R | with_reducible exact lcm_R | with_reducible exact band_R | with_reducible exact bor_R | with_reducible exact bshr_R | with_reducible exact bshl_R | omega) (fun hc => ?_) (fun hc => ?_)))) <;> (first | (exfalso; omega) | skip))
      | (show Rch _ _ _ _ _ 728 _ _ _; refine Rch.blk' (Rn_mono mt _ _) bl_L_law_728 (i_iconst k_0 (t_goto 739 rfl ?_)))
      | (show Rch _ _ _ _ _ 732 _ _ _; refine Rch.blk' (Rn_mono mt _ _) bl_L_law_732 (i_aload_n rfl (i_iload rfl (i_iconst k_3 (t_cv3 (Rn_mono mt _ _) 739 rfl (Nat.le_of_ble_eq_true rfl) ?_)))))
      | (show Rch _ _ _ _ _ 739 _ _ _; refine Rch.blk' (Rn_mono mt _ _) bl_L_law_739 (i_istore14 trivial (i_aload_n rfl (i_iload rfl (i_iload rfl (t_cv3 (Rn_mono mt _ _) 749 rfl (Nat.le_of_ble_eq_true rfl) ?_))))))
      | (show Rch _ _ _ _ _ 749 _ _ _; refine Rch.blk' (Rn_mono mt _ _) bl_L_law_749 (i_istore15 trivial (i_iload rfl (t_if_le 772 756 rfl rfl (by first | with_reducible exact hI_R | with_reducible exact lcm_R | with_reducible exact band_R | with_reducible exact bor_R | with_reducible exact bshr_R | with_reducible exact bshl_R | omega) (fun hc => ?_) (fun hc => ?_)))) <;> (first | (exfalso; omega) | skip))
      | (show Rch _ _ _ _ _ 756 _ _ _; refine Rch.blk' (Rn_mono mt _ _) bl_L_law_756 (i_iload rfl (t_if_lt 768 761 rfl rfl (by first | with_reducible exact hI_R | with_reducible exact lcm_R | with_reducible exact band_R | with_reducible exact bor_R | with_reducible exact bshr_R | with_reducible exact bshl_R | omega) (fun hc => ?_) (fun hc => ?_))) <;> (first | (exfalso; omega) | skip))
      | (show Rch _ _ _ _ _ 761 _ _ _; refine Rch.blk' (Rn_mono mt _ _) bl_L_law_761 (i_iload rfl (i_iload rfl (t_ic_ne 772 768 rfl rfl (by first | with_reducible exact hI_R | with_reducible exact lcm_R | with_reducible exact band_R | with_reducible exact bor_R | with_reducible exact bshr_R | with_reducible exact bshl_R | omega) (by first | with_reducible exact hI_R | with_reducible exact lcm_R | with_reducible exact band_R | with_reducible exact bor_R | with_reducible exact bshr_R | with_reducible exact bshl_R | omega) (fun hc => ?_) (fun hc => ?_)))) <;> (first | (exfalso; omega) | skip))
      | (show Rch _ _ _ _ _ 768 _ _ _; refine Rch.blk' (Rn_mono mt _ _) bl_L_law_768 (i_iconst k_1 (t_goto 773 rfl ?_)))
      | (show Rch _ _ _ _ _ 772 _ _ _; refine Rch.blk' (Rn_mono mt _ _) bl_L_law_772 (i_iconst k_0 (t_none ?_)))
      | (show Rch _ _ _ _ _ 773 _ _ _; refine Rch.blk' (Rn_mono mt _ _) bl_L_law_773 (i_istore16 trivial (i_iload rfl (t_if_eq 801 780 rfl rfl (by first | with_reducible exact hI_R | with_reducible exact lcm_R | with_reducible exact band_R | with_reducible exact bor_R | with_reducible exact bshr_R | with_reducible exact bshl_R | omega) (fun hc => ?_) (fun hc => ?_)))) <;> (first | (exfalso; omega) | skip))
      | (show Rch _ _ _ _ _ 780 _ _ _; refine Rch.blk' (Rn_mono mt _ _) bl_L_law_780 (i_iload rfl (i_iload rfl (t_ic_ne 827 787 rfl rfl (by first | with_reducible exact hI_R | with_reducible exact lcm_R | with_reducible exact band_R | with_reducible exact bor_R | with_reducible exact bshr_R | with_reducible exact bshl_R | omega) (by first | with_reducible exact hI_R | with_reducible exact lcm_R | with_reducible exact band_R | with_reducible exact bor_R | with_reducible exact bshr_R | with_reducible exact bshl_R | omega) (fun hc => ?_) (fun hc => ?_)))) <;> (first | (exfalso; omega) | skip))
      | (show Rch _ _ _ _ _ 787 _ _ _; refine Rch.blk' (Rn_mono mt _ _) bl_L_law_787 (i_aload_n rfl (i_iload rfl (t_cv2 (Rn_mono mt _ _) 793 rfl (Nat.le_of_ble_eq_true rfl) ?_))))
      | (show Rch _ _ _ _ _ 793 _ _ _; refine Rch.blk' (Rn_mono mt _ _) bl_L_law_793 (i_iload rfl (t_ic_eq 1339 798 rfl rfl (by first | with_reducible exact hI_R | with_reducible exact lcm_R | with_reducible exact band_R | with_reducible exact bor_R | with_reducible exact bshr_R | with_reducible exact bshl_R | omega) (by first | with_reducible exact hI_R | with_reducible exact lcm_R | with_reducible exact band_R | with_reducible exact bor_R | with_reducible exact bshr_R | with_reducible exact bshl_R | omega) (fun hc => ?_) (fun hc => ?_))) <;> (first | (exfalso; omega) | skip))
      | (show Rch _ _ _ _ _ 798 _ _ _; refine Rch.blk' (Rn_mono mt _ _) bl_L_law_798 (t_goto 827 rfl ?_))
      | (show Rch _ _ _ _ _ 801 _ _ _; refine Rch.blk' (Rn_mono mt _ _) bl_L_law_801 (i_iload rfl (i_iload rfl (t_if_ne 812 808 rfl rfl (by first | with_reducible exact hI_R | with_reducible exact lcm_R | with_reducible exact band_R | with_reducible exact bor_R | with_reducible exact bshr_R | with_reducible exact bshl_R | omega) (fun hc => ?_) (fun hc => ?_)))) <;> (first | (exfalso; omega) | skip)))
    refine k_stands hW hO (by omega) ⟨s0, s1⟩ (v1 (by omega)) (fun h hW => ?_)
    repeat' (first
      | (show Rn _ _ _ 77 _ _ _; refine c_L_cell rfl (by omega) (by omega) (by omega) (fun _ _ => ?_))
      | (show Rn _ _ _ 87 _ _ _; refine c_L_bits (fun _ _ => ?_))
      | (show Rch _ _ _ _ _ 749 _ _ _; refine Rch.blk' (Rn_mono mt _ _) bl_L_law_749 (i_istore15 trivial (i_iload rfl (t_if_le 772 756 rfl rfl (by first | with_reducible exact hI_R | with_reducible exact lcm_R | with_reducible exact band_R | with_reducible exact bor_R | with_reducible exact bshr_R | with_reducible exact bshl_R | omega) (fun hc => ?_) (fun hc => ?_)))) <;> (first | (exfalso; omega) | skip))
      | (show Rch _ _ _ _ _ 756 _ _ _; refine Rch.blk' (Rn_mono mt _ _) bl_L_law_756 (i_iload rfl (t_if_lt 768 761 rfl rfl (by first | with_reducible exact hI_R | with_reducible exact lcm_R | with_reducible exact band_R | with_reducible exact bor_R | with_reducible exact bshr_R | with_reducible exact bshl_R | omega) (fun hc => ?_) (fun hc => ?_))) <;> (first | (exfalso; omega) | skip))
      | (show Rch _ _ _ _ _ 761 _ _ _; refine Rch.blk' (Rn_mono mt _ _) bl_L_law_761 (i_iload rfl (i_iload rfl (t_ic_ne 772 768 rfl rfl (by first | with_reducible exact hI_R | with_reducible exact lcm_R | with_reducible exact band_R | with_reducible exact bor_R | with_reducible exact bshr_R | with_reducible exact bshl_R | omega) (by first | with_reducible exact hI_R | with_reducible exact lcm_R | with_reducible exact band_R | with_reducible exact bor_R | with_reducible exact bshr_R | with_reducible exact bshl_R | omega) (fun hc => ?_) (fun hc => ?_)))) <;> (first | (exfalso; omega) | skip))
      | (show Rch _ _ _ _ _ 768 _ _ _; refine Rch.blk' (Rn_mono mt _ _) bl_L_law_768 (i_iconst k_1 (t_goto 773 rfl ?_)))
      | (show Rch _ _ _ _ _ 772 _ _ _; refine Rch.blk' (Rn_mono mt _ _) bl_L_law_772 (i_iconst k_0 (t_none ?_)))
      | (show Rch _ _ _ _ _ 773 _ _ _; refine Rch.blk' (Rn_mono mt _ _) bl_L_law_773 (i_istore16 trivial (i_iload rfl (t_if_eq 801 780 rfl rfl (by first | with_reducible exact hI_R | with_reducible exact lcm_R | with_reducible exact band_R | with_reducible exact bor_R | with_reducible exact bshr_R | with_reducible exact bshl_R | omega) (fun hc => ?_) (fun hc => ?_)))) <;> (first | (exfalso; omega) | skip))
      | (show Rch _ _ _ _ _ 780 _ _ _; refine Rch.blk' (Rn_mono mt _ _) bl_L_law_780 (i_iload rfl (i_iload rfl (t_ic_ne 827 787 rfl rfl (by first | with_reducible exact hI_R | with_reducible exact lcm_R | with_reducible exact band_R | with_reducible exact bor_R | with_reducible exact bshr_R | with_reducible exact bshl_R | omega) (by first | with_reducible exact hI_R | with_reducible exact lcm_R | with_reducible exact band_R | with_reducible exact bor_R | with_reducible exact bshr_R | with_reducible exact bshl_R | omega) (fun hc => ?_) (fun hc => ?_)))) <;> (first | (exfalso; omega) | skip))
      | (show Rch _ _ _ _ _ 787 _ _ _; refine Rch.blk' (Rn_mono mt _ _) bl_L_law_787 (i_aload_n rfl (i_iload rfl (t_cv2 (Rn_mono mt _ _) 793 rfl (Nat.le_of_ble_eq_true rfl) ?_))))
      | (show Rch _ _ _ _ _ 793 _ _ _; refine Rch.blk' (Rn_mono mt _ _) bl_L_law_793 (i_iload rfl (t_ic_eq 1339 798 rfl rfl (by first | with_reducible exact hI_R | with_reducible exact lcm_R | with_reducible exact band_R | with_reducible exact bor_R | with_reducible exact bshr_R | with_reducible exact bshl_R | omega) (by first | with_reducible exact hI_R | with_reducible exact lcm_R | with_reducible exact band_R | with_reducible exact bor_R | with_reducible exact bshr_R | with_reducible exact bshl_R | omega) (fun hc => ?_) (fun hc => ?_))) <;> (first | (exfalso; omega) | skip))
      | (show Rch _ _ _ _ _ 798 _ _ _; refine Rch.blk' (Rn_mono mt _ _) bl_L_law_798 (t_goto 827 rfl ?_))
      | (show Rch _ _ _ _ _ 801 _ _ _; refine Rch.blk' (Rn_mono mt _ _) bl_L_law_801 (i_iload rfl (i_iload rfl (t_if_ne 812 808 rfl rfl (by first | with_reducible exact hI_R | with_reducible exact lcm_R | with_reducible exact band_R | with_reducible exact bor_R | with_reducible exact bshr_R | with_reducible exact bshl_R | omega) (fun hc => ?_) (fun hc => ?_)))) <;> (first | (exfalso; omega) | skip))
      | (show Rch _ _ _ _ _ 808 _ _ _; refine Rch.blk' (Rn_mono mt _ _) bl_L_law_808 (i_iconst k_m1 (t_goto 814 rfl ?_)))
      | (show Rch _ _ _ _ _ 812 _ _ _; refine Rch.blk' (Rn_mono mt _ _) bl_L_law_812 (i_bipush k_m3 (t_none ?_)))
      | (show Rch _ _ _ _ _ 814 _ _ _; refine Rch.blk' (Rn_mono mt _ _) bl_L_law_814 (t_ic_ne 827 817 rfl rfl (by first | with_reducible exact hI_R | with_reducible exact lcm_R | with_reducible exact band_R | with_reducible exact bor_R | with_reducible exact bshr_R | with_reducible exact bshl_R | omega) (by first | with_reducible exact hI_R | with_reducible exact lcm_R | with_reducible exact band_R | with_reducible exact bor_R | with_reducible exact bshr_R | with_reducible exact bshl_R | omega) (fun hc => ?_) (fun hc => ?_)) <;> (first | (exfalso; omega) | skip))
      | (show Rch _ _ _ _ _ 817 _ _ _; refine Rch.blk' (Rn_mono mt _ _) bl_L_law_817 (i_aload_n rfl (t_cs1 (Rn_mono mt _ _) 821 rfl (Nat.le_of_ble_eq_true rfl) ?_))))
    refine k_sight hW hO hy (fun h hW => ?_)
    have hk := hk G h hO hy hW
    repeat' (first
      | exact hk _ _ _ _
      | (show Rn _ _ _ 77 _ _ _; refine c_L_cell rfl (by omega) (by omega) (by omega) (fun _ _ => ?_))
      | (show Rn _ _ _ 87 _ _ _; refine c_L_bits (fun _ _ => ?_))
      | (show Rch _ _ _ _ _ 821 _ _ _; refine Rch.blk' (Rn_mono mt _ _) bl_L_law_821 (i_lload rfl (i_lcmp (t_if_eq 1339 827 rfl rfl (by first | with_reducible exact hI_R | with_reducible exact lcm_R | with_reducible exact band_R | with_reducible exact bor_R | with_reducible exact bshr_R | with_reducible exact bshl_R | omega) (fun hc => ?_) (fun hc => ?_)))) <;> (first | (exfalso; omega) | skip))
      | (show Rch _ _ _ _ _ 827 _ _ _; refine Rch.blk' (Rn_mono mt _ _) bl_L_law_827 (i_iconst k_0 (t_zret (by omega) ?_))))
  · have pv := (pc_v p0 p1).2.1
    have g_4 := @m4_R (sq G p)
    have g_p := hO.pc p p0 p1
    repeat' (first
      | (show Rn _ _ _ 77 _ _ _; refine c_L_cell rfl (by omega) (by omega) (by omega) (fun _ _ => ?_))
      | (show Rn _ _ _ 87 _ _ _; refine c_L_bits (fun _ _ => ?_))
      | (show Rch _ _ _ _ _ 721 _ _ _; refine Rch.blk' (Rn_mono mt _ _) bl_L_law_721 (i_istore13 trivial (i_iload rfl (t_if_ne 732 728 rfl rfl (by first | with_reducible exact hI_R | with_reducible exact lcm_R | with_reducible exact band_R | with_reducible exact bor_R | with_reducible exact bshr_R | with_reducible exact bshl_R | omega) (fun hc => ?_) (fun hc => ?_)))) <;> (first | (exfalso; omega) | skip))
      | (show Rch _ _ _ _ _ 728 _ _ _; refine Rch.blk' (Rn_mono mt _ _) bl_L_law_728 (i_iconst k_0 (t_goto 739 rfl ?_)))
      | (show Rch _ _ _ _ _ 732 _ _ _; refine Rch.blk' (Rn_mono mt _ _) bl_L_law_732 (i_aload_n rfl (i_iload rfl (i_iconst k_3 (t_cv3 (Rn_mono mt _ _) 739 rfl (Nat.le_of_ble_eq_true rfl) ?_)))))
      | (show Rch _ _ _ _ _ 739 _ _ _; refine Rch.blk' (Rn_mono mt _ _) bl_L_law_739 (i_istore14 trivial (i_aload_n rfl (i_iload rfl (i_iload rfl (t_cv3 (Rn_mono mt _ _) 749 rfl (Nat.le_of_ble_eq_true rfl) ?_))))))
      | (show Rch _ _ _ _ _ 749 _ _ _; refine Rch.blk' (Rn_mono mt _ _) bl_L_law_749 (i_istore15 trivial (i_iload rfl (t_if_le 772 756 rfl rfl (by first | with_reducible exact hI_R | with_reducible exact lcm_R | with_reducible exact band_R | with_reducible exact bor_R | with_reducible exact bshr_R | with_reducible exact bshl_R | omega) (fun hc => ?_) (fun hc => ?_)))) <;> (first | (exfalso; omega) | skip))
      | (show Rch _ _ _ _ _ 756 _ _ _; refine Rch.blk' (Rn_mono mt _ _) bl_L_law_756 (i_iload rfl (t_if_lt 768 761 rfl rfl (by first | with_reducible exact hI_R | with_reducible exact lcm_R | with_reducible exact band_R | with_reducible exact bor_R | with_reducible exact bshr_R | with_reducible exact bshl_R | omega) (fun hc => ?_) (fun hc => ?_))) <;> (first | (exfalso; omega) | skip))
      | (show Rch _ _ _ _ _ 761 _ _ _; refine Rch.blk' (Rn_mono mt _ _) bl_L_law_761 (i_iload rfl (i_iload rfl (t_ic_ne 772 768 rfl rfl (by first | with_reducible exact hI_R | with_reducible exact lcm_R | with_reducible exact band_R | with_reducible exact bor_R | with_reducible exact bshr_R | with_reducible exact bshl_R | omega) (by first | with_reducible exact hI_R | with_reducible exact lcm_R | with_reducible exact band_R | with_reducible exact bor_R | with_reducible exact bshr_R | with_reducible exact bshl_R | omega) (fun hc => ?_) (fun hc => ?_)))) <;> (first | (exfalso; omega) | skip))
      | (show Rch _ _ _ _ _ 768 _ _ _; refine Rch.blk' (Rn_mono mt _ _) bl_L_law_768 (i_iconst k_1 (t_goto 773 rfl ?_)))
      | (show Rch _ _ _ _ _ 772 _ _ _; refine Rch.blk' (Rn_mono mt _ _) bl_L_law_772 (i_iconst k_0 (t_none ?_)))
      | (show Rch _ _ _ _ _ 773 _ _ _; refine Rch.blk' (Rn_mono mt _ _) bl_L_law_773 (i_istore16 trivial (i_iload rfl (t_if_eq 801 780 rfl rfl (by first | with_reducible exact hI_R | with_reducible exact lcm_R | with_reducible exact band_R | with_reducible exact bor_R | with_reducible exact bshr_R | with_reducible exact bshl_R | omega) (fun hc => ?_) (fun hc => ?_)))) <;> (first | (exfalso; omega) | skip))
      | (show Rch _ _ _ _ _ 780 _ _ _; refine Rch.blk' (Rn_mono mt _ _) bl_L_law_780 (i_iload rfl (i_iload rfl (t_ic_ne 827 787 rfl rfl (by first | with_reducible exact hI_R | with_reducible exact lcm_R | with_reducible exact band_R | with_reducible exact bor_R | with_reducible exact bshr_R | with_reducible exact bshl_R | omega) (by first | with_reducible exact hI_R | with_reducible exact lcm_R | with_reducible exact band_R | with_reducible exact bor_R | with_reducible exact bshr_R | with_reducible exact bshl_R | omega) (fun hc => ?_) (fun hc => ?_)))) <;> (first | (exfalso; omega) | skip))
      | (show Rch _ _ _ _ _ 787 _ _ _; refine Rch.blk' (Rn_mono mt _ _) bl_L_law_787 (i_aload_n rfl (i_iload rfl (t_cv2 (Rn_mono mt _ _) 793 rfl (Nat.le_of_ble_eq_true rfl) ?_))))
      | (show Rch _ _ _ _ _ 793 _ _ _; refine Rch.blk' (Rn_mono mt _ _) bl_L_law_793 (i_iload rfl (t_ic_eq 1339 798 rfl rfl (by first | with_reducible exact hI_R | with_reducible exact lcm_R | with_reducible exact band_R | with_reducible exact bor_R | with_reducible exact bshr_R | with_reducible exact bshl_R | omega) (by first | with_reducible exact hI_R | with_reducible exact lcm_R | with_reducible exact band_R | with_reducible exact bor_R | with_reducible exact bshr_R | with_reducible exact bshl_R | omega) (fun hc => ?_) (fun hc => ?_))) <;> (first | (exfalso; omega) | skip))
      | (show Rch _ _ _ _ _ 798 _ _ _; refine Rch.blk' (Rn_mono mt _ _) bl_L_law_798 (t_goto 827 rfl ?_))
      | (show Rch _ _ _ _ _ 801 _ _ _; refine Rch.blk' (Rn_mono mt _ _) bl_L_law_801 (i_iload rfl (i_iload rfl (t_if_ne 812 808 rfl rfl (by first | with_reducible exact hI_R | with_reducible exact lcm_R | with_reducible exact band_R | with_reducible exact bor_R | with_reducible exact bshr_R | with_reducible exact bshl_R | omega) (fun hc => ?_) (fun hc => ?_)))) <;> (first | (exfalso; omega) | skip)))
    refine k_piece hW hO hy (by omega) (by omega) pv (fun h hW => ?_)
    repeat' (first
      | (show Rn _ _ _ 77 _ _ _; refine c_L_cell rfl (by omega) (by omega) (by omega) (fun _ _ => ?_))
      | (show Rn _ _ _ 87 _ _ _; refine c_L_bits (fun _ _ => ?_))
      | (show Rch _ _ _ _ _ 739 _ _ _; refine Rch.blk' (Rn_mono mt _ _) bl_L_law_739 (i_istore14 trivial (i_aload_n rfl (i_iload rfl (i_iload rfl (t_cv3 (Rn_mono mt _ _) 749 rfl (Nat.le_of_ble_eq_true rfl) ?_)))))))
    by_cases hc : ons G s = -4 ∨ ons G s = p
    · have v2 := v2 ⟨p0, p1⟩ hc
      have hO2 : OKB (mov G p s) := OKB_mov hO s0 (by omega) (fun _ => hc)
      have e_o : ons (mov G p s) s = p := by rw [ons_mov hO p0 p1 s0 (by omega) (fun _ => hc) s1, if_pos rfl]
      refine k_stands hW hO (by omega) ⟨s0, s1⟩ v2 (fun h hW => ?_)
      repeat' (first
        | (show Rn _ _ _ 77 _ _ _; refine c_L_cell rfl (by omega) (by omega) (by omega) (fun _ _ => ?_))
        | (show Rn _ _ _ 87 _ _ _; refine c_L_bits (fun _ _ => ?_))
        | (show Rch _ _ _ _ _ 749 _ _ _; refine Rch.blk' (Rn_mono mt _ _) bl_L_law_749 (i_istore15 trivial (i_iload rfl (t_if_le 772 756 rfl rfl (by first | with_reducible exact hI_R | with_reducible exact lcm_R | with_reducible exact band_R | with_reducible exact bor_R | with_reducible exact bshr_R | with_reducible exact bshl_R | omega) (fun hc => ?_) (fun hc => ?_)))) <;> (first | (exfalso; omega) | skip))
        | (show Rch _ _ _ _ _ 756 _ _ _; refine Rch.blk' (Rn_mono mt _ _) bl_L_law_756 (i_iload rfl (t_if_lt 768 761 rfl rfl (by first | with_reducible exact hI_R | with_reducible exact lcm_R | with_reducible exact band_R | with_reducible exact bor_R | with_reducible exact bshr_R | with_reducible exact bshl_R | omega) (fun hc => ?_) (fun hc => ?_))) <;> (first | (exfalso; omega) | skip))
        | (show Rch _ _ _ _ _ 761 _ _ _; refine Rch.blk' (Rn_mono mt _ _) bl_L_law_761 (i_iload rfl (i_iload rfl (t_ic_ne 772 768 rfl rfl (by first | with_reducible exact hI_R | with_reducible exact lcm_R | with_reducible exact band_R | with_reducible exact bor_R | with_reducible exact bshr_R | with_reducible exact bshl_R | omega) (by first | with_reducible exact hI_R | with_reducible exact lcm_R | with_reducible exact band_R | with_reducible exact bor_R | with_reducible exact bshr_R | with_reducible exact bshl_R | omega) (fun hc => ?_) (fun hc => ?_)))) <;> (first | (exfalso; omega) | skip))
        | (show Rch _ _ _ _ _ 768 _ _ _; refine Rch.blk' (Rn_mono mt _ _) bl_L_law_768 (i_iconst k_1 (t_goto 773 rfl ?_)))
        | (show Rch _ _ _ _ _ 772 _ _ _; refine Rch.blk' (Rn_mono mt _ _) bl_L_law_772 (i_iconst k_0 (t_none ?_)))
        | (show Rch _ _ _ _ _ 773 _ _ _; refine Rch.blk' (Rn_mono mt _ _) bl_L_law_773 (i_istore16 trivial (i_iload rfl (t_if_eq 801 780 rfl rfl (by first | with_reducible exact hI_R | with_reducible exact lcm_R | with_reducible exact band_R | with_reducible exact bor_R | with_reducible exact bshr_R | with_reducible exact bshl_R | omega) (fun hc => ?_) (fun hc => ?_)))) <;> (first | (exfalso; omega) | skip))
        | (show Rch _ _ _ _ _ 780 _ _ _; refine Rch.blk' (Rn_mono mt _ _) bl_L_law_780 (i_iload rfl (i_iload rfl (t_ic_ne 827 787 rfl rfl (by first | with_reducible exact hI_R | with_reducible exact lcm_R | with_reducible exact band_R | with_reducible exact bor_R | with_reducible exact bshr_R | with_reducible exact bshl_R | omega) (by first | with_reducible exact hI_R | with_reducible exact lcm_R | with_reducible exact band_R | with_reducible exact bor_R | with_reducible exact bshr_R | with_reducible exact bshl_R | omega) (fun hc => ?_) (fun hc => ?_)))) <;> (first | (exfalso; omega) | skip))
        | (show Rch _ _ _ _ _ 787 _ _ _; refine Rch.blk' (Rn_mono mt _ _) bl_L_law_787 (i_aload_n rfl (i_iload rfl (t_cv2 (Rn_mono mt _ _) 793 rfl (Nat.le_of_ble_eq_true rfl) ?_))))
        | (show Rch _ _ _ _ _ 793 _ _ _; refine Rch.blk' (Rn_mono mt _ _) bl_L_law_793 (i_iload rfl (t_ic_eq 1339 798 rfl rfl (by first | with_reducible exact hI_R | with_reducible exact lcm_R | with_reducible exact band_R | with_reducible exact bor_R | with_reducible exact bshr_R | with_reducible exact bshl_R | omega) (by first | with_reducible exact hI_R | with_reducible exact lcm_R | with_reducible exact band_R | with_reducible exact bor_R | with_reducible exact bshr_R | with_reducible exact bshl_R | omega) (fun hc => ?_) (fun hc => ?_))) <;> (first | (exfalso; omega) | skip))
        | (show Rch _ _ _ _ _ 798 _ _ _; refine Rch.blk' (Rn_mono mt _ _) bl_L_law_798 (t_goto 827 rfl ?_))
        | (show Rch _ _ _ _ _ 801 _ _ _; refine Rch.blk' (Rn_mono mt _ _) bl_L_law_801 (i_iload rfl (i_iload rfl (t_if_ne 812 808 rfl rfl (by first | with_reducible exact hI_R | with_reducible exact lcm_R | with_reducible exact band_R | with_reducible exact bor_R | with_reducible exact bshr_R | with_reducible exact bshl_R | omega) (fun hc => ?_) (fun hc => ?_)))) <;> (first | (exfalso; omega) | skip)))
      all_goals
        refine k_on hW hO2 ⟨s0, s1⟩ (fun h hW => ?_)
        rw [e_o]
        have hk := hk (mov G p s) h hO2 hy hW
        repeat' (first
          | exact hk _ _ _ _
          | (show Rn _ _ _ 77 _ _ _; refine c_L_cell rfl (by omega) (by omega) (by omega) (fun _ _ => ?_))
          | (show Rn _ _ _ 87 _ _ _; refine c_L_bits (fun _ _ => ?_))
          | (show Rch _ _ _ _ _ 793 _ _ _; refine Rch.blk' (Rn_mono mt _ _) bl_L_law_793 (i_iload rfl (t_ic_eq 1339 798 rfl rfl (by first | with_reducible exact hI_R | with_reducible exact lcm_R | with_reducible exact band_R | with_reducible exact bor_R | with_reducible exact bshr_R | with_reducible exact bshl_R | omega) (by first | with_reducible exact hI_R | with_reducible exact lcm_R | with_reducible exact band_R | with_reducible exact bor_R | with_reducible exact bshr_R | with_reducible exact bshl_R | omega) (fun hc => ?_) (fun hc => ?_))) <;> (first | (exfalso; omega) | skip))
          | (show Rch _ _ _ _ _ 798 _ _ _; refine Rch.blk' (Rn_mono mt _ _) bl_L_law_798 (t_goto 827 rfl ?_))
          | (show Rch _ _ _ _ _ 801 _ _ _; refine Rch.blk' (Rn_mono mt _ _) bl_L_law_801 (i_iload rfl (i_iload rfl (t_if_ne 812 808 rfl rfl (by first | with_reducible exact hI_R | with_reducible exact lcm_R | with_reducible exact band_R | with_reducible exact bor_R | with_reducible exact bshr_R | with_reducible exact bshl_R | omega) (fun hc => ?_) (fun hc => ?_)))) <;> (first | (exfalso; omega) | skip))
          | (show Rch _ _ _ _ _ 808 _ _ _; refine Rch.blk' (Rn_mono mt _ _) bl_L_law_808 (i_iconst k_m1 (t_goto 814 rfl ?_)))
          | (show Rch _ _ _ _ _ 812 _ _ _; refine Rch.blk' (Rn_mono mt _ _) bl_L_law_812 (i_bipush k_m3 (t_none ?_)))
          | (show Rch _ _ _ _ _ 814 _ _ _; refine Rch.blk' (Rn_mono mt _ _) bl_L_law_814 (t_ic_ne 827 817 rfl rfl (by first | with_reducible exact hI_R | with_reducible exact lcm_R | with_reducible exact band_R | with_reducible exact bor_R | with_reducible exact bshr_R | with_reducible exact bshl_R | omega) (by first | with_reducible exact hI_R | with_reducible exact lcm_R | with_reducible exact band_R | with_reducible exact bor_R | with_reducible exact bshr_R | with_reducible exact bshl_R | omega) (fun hc => ?_) (fun hc => ?_)) <;> (first | (exfalso; omega) | skip))
          | (show Rch _ _ _ _ _ 817 _ _ _; refine Rch.blk' (Rn_mono mt _ _) bl_L_law_817 (i_aload_n rfl (t_cs1 (Rn_mono mt _ _) 821 rfl (Nat.le_of_ble_eq_true rfl) ?_)))
          | (show Rch _ _ _ _ _ 821 _ _ _; refine Rch.blk' (Rn_mono mt _ _) bl_L_law_821 (i_lload rfl (i_lcmp (t_if_eq 1339 827 rfl rfl (by first | with_reducible exact hI_R | with_reducible exact lcm_R | with_reducible exact band_R | with_reducible exact bor_R | with_reducible exact bshr_R | with_reducible exact bshl_R | omega) (fun hc => ?_) (fun hc => ?_)))) <;> (first | (exfalso; omega) | skip))
          | (show Rch _ _ _ _ _ 827 _ _ _; refine Rch.blk' (Rn_mono mt _ _) bl_L_law_827 (i_iconst k_0 (t_zret (by omega) ?_))))
    · have v3 := v3 ⟨p0, p1⟩ hc
      refine k_stands hW hO (by omega) ⟨s0, s1⟩ v3 (fun h hW => ?_)
      repeat' (first
        | (show Rn _ _ _ 77 _ _ _; refine c_L_cell rfl (by omega) (by omega) (by omega) (fun _ _ => ?_))
        | (show Rn _ _ _ 87 _ _ _; refine c_L_bits (fun _ _ => ?_))
        | (show Rch _ _ _ _ _ 749 _ _ _; refine Rch.blk' (Rn_mono mt _ _) bl_L_law_749 (i_istore15 trivial (i_iload rfl (t_if_le 772 756 rfl rfl (by first | with_reducible exact hI_R | with_reducible exact lcm_R | with_reducible exact band_R | with_reducible exact bor_R | with_reducible exact bshr_R | with_reducible exact bshl_R | omega) (fun hc => ?_) (fun hc => ?_)))) <;> (first | (exfalso; omega) | skip))
        | (show Rch _ _ _ _ _ 756 _ _ _; refine Rch.blk' (Rn_mono mt _ _) bl_L_law_756 (i_iload rfl (t_if_lt 768 761 rfl rfl (by first | with_reducible exact hI_R | with_reducible exact lcm_R | with_reducible exact band_R | with_reducible exact bor_R | with_reducible exact bshr_R | with_reducible exact bshl_R | omega) (fun hc => ?_) (fun hc => ?_))) <;> (first | (exfalso; omega) | skip))
        | (show Rch _ _ _ _ _ 761 _ _ _; refine Rch.blk' (Rn_mono mt _ _) bl_L_law_761 (i_iload rfl (i_iload rfl (t_ic_ne 772 768 rfl rfl (by first | with_reducible exact hI_R | with_reducible exact lcm_R | with_reducible exact band_R | with_reducible exact bor_R | with_reducible exact bshr_R | with_reducible exact bshl_R | omega) (by first | with_reducible exact hI_R | with_reducible exact lcm_R | with_reducible exact band_R | with_reducible exact bor_R | with_reducible exact bshr_R | with_reducible exact bshl_R | omega) (fun hc => ?_) (fun hc => ?_)))) <;> (first | (exfalso; omega) | skip))
        | (show Rch _ _ _ _ _ 768 _ _ _; refine Rch.blk' (Rn_mono mt _ _) bl_L_law_768 (i_iconst k_1 (t_goto 773 rfl ?_)))
        | (show Rch _ _ _ _ _ 772 _ _ _; refine Rch.blk' (Rn_mono mt _ _) bl_L_law_772 (i_iconst k_0 (t_none ?_)))
        | (show Rch _ _ _ _ _ 773 _ _ _; refine Rch.blk' (Rn_mono mt _ _) bl_L_law_773 (i_istore16 trivial (i_iload rfl (t_if_eq 801 780 rfl rfl (by first | with_reducible exact hI_R | with_reducible exact lcm_R | with_reducible exact band_R | with_reducible exact bor_R | with_reducible exact bshr_R | with_reducible exact bshl_R | omega) (fun hc => ?_) (fun hc => ?_)))) <;> (first | (exfalso; omega) | skip))
        | (show Rch _ _ _ _ _ 780 _ _ _; refine Rch.blk' (Rn_mono mt _ _) bl_L_law_780 (i_iload rfl (i_iload rfl (t_ic_ne 827 787 rfl rfl (by first | with_reducible exact hI_R | with_reducible exact lcm_R | with_reducible exact band_R | with_reducible exact bor_R | with_reducible exact bshr_R | with_reducible exact bshl_R | omega) (by first | with_reducible exact hI_R | with_reducible exact lcm_R | with_reducible exact band_R | with_reducible exact bor_R | with_reducible exact bshr_R | with_reducible exact bshl_R | omega) (fun hc => ?_) (fun hc => ?_)))) <;> (first | (exfalso; omega) | skip))
        | (show Rch _ _ _ _ _ 787 _ _ _; refine Rch.blk' (Rn_mono mt _ _) bl_L_law_787 (i_aload_n rfl (i_iload rfl (t_cv2 (Rn_mono mt _ _) 793 rfl (Nat.le_of_ble_eq_true rfl) ?_))))
        | (show Rch _ _ _ _ _ 793 _ _ _; refine Rch.blk' (Rn_mono mt _ _) bl_L_law_793 (i_iload rfl (t_ic_eq 1339 798 rfl rfl (by first | with_reducible exact hI_R | with_reducible exact lcm_R | with_reducible exact band_R | with_reducible exact bor_R | with_reducible exact bshr_R | with_reducible exact bshl_R | omega) (by first | with_reducible exact hI_R | with_reducible exact lcm_R | with_reducible exact band_R | with_reducible exact bor_R | with_reducible exact bshr_R | with_reducible exact bshl_R | omega) (fun hc => ?_) (fun hc => ?_))) <;> (first | (exfalso; omega) | skip))
        | (show Rch _ _ _ _ _ 798 _ _ _; refine Rch.blk' (Rn_mono mt _ _) bl_L_law_798 (t_goto 827 rfl ?_))
        | (show Rch _ _ _ _ _ 801 _ _ _; refine Rch.blk' (Rn_mono mt _ _) bl_L_law_801 (i_iload rfl (i_iload rfl (t_if_ne 812 808 rfl rfl (by first | with_reducible exact hI_R | with_reducible exact lcm_R | with_reducible exact band_R | with_reducible exact bor_R | with_reducible exact bshr_R | with_reducible exact bshl_R | omega) (fun hc => ?_) (fun hc => ?_)))) <;> (first | (exfalso; omega) | skip))
        | (show Rch _ _ _ _ _ 808 _ _ _; refine Rch.blk' (Rn_mono mt _ _) bl_L_law_808 (i_iconst k_m1 (t_goto 814 rfl ?_)))
        | (show Rch _ _ _ _ _ 812 _ _ _; refine Rch.blk' (Rn_mono mt _ _) bl_L_law_812 (i_bipush k_m3 (t_none ?_)))
        | (show Rch _ _ _ _ _ 814 _ _ _; refine Rch.blk' (Rn_mono mt _ _) bl_L_law_814 (t_ic_ne 827 817 rfl rfl (by first | with_reducible exact hI_R | with_reducible exact lcm_R | with_reducible exact band_R | with_reducible exact bor_R | with_reducible exact bshr_R | with_reducible exact bshl_R | omega) (by first | with_reducible exact hI_R | with_reducible exact lcm_R | with_reducible exact band_R | with_reducible exact bor_R | with_reducible exact bshr_R | with_reducible exact bshl_R | omega) (fun hc => ?_) (fun hc => ?_)) <;> (first | (exfalso; omega) | skip))
        | (show Rch _ _ _ _ _ 817 _ _ _; refine Rch.blk' (Rn_mono mt _ _) bl_L_law_817 (i_aload_n rfl (t_cs1 (Rn_mono mt _ _) 821 rfl (Nat.le_of_ble_eq_true rfl) ?_))))
      refine k_sight hW hO hy (fun h hW => ?_)
      have hk := hk G h hO hy hW
      repeat' (first
        | exact hk _ _ _ _
        | (show Rn _ _ _ 77 _ _ _; refine c_L_cell rfl (by omega) (by omega) (by omega) (fun _ _ => ?_))
        | (show Rn _ _ _ 87 _ _ _; refine c_L_bits (fun _ _ => ?_))
        | (show Rch _ _ _ _ _ 821 _ _ _; refine Rch.blk' (Rn_mono mt _ _) bl_L_law_821 (i_lload rfl (i_lcmp (t_if_eq 1339 827 rfl rfl (by first | with_reducible exact hI_R | with_reducible exact lcm_R | with_reducible exact band_R | with_reducible exact bor_R | with_reducible exact bshr_R | with_reducible exact bshl_R | omega) (fun hc => ?_) (fun hc => ?_)))) <;> (first | (exfalso; omega) | skip))
        | (show Rch _ _ _ _ _ 827 _ _ _; refine Rch.blk' (Rn_mono mt _ _) bl_L_law_827 (i_iconst k_0 (t_zret (by omega) ?_))))
theorem lw_c4 (hk : CK d L Rt i) (hW : CW h G T Gi S) (hO : OKB G) (hy : dy G ≤ 999) (hK : OKS S) (hE : OKE S) (hp : (nn G = 0 ∧ p = 0) ∨ (0 ≤ p ∧ p < nn G)) (s0 : 0 ≤ s) (s1 : s < 36) : LR d L Rt 829 [some (ar 22 0), some (ar 2 0), some (ar 12 0), some (ai (I i)), some (ai (I q)), some (al (SGT G)), none, some (ai (I (nn G))), some (ai (I (BT (TS G)))), some (ai (I (BT (TS G)))), some (ai (I sds)), some (ai (I p)), some (ai (I s)), u13, u14, u15, u16, u17, u18, u19, u20, u21, u22] h := by
  have g_n := hO.n
  have e_l := @lcm_s (SGT G)
  have g_d := hO.2.2.2.1
  refine Rch.blk' (Rn_mono mt _ _) bl_L_law_829 (i_aload_n rfl (t_cv1 (Rn_mono mt _ _) 833 rfl (Nat.le_of_ble_eq_true rfl) ?_))
  refine k_image hW hO (fun h hW => ?_)
  refine Rch.blk' (Rn_mono mt _ _) bl_L_law_833 (i_istore13 trivial (i_aload_n rfl (i_bipush k_9 (t_cv2 (Rn_mono mt _ _) 841 rfl (Nat.le_of_ble_eq_true rfl) ?_))))
  obtain ⟨⟨v1, G1⟩, e1⟩ : ∃ x, oDays G 9 = x := ⟨_, rfl⟩
  obtain ⟨hO1, hy1⟩ := ok_days hO hy e1
  refine k_days hW hO hy (by omega) e1 (fun h hW => ?_)
  refine Rch.blk' (Rn_mono mt _ _) bl_L_law_841 (i_aload_n rfl (i_iload rfl (i_iload rfl (t_cv3 (Rn_mono mt _ _) 849 rfl (Nat.le_of_ble_eq_true rfl) ?_))))
  obtain ⟨⟨v2, G2⟩, e2⟩ : ∃ x, oStands G1 p s = x := ⟨_, rfl⟩
  obtain ⟨hO2, hy2⟩ := ok_stands hO1 hy1 e2
  refine k_stands hW hO1 (by omega) ⟨s0, s1⟩ e2 (fun h hW => ?_)
  refine Rch.blk' (Rn_mono mt _ _) bl_L_law_849 (i_iadd (i_aload_n rfl (i_iload rfl (t_cv2 (Rn_mono mt _ _) 856 rfl (Nat.le_of_ble_eq_true rfl) ?_))))
  obtain ⟨⟨v3, G3⟩, e3⟩ : ∃ x, oTakes G2 p = x := ⟨_, rfl⟩
  obtain ⟨hO3, hy3⟩ := ok_takes hO2 hy2 e3
  refine k_takes hW hO2 (by omega) e3 (fun h hW => ?_)
  refine Rch.blk' (Rn_mono mt _ _) bl_L_law_856 (i_iadd (i_aload_n rfl (i_iconst k_1 (t_cv2 (Rn_mono mt _ _) 862 rfl (Nat.le_of_ble_eq_true rfl) ?_))))
  obtain ⟨⟨v4, G4⟩, e4⟩ : ∃ x, oTurn G3 1 = x := ⟨_, rfl⟩
  obtain ⟨hO4, hy4⟩ := ok_turn hO3 hy3 e4
  refine k_turn hW hO3 (by omega) e4 (fun h hW => ?_)
  refine Rch.blk' (Rn_mono mt _ _) bl_L_law_862 (i_iadd (i_aload_n rfl (i_iconst k_1 (i_iconst k_1 (i_iconst k_4 (i_iconst k_2 (t_cv5 (Rn_mono mt _ _) 871 rfl (Nat.le_of_ble_eq_true rfl) ?_)))))))
  refine k_keep hW (fun v5 S' h e5 hW => ?_)
  have hK' := OKS_keep hK e5
  have hE' := OKE_keep hE e5
  refine Rch.blk' (Rn_mono mt _ _) bl_L_law_871 (i_iadd (i_aload_n rfl (i_iconst k_1 (i_iconst k_0 (i_iload rfl (t_cv4 (Rn_mono mt _ _) 880 rfl (Nat.le_of_ble_eq_true rfl) ?_))))))
  refine k_comes hW hO4 hK' ⟨s0, s1⟩ (fun v6 G6 h e6 hW => ?_)
  refine Rch.blk' (Rn_mono mt _ _) bl_L_law_880 (i_iadd (i_istore14 trivial (i_aload_n rfl (t_cv1 (Rn_mono mt _ _) 887 rfl (Nat.le_of_ble_eq_true rfl) ?_))))
  refine k_restore hW hO (fun h hW => ?_)
  repeat' (first
    | (show Rn _ _ _ 77 _ _ _; refine c_L_cell rfl (by omega) (by omega) (by omega) (fun _ _ => ?_))
    | (show Rn _ _ _ 87 _ _ _; refine c_L_bits (fun _ _ => ?_))
    | (show Rch _ _ _ _ _ 887 _ _ _; refine Rch.blk' (Rn_mono mt _ _) bl_L_law_887 (i_iload rfl (t_ic_ne 902 892 rfl rfl (by first | with_reducible exact hI_R | with_reducible exact lcm_R | with_reducible exact band_R | with_reducible exact bor_R | with_reducible exact bshr_R | with_reducible exact bshl_R | omega) (by first | with_reducible exact hI_R | with_reducible exact lcm_R | with_reducible exact band_R | with_reducible exact bor_R | with_reducible exact bshr_R | with_reducible exact bshl_R | omega) (fun hc => ?_) (fun hc => ?_))) <;> (first | (exfalso; omega) | skip))
    | (show Rch _ _ _ _ _ 892 _ _ _; refine Rch.blk' (Rn_mono mt _ _) bl_L_law_892 (i_aload_n rfl (t_cs1 (Rn_mono mt _ _) 896 rfl (Nat.le_of_ble_eq_true rfl) ?_))))
  refine k_sight hW hO hy (fun h hW => ?_)
  have hk := fun (x13 x14 : Option AV) => hk h (some (ai (I q))) (some (al (SGT G))) none (some (ai (I (nn G)))) (some (ai (I (BT (TS G))))) (some (ai (I (BT (TS G))))) (some (ai (I sds))) (some (ai (I p))) (some (ai (I s))) x13 x14 u15 u16 u17 u18 u19 u20 u21 u22 ⟨G, 1, G, S', hW, ⟨hO, hy⟩, Or.inr rfl, fun _ => ⟨hO, hy⟩, hK', hE'⟩
  repeat' (first
    | exact hk _ _
    | (show Rn _ _ _ 77 _ _ _; refine c_L_cell rfl (by omega) (by omega) (by omega) (fun _ _ => ?_))
    | (show Rn _ _ _ 87 _ _ _; refine c_L_bits (fun _ _ => ?_))
    | (show Rch _ _ _ _ _ 896 _ _ _; refine Rch.blk' (Rn_mono mt _ _) bl_L_law_896 (i_lload rfl (i_lcmp (t_if_eq 1339 902 rfl rfl (by first | with_reducible exact hI_R | with_reducible exact lcm_R | with_reducible exact band_R | with_reducible exact bor_R | with_reducible exact bshr_R | with_reducible exact bshl_R | omega) (fun hc => ?_) (fun hc => ?_)))) <;> (first | (exfalso; omega) | skip))
    | (show Rch _ _ _ _ _ 902 _ _ _; refine Rch.blk' (Rn_mono mt _ _) bl_L_law_902 (i_iconst k_0 (t_zret (by omega) ?_))))
theorem lw_c5 (hk : CK d L Rt i) (hW : CW h G T Gi S) (hO : OKB G) (hy : dy G ≤ 999) (hT : T = 0 ∨ T = 1) (hTi : T = 1 → OKB Gi ∧ dy Gi ≤ 999) (hK : OKS S) (hE : OKE S) : LR d L Rt 904 [some (ar 22 0), some (ar 2 0), some (ar 12 0), some (ai (I i)), some (ai (I q)), some (al (SGT G)), none, some (ai (I (nn G))), some (ai (I (BT (TS G)))), some (ai (I (BT (TS G)))), some (ai (I sds)), some (ai (I p)), some (ai (I s)), u13, u14, u15, u16, u17, u18, u19, u20, u21, u22] h := by
  have g_n := hO.n
  have e_l := @lcm_s (SGT G)
  have eD : oDays G 0 = (-1, G) := by unfold oDays; rw [if_neg (by omega)]
  have eT : oTurn G 2 = (-1, G) := by unfold oTurn; rw [if_neg (by omega)]
  have eN : vNext G 3 = -1 := by unfold vNext; rw [if_neg (by omega)]
  have eF : vFree G 3 = -1 := rfl
  have e00 : vThen G 0 0 = BT (TS G) := rfl
  have e20 : vThen G 20 0 = BT (TS (DN G no0 20)) := rfl
  have e21 : vThen G 20 1 = th (DN G no0 20) := rfl
  have eC : vCount G 3 = th G := rfl
  have eX : vFalls G (-1) = FF G := rfl
  have e_b : band (BT (TS (DN G no0 20))) (bxor (BT (TS G)) (-1)) = 0 := sub_0 (fun j j0 _ z => TS_DN hO (by omega) j0 z)
  have g_t := th_DN hO 20 (by omega)
  have g_b := @BT_R (TS G)
  have g_th := hO.2.2.1
  have g_th2 := (DN_f (M := no0) hO 20 (by omega)).1.2.2.1
  refine Rch.blk' (Rn_mono mt _ _) bl_L_law_904 (i_aload_n rfl (i_bipush k_10 (i_iconst k_0 (t_cv3 (Rn_mono mt _ _) 911 rfl (Nat.le_of_ble_eq_true rfl) ?_))))
  refine k_piece hW hO hy (by omega) (by omega) (pc_10 hO) (fun h hW => ?_)
  refine Rch.blk' (Rn_mono mt _ _) bl_L_law_911 (i_aload_n rfl (i_iconst k_0 (t_cv2 (Rn_mono mt _ _) 916 rfl (Nat.le_of_ble_eq_true rfl) ?_)))
  refine k_days hW hO hy (by omega) eD (fun h hW => ?_)
  refine Rch.blk' (Rn_mono mt _ _) bl_L_law_916 (i_iadd (i_aload_n rfl (i_iconst k_2 (t_cv2 (Rn_mono mt _ _) 922 rfl (Nat.le_of_ble_eq_true rfl) ?_))))
  refine k_turn hW hO (by omega) eT (fun h hW => ?_)
  refine Rch.blk' (Rn_mono mt _ _) bl_L_law_922 (i_iadd (i_aload_n rfl (i_iconst k_3 (t_cv2 (Rn_mono mt _ _) 928 rfl (Nat.le_of_ble_eq_true rfl) ?_))))
  refine k_next hW hO hy (by omega) eN (fun h hW => ?_)
  refine Rch.blk' (Rn_mono mt _ _) bl_L_law_928 (i_iadd (i_aload_n rfl (i_iconst k_3 (t_cv2 (Rn_mono mt _ _) 934 rfl (Nat.le_of_ble_eq_true rfl) ?_))))
  refine k_free hW hO hy (by omega) eF (fun h hW => ?_)
  refine Rch.blk' (Rn_mono mt _ _) bl_L_law_934 (i_iadd (i_aload_n rfl (i_bipush k_9 (t_cv2 (Rn_mono mt _ _) 941 rfl (Nat.le_of_ble_eq_true rfl) ?_))))
  refine k_game9 hW hO hy hK hE (fun h hW => ?_)
  refine Rch.blk' (Rn_mono mt _ _) bl_L_law_941 (i_iadd (i_istore13 trivial (i_aload_n rfl (i_bipush k_20 (i_iconst k_0 (t_cv3 (Rn_mono mt _ _) 951 rfl (Nat.le_of_ble_eq_true rfl) ?_))))))
  refine k_then hW hO hy (by omega) (by omega) e20 (fun h hW => ?_)
  refine Rch.blk' (Rn_mono mt _ _) bl_L_law_951 (i_aload_n rfl (t_cv1 (Rn_mono mt _ _) 955 rfl (Nat.le_of_ble_eq_true rfl) ?_))
  refine k_still hW hO hy (fun h hW => ?_)
  refine Rch.blk' (Rn_mono mt _ _) bl_L_law_955 (i_iadd (i_aload_n rfl (i_iconst k_3 (t_cv2 (Rn_mono mt _ _) 961 rfl (Nat.le_of_ble_eq_true rfl) ?_))))
  refine k_off hW hO hy (by omega) (fun h hW => ?_)
  refine Rch.blk' (Rn_mono mt _ _) bl_L_law_961 (i_iadd (i_aload_n rfl (i_iconst k_m1 (t_cv2 (Rn_mono mt _ _) 967 rfl (Nat.le_of_ble_eq_true rfl) ?_))))
  refine k_falls hW hO hy (by omega) eX (fun h hW => ?_)
  repeat' (first
    | (show Rn _ _ _ 77 _ _ _; refine c_L_cell rfl (by omega) (by omega) (by omega) (fun _ _ => ?_))
    | (show Rn _ _ _ 87 _ _ _; refine c_L_bits (fun _ _ => ?_))
    | (show Rch _ _ _ _ _ 967 _ _ _; refine Rch.blk' (Rn_mono mt _ _) bl_L_law_967 (i_iadd (i_istore14 trivial (i_iload rfl (i_bipush k_m6 (t_ic_ne 1028 977 rfl rfl (by first | with_reducible exact hI_R | with_reducible exact lcm_R | with_reducible exact band_R | with_reducible exact bor_R | with_reducible exact bshr_R | with_reducible exact bshl_R | omega) (by first | with_reducible exact hI_R | with_reducible exact lcm_R | with_reducible exact band_R | with_reducible exact bor_R | with_reducible exact bshr_R | with_reducible exact bshl_R | omega) (fun hc => ?_) (fun hc => ?_)))))) <;> (first | (exfalso; omega) | skip))
    | (show Rch _ _ _ _ _ 977 _ _ _; refine Rch.blk' (Rn_mono mt _ _) bl_L_law_977 (i_aload_n rfl (t_cs1 (Rn_mono mt _ _) 981 rfl (Nat.le_of_ble_eq_true rfl) ?_))))
  refine k_sight hW hO hy (fun h hW => ?_)
  repeat' (first
    | (show Rn _ _ _ 77 _ _ _; refine c_L_cell rfl (by omega) (by omega) (by omega) (fun _ _ => ?_))
    | (show Rn _ _ _ 87 _ _ _; refine c_L_bits (fun _ _ => ?_))
    | (show Rch _ _ _ _ _ 981 _ _ _; refine Rch.blk' (Rn_mono mt _ _) bl_L_law_981 (i_lload rfl (i_lcmp (t_if_ne 1028 987 rfl rfl (by first | with_reducible exact hI_R | with_reducible exact lcm_R | with_reducible exact band_R | with_reducible exact bor_R | with_reducible exact bshr_R | with_reducible exact bshl_R | omega) (fun hc => ?_) (fun hc => ?_)))) <;> (first | (exfalso; omega) | skip))
    | (show Rch _ _ _ _ _ 987 _ _ _; refine Rch.blk' (Rn_mono mt _ _) bl_L_law_987 (i_aload_n rfl (i_iconst k_0 (i_iconst k_0 (t_cv3 (Rn_mono mt _ _) 993 rfl (Nat.le_of_ble_eq_true rfl) ?_))))))
  refine k_then hW hO hy (by omega) (by omega) e00 (fun h hW => ?_)
  repeat' (first
    | (show Rn _ _ _ 77 _ _ _; refine c_L_cell rfl (by omega) (by omega) (by omega) (fun _ _ => ?_))
    | (show Rn _ _ _ 87 _ _ _; refine c_L_bits (fun _ _ => ?_))
    | (show Rch _ _ _ _ _ 993 _ _ _; refine Rch.blk' (Rn_mono mt _ _) bl_L_law_993 (i_iload rfl (t_ic_ne 1028 998 rfl rfl (by first | with_reducible exact hI_R | with_reducible exact lcm_R | with_reducible exact band_R | with_reducible exact bor_R | with_reducible exact bshr_R | with_reducible exact bshl_R | omega) (by first | with_reducible exact hI_R | with_reducible exact lcm_R | with_reducible exact band_R | with_reducible exact bor_R | with_reducible exact bshr_R | with_reducible exact bshl_R | omega) (fun hc => ?_) (fun hc => ?_))) <;> (first | (exfalso; omega) | skip))
    | (show Rch _ _ _ _ _ 998 _ _ _; refine Rch.blk' (Rn_mono mt _ _) bl_L_law_998 (i_aload_n rfl (i_bipush k_20 (i_iconst k_0 (t_cv3 (Rn_mono mt _ _) 1005 rfl (Nat.le_of_ble_eq_true rfl) ?_))))))
  refine k_then hW hO hy (by omega) (by omega) e20 (fun h hW => ?_)
  repeat' (first
    | (show Rn _ _ _ 77 _ _ _; refine c_L_cell rfl (by omega) (by omega) (by omega) (fun _ _ => ?_))
    | (show Rn _ _ _ 87 _ _ _; refine c_L_bits (fun _ _ => ?_))
    | (show Rch _ _ _ _ _ 1005 _ _ _; refine Rch.blk' (Rn_mono mt _ _) bl_L_law_1005 (i_iload rfl (i_iconst k_m1 (i_ixor (i_iand (t_if_ne 1028 1013 rfl rfl (by first | with_reducible exact hI_R | with_reducible exact lcm_R | with_reducible exact band_R | with_reducible exact bor_R | with_reducible exact bshr_R | with_reducible exact bshl_R | omega) (fun hc => ?_) (fun hc => ?_)))))) <;> (first | (exfalso; omega) | skip))
    | (show Rch _ _ _ _ _ 1013 _ _ _; refine Rch.blk' (Rn_mono mt _ _) bl_L_law_1013 (i_aload_n rfl (i_bipush k_20 (i_iconst k_1 (t_cv3 (Rn_mono mt _ _) 1020 rfl (Nat.le_of_ble_eq_true rfl) ?_))))))
  refine k_then hW hO hy (by omega) (by omega) e21 (fun h hW => ?_)
  refine Rch.blk' (Rn_mono mt _ _) bl_L_law_1020 (i_aload_n rfl (i_iconst k_3 (t_cv2 (Rn_mono mt _ _) 1025 rfl (Nat.le_of_ble_eq_true rfl) ?_)))
  refine k_count hW hO (by omega) eC (fun h hW => ?_)
  have hk := fun (x13 x14 : Option AV) => hk h (some (ai (I q))) (some (al (SGT G))) none (some (ai (I (nn G)))) (some (ai (I (BT (TS G))))) (some (ai (I (BT (TS G))))) (some (ai (I sds))) (some (ai (I p))) (some (ai (I s))) x13 x14 u15 u16 u17 u18 u19 u20 u21 u22 ⟨G, T, Gi, S, hW, ⟨hO, hy⟩, hT, hTi, hK, hE⟩
  repeat' (first
    | exact hk _ _
    | (show Rn _ _ _ 77 _ _ _; refine c_L_cell rfl (by omega) (by omega) (by omega) (fun _ _ => ?_))
    | (show Rn _ _ _ 87 _ _ _; refine c_L_bits (fun _ _ => ?_))
    | (show Rch _ _ _ _ _ 1025 _ _ _; refine Rch.blk' (Rn_mono mt _ _) bl_L_law_1025 (t_ic_ge 1339 1028 rfl rfl (by first | with_reducible exact hI_R | with_reducible exact lcm_R | with_reducible exact band_R | with_reducible exact bor_R | with_reducible exact bshr_R | with_reducible exact bshl_R | omega) (by first | with_reducible exact hI_R | with_reducible exact lcm_R | with_reducible exact band_R | with_reducible exact bor_R | with_reducible exact bshr_R | with_reducible exact bshl_R | omega) (fun hc => ?_) (fun hc => ?_)) <;> (first | (exfalso; omega) | skip))
    | (show Rch _ _ _ _ _ 1028 _ _ _; refine Rch.blk' (Rn_mono mt _ _) bl_L_law_1028 (i_iconst k_0 (t_zret (by omega) ?_))))
theorem lw_c6 (hk : CK d L Rt i) (hW : CW h G T Gi S) (hO : OKB G) (hy : dy G ≤ 999) (hT : T = 0 ∨ T = 1) (hTi : T = 1 → OKB Gi ∧ dy Gi ≤ 999) (hK : OKS S) (hE : OKE S) (hp : (nn G = 0 ∧ p = 0) ∨ (0 ≤ p ∧ p < nn G)) : LR d L Rt 1030 [some (ar 22 0), some (ar 2 0), some (ar 12 0), some (ai (I i)), some (ai (I q)), some (al (SGT G)), none, some (ai (I (nn G))), some (ai (I (BT (TS G)))), some (ai (I (BT (TS G)))), some (ai (I sds)), some (ai (I p)), some (ai (I s)), u13, u14, u15, u16, u17, u18, u19, u20, u21, u22] h := by
  have g_n := hO.n
  rcases hp with ⟨hn, rfl⟩ | ⟨p0, p1⟩
  · have hk := hk h (some (ai (I q))) (some (al (SGT G))) none (some (ai (I (nn G)))) (some (ai (I (BT (TS G))))) (some (ai (I (BT (TS G))))) (some (ai (I sds))) (some (ai (I 0))) (some (ai (I s))) u13 u14 u15 u16 u17 u18 u19 u20 u21 u22 ⟨G, T, Gi, S, hW, ⟨hO, hy⟩, hT, hTi, hK, hE⟩
    repeat' (first
      | exact hk
      | (show Rn _ _ _ 77 _ _ _; refine c_L_cell rfl (by omega) (by omega) (by omega) (fun _ _ => ?_))
      | (show Rn _ _ _ 87 _ _ _; refine c_L_bits (fun _ _ => ?_))
      | (show Rch _ _ _ _ _ 1030 _ _ _; refine Rch.blk' (Rn_mono mt _ _) bl_L_law_1030 (i_iload rfl (t_if_le 1339 1035 rfl rfl (by first | with_reducible exact hI_R | with_reducible exact lcm_R | with_reducible exact band_R | with_reducible exact bor_R | with_reducible exact bshr_R | with_reducible exact bshl_R | omega) (fun hc => ?_) (fun hc => ?_))) <;> (first | (exfalso; omega) | skip)))
  · have g_p := hO.pc p p0 p1
    have g_s : 0 ≤ sd G p ∧ sd G p ≤ 1 := by omega
    have e_h := b_has (P := TS G) p0 (by omega)
    have g_w := @wo_R (kd G p) (fg G p) (by omega) (by omega)
    have g_W := WO_R hO (sd G p)
    have g_b := @BT_R (TS G)
    obtain ⟨t1, t2⟩ := takes_v p0 p1
    obtain ⟨pv2, pv3, pv5, pv6⟩ := pc_v p0 p1
    by_cases hs : sq G p < 36
    · rw [ifp_p (show TS G p from ⟨p1, hs⟩)] at e_h
      rw [m4_p hs] at pv3
      have hO2 : OKB (mov G p 36) := OKB_off hO p
      have e36 : sq (mov G p 36) p = 36 := by rw [sq_mov, if_pos rfl]
      have eW := WO_off hO p0 p1 hs
      have eT := TS_off (G := G) p0 (by omega)
      have e6 : vPiece (mov G p 36) p 6 = -4 := by
        rw [(pc_v (G := mov G p 36) p0 p1).2.2.2, ideN, e36]; rfl
      have eF : vFalls (mov G p 36) p = 0 := falls_v (G := mov G p 36) p0 p1 e36
      repeat' (first
        | (show Rn _ _ _ 77 _ _ _; refine c_L_cell rfl (by omega) (by omega) (by omega) (fun _ _ => ?_))
        | (show Rn _ _ _ 87 _ _ _; refine c_L_bits (fun _ _ => ?_))
        | (show Rch _ _ _ _ _ 1030 _ _ _; refine Rch.blk' (Rn_mono mt _ _) bl_L_law_1030 (i_iload rfl (t_if_le 1339 1035 rfl rfl (by first | with_reducible exact hI_R | with_reducible exact lcm_R | with_reducible exact band_R | with_reducible exact bor_R | with_reducible exact bshr_R | with_reducible exact bshl_R | omega) (fun hc => ?_) (fun hc => ?_))) <;> (first | (exfalso; omega) | skip))
        | (show Rch _ _ _ _ _ 1035 _ _ _; refine Rch.blk' (Rn_mono mt _ _) bl_L_law_1035 (i_iload rfl (i_iload rfl (i_ishr (i_iconst k_1 (i_iand (i_iconst k_1 (t_ic_ne 1050 1046 rfl rfl (by first | with_reducible exact hI_R | with_reducible exact lcm_R | with_reducible exact band_R | with_reducible exact bor_R | with_reducible exact bshr_R | with_reducible exact bshl_R | omega) (by first | with_reducible exact hI_R | with_reducible exact lcm_R | with_reducible exact band_R | with_reducible exact bor_R | with_reducible exact bshr_R | with_reducible exact bshl_R | omega) (fun hc => ?_) (fun hc => ?_)))))))) <;> (first | (exfalso; omega) | skip))
        | (show Rch _ _ _ _ _ 1046 _ _ _; refine Rch.blk' (Rn_mono mt _ _) bl_L_law_1046 (i_iconst k_1 (t_goto 1051 rfl ?_)))
        | (show Rch _ _ _ _ _ 1050 _ _ _; refine Rch.blk' (Rn_mono mt _ _) bl_L_law_1050 (i_iconst k_0 (t_none ?_)))
        | (show Rch _ _ _ _ _ 1051 _ _ _; refine Rch.blk' (Rn_mono mt _ _) bl_L_law_1051 (i_istore13 trivial (i_aload_n rfl (i_iload rfl (i_iconst k_3 (t_cv3 (Rn_mono mt _ _) 1060 rfl (Nat.le_of_ble_eq_true rfl) ?_)))))))
      refine k_piece hW hO hy (by omega) (by omega) pv3 (fun h hW => ?_)
      refine Rch.blk' (Rn_mono mt _ _) bl_L_law_1060 (i_istore14 trivial (i_aload_n rfl (i_iload rfl (i_iconst k_5 (t_cv3 (Rn_mono mt _ _) 1069 rfl (Nat.le_of_ble_eq_true rfl) ?_)))))
      refine k_piece hW hO hy (by omega) (by omega) pv5 (fun h hW => ?_)
      refine Rch.blk' (Rn_mono mt _ _) bl_L_law_1069 (i_istore15 trivial (i_aload_n rfl (i_iload rfl (i_iconst k_2 (t_cv3 (Rn_mono mt _ _) 1078 rfl (Nat.le_of_ble_eq_true rfl) ?_)))))
      refine k_piece hW hO hy (by omega) (by omega) pv2 (fun h hW => ?_)
      refine Rch.blk' (Rn_mono mt _ _) bl_L_law_1078 (i_istore16 trivial (i_aload_n rfl (i_iload rfl (i_iconst k_1 (t_cv3 (Rn_mono mt _ _) 1087 rfl (Nat.le_of_ble_eq_true rfl) ?_)))))
      refine k_side hW hO g_s (by omega) (side_v g_p.2.2.1).2.1 (fun h hW => ?_)
      refine Rch.blk' (Rn_mono mt _ _) bl_L_law_1087 (i_istore17 trivial (i_aload_n rfl (i_iload rfl (t_cv2 (Rn_mono mt _ _) 1095 rfl (Nat.le_of_ble_eq_true rfl) ?_))))
      refine k_takes hW hO (by omega) (t1 hs) (fun h hW => ?_)
      repeat' (first
        | (show Rn _ _ _ 77 _ _ _; refine c_L_cell rfl (by omega) (by omega) (by omega) (fun _ _ => ?_))
        | (show Rn _ _ _ 87 _ _ _; refine c_L_bits (fun _ _ => ?_))
        | (show Rch _ _ _ _ _ 1095 _ _ _; refine Rch.blk' (Rn_mono mt _ _) bl_L_law_1095 (i_iload rfl (t_if_eq 1105 1100 rfl rfl (by first | with_reducible exact hI_R | with_reducible exact lcm_R | with_reducible exact band_R | with_reducible exact bor_R | with_reducible exact bshr_R | with_reducible exact bshl_R | omega) (fun hc => ?_) (fun hc => ?_))) <;> (first | (exfalso; omega) | skip))
        | (show Rch _ _ _ _ _ 1100 _ _ _; refine Rch.blk' (Rn_mono mt _ _) bl_L_law_1100 (i_iload rfl (t_goto 1107 rfl ?_)))
        | (show Rch _ _ _ _ _ 1105 _ _ _; refine Rch.blk' (Rn_mono mt _ _) bl_L_law_1105 (i_bipush k_m3 (t_none ?_)))
        | (show Rch _ _ _ _ _ 1107 _ _ _; refine Rch.blk' (Rn_mono mt _ _) bl_L_law_1107 (t_ic_ne 1174 1110 rfl rfl (by first | with_reducible exact hI_R | with_reducible exact lcm_R | with_reducible exact band_R | with_reducible exact bor_R | with_reducible exact bshr_R | with_reducible exact bshl_R | omega) (by first | with_reducible exact hI_R | with_reducible exact lcm_R | with_reducible exact band_R | with_reducible exact bor_R | with_reducible exact bshr_R | with_reducible exact bshl_R | omega) (fun hc => ?_) (fun hc => ?_)) <;> (first | (exfalso; omega) | skip))
        | (show Rch _ _ _ _ _ 1110 _ _ _; refine Rch.blk' (Rn_mono mt _ _) bl_L_law_1110 (i_aload_n rfl (i_iload rfl (t_cv2 (Rn_mono mt _ _) 1116 rfl (Nat.le_of_ble_eq_true rfl) ?_)))))
      refine k_falls hW hO2 hy (by omega) eF (fun h hW => ?_)
      repeat' (first
        | (show Rn _ _ _ 77 _ _ _; refine c_L_cell rfl (by omega) (by omega) (by omega) (fun _ _ => ?_))
        | (show Rn _ _ _ 87 _ _ _; refine c_L_bits (fun _ _ => ?_))
        | (show Rch _ _ _ _ _ 1116 _ _ _; refine Rch.blk' (Rn_mono mt _ _) bl_L_law_1116 (t_if_ne 1174 1119 rfl rfl (by first | with_reducible exact hI_R | with_reducible exact lcm_R | with_reducible exact band_R | with_reducible exact bor_R | with_reducible exact bshr_R | with_reducible exact bshl_R | omega) (fun hc => ?_) (fun hc => ?_)) <;> (first | (exfalso; omega) | skip))
        | (show Rch _ _ _ _ _ 1119 _ _ _; refine Rch.blk' (Rn_mono mt _ _) bl_L_law_1119 (i_aload_n rfl (i_iload rfl (i_iconst k_1 (t_cv3 (Rn_mono mt _ _) 1126 rfl (Nat.le_of_ble_eq_true rfl) ?_))))))
      refine k_side hW hO2 g_s (by omega) ((side_v g_p.2.2.1).2.1.trans eW) (fun h hW => ?_)
      repeat' (first
        | (show Rn _ _ _ 77 _ _ _; refine c_L_cell rfl (by omega) (by omega) (by omega) (fun _ _ => ?_))
        | (show Rn _ _ _ 87 _ _ _; refine c_L_bits (fun _ _ => ?_))
        | (show Rch _ _ _ _ _ 1126 _ _ _; refine Rch.blk' (Rn_mono mt _ _) bl_L_law_1126 (i_iload rfl (t_if_eq 1139 1131 rfl rfl (by first | with_reducible exact hI_R | with_reducible exact lcm_R | with_reducible exact band_R | with_reducible exact bor_R | with_reducible exact bshr_R | with_reducible exact bshl_R | omega) (fun hc => ?_) (fun hc => ?_))) <;> (first | (exfalso; omega) | skip))
        | (show Rch _ _ _ _ _ 1131 _ _ _; refine Rch.blk' (Rn_mono mt _ _) bl_L_law_1131 (i_iload rfl (i_iload rfl (i_isub (t_goto 1141 rfl ?_)))))
        | (show Rch _ _ _ _ _ 1139 _ _ _; refine Rch.blk' (Rn_mono mt _ _) bl_L_law_1139 (i_iload rfl (t_none ?_)))
        | (show Rch _ _ _ _ _ 1141 _ _ _; refine Rch.blk' (Rn_mono mt _ _) bl_L_law_1141 (t_ic_ne 1174 1144 rfl rfl (by first | with_reducible exact hI_R | with_reducible exact lcm_R | with_reducible exact band_R | with_reducible exact bor_R | with_reducible exact bshr_R | with_reducible exact bshl_R | omega) (by first | with_reducible exact hI_R | with_reducible exact lcm_R | with_reducible exact band_R | with_reducible exact bor_R | with_reducible exact bshr_R | with_reducible exact bshl_R | omega) (fun hc => ?_) (fun hc => ?_)) <;> (first | (exfalso; omega) | skip))
        | (show Rch _ _ _ _ _ 1144 _ _ _; refine Rch.blk' (Rn_mono mt _ _) bl_L_law_1144 (i_aload_n rfl (i_iconst k_4 (t_cv2 (Rn_mono mt _ _) 1149 rfl (Nat.le_of_ble_eq_true rfl) ?_)))))
      refine k_count hW hO2 (by omega) (v := BT (TS (mov G p 36))) rfl (fun h hW => ?_)
      rw [eT]
      repeat' (first
        | (show Rn _ _ _ 77 _ _ _; refine c_L_cell rfl (by omega) (by omega) (by omega) (fun _ _ => ?_))
        | (show Rn _ _ _ 87 _ _ _; refine c_L_bits (fun _ _ => ?_))
        | (show Rch _ _ _ _ _ 1149 _ _ _; refine Rch.blk' (Rn_mono mt _ _) bl_L_law_1149 (i_iload rfl (i_iconst k_1 (i_iload rfl (i_ishl (i_iconst k_m1 (i_ixor (i_iand (t_ic_ne 1174 1161 rfl rfl (by first | with_reducible exact hI_R | with_reducible exact lcm_R | with_reducible exact band_R | with_reducible exact bor_R | with_reducible exact bshr_R | with_reducible exact bshl_R | omega) (by first | with_reducible exact hI_R | with_reducible exact lcm_R | with_reducible exact band_R | with_reducible exact bor_R | with_reducible exact bshr_R | with_reducible exact bshl_R | omega) (fun hc => ?_) (fun hc => ?_))))))))) <;> (first | (exfalso; omega) | skip))
        | (show Rch _ _ _ _ _ 1161 _ _ _; refine Rch.blk' (Rn_mono mt _ _) bl_L_law_1161 (i_aload_n rfl (i_iload rfl (i_bipush k_6 (t_cv3 (Rn_mono mt _ _) 1169 rfl (Nat.le_of_ble_eq_true rfl) ?_))))))
      refine k_piece hW hO2 hy (by omega) (by omega) e6 (fun h hW => ?_)
      have hk := fun (x13 x14 x15 x16 x17 : Option AV) => hk h (some (ai (I q))) (some (al (SGT G))) none (some (ai (I (nn G)))) (some (ai (I (BT (TS G))))) (some (ai (I (BT (TS G))))) (some (ai (I sds))) (some (ai (I p))) (some (ai (I s))) x13 x14 x15 x16 x17 u18 u19 u20 u21 u22 ⟨mov G p 36, T, Gi, S, hW, ⟨hO2, hy⟩, hT, hTi, hK, hE⟩
      repeat' (first
        | exact hk _ _ _ _ _
        | (show Rn _ _ _ 77 _ _ _; refine c_L_cell rfl (by omega) (by omega) (by omega) (fun _ _ => ?_))
        | (show Rn _ _ _ 87 _ _ _; refine c_L_bits (fun _ _ => ?_))
        | (show Rch _ _ _ _ _ 1169 _ _ _; refine Rch.blk' (Rn_mono mt _ _) bl_L_law_1169 (i_bipush k_m4 (t_ic_eq 1176 1174 rfl rfl (by first | with_reducible exact hI_R | with_reducible exact lcm_R | with_reducible exact band_R | with_reducible exact bor_R | with_reducible exact bshr_R | with_reducible exact bshl_R | omega) (by first | with_reducible exact hI_R | with_reducible exact lcm_R | with_reducible exact band_R | with_reducible exact bor_R | with_reducible exact bshr_R | with_reducible exact bshl_R | omega) (fun hc => ?_) (fun hc => ?_))) <;> (first | (exfalso; omega) | skip))
        | (show Rch _ _ _ _ _ 1174 _ _ _; refine Rch.blk' (Rn_mono mt _ _) bl_L_law_1174 (i_iconst k_0 (t_zret (by omega) ?_)))
        | (show Rch _ _ _ _ _ 1176 _ _ _; refine Rch.blk' (Rn_mono mt _ _) bl_L_law_1176 (t_goto 1339 rfl ?_)))
    · rw [ifp_n (fun z : TS G p => hs z.2)] at e_h
      rw [m4_n (by omega)] at pv3
      have eT := TS_no (G := G) p0 (by omega) hs
      have e6 : vPiece G p 6 = -4 := by rw [pv6, ideN, if_neg hs]
      have eF : vFalls G p = 0 := falls_v p0 p1 (by omega)
      repeat' (first
        | (show Rn _ _ _ 77 _ _ _; refine c_L_cell rfl (by omega) (by omega) (by omega) (fun _ _ => ?_))
        | (show Rn _ _ _ 87 _ _ _; refine c_L_bits (fun _ _ => ?_))
        | (show Rch _ _ _ _ _ 1030 _ _ _; refine Rch.blk' (Rn_mono mt _ _) bl_L_law_1030 (i_iload rfl (t_if_le 1339 1035 rfl rfl (by first | with_reducible exact hI_R | with_reducible exact lcm_R | with_reducible exact band_R | with_reducible exact bor_R | with_reducible exact bshr_R | with_reducible exact bshl_R | omega) (fun hc => ?_) (fun hc => ?_))) <;> (first | (exfalso; omega) | skip))
        | (show Rch _ _ _ _ _ 1035 _ _ _; refine Rch.blk' (Rn_mono mt _ _) bl_L_law_1035 (i_iload rfl (i_iload rfl (i_ishr (i_iconst k_1 (i_iand (i_iconst k_1 (t_ic_ne 1050 1046 rfl rfl (by first | with_reducible exact hI_R | with_reducible exact lcm_R | with_reducible exact band_R | with_reducible exact bor_R | with_reducible exact bshr_R | with_reducible exact bshl_R | omega) (by first | with_reducible exact hI_R | with_reducible exact lcm_R | with_reducible exact band_R | with_reducible exact bor_R | with_reducible exact bshr_R | with_reducible exact bshl_R | omega) (fun hc => ?_) (fun hc => ?_)))))))) <;> (first | (exfalso; omega) | skip))
        | (show Rch _ _ _ _ _ 1046 _ _ _; refine Rch.blk' (Rn_mono mt _ _) bl_L_law_1046 (i_iconst k_1 (t_goto 1051 rfl ?_)))
        | (show Rch _ _ _ _ _ 1050 _ _ _; refine Rch.blk' (Rn_mono mt _ _) bl_L_law_1050 (i_iconst k_0 (t_none ?_)))
        | (show Rch _ _ _ _ _ 1051 _ _ _; refine Rch.blk' (Rn_mono mt _ _) bl_L_law_1051 (i_istore13 trivial (i_aload_n rfl (i_iload rfl (i_iconst k_3 (t_cv3 (Rn_mono mt _ _) 1060 rfl (Nat.le_of_ble_eq_true rfl) ?_)))))))
      refine k_piece hW hO hy (by omega) (by omega) pv3 (fun h hW => ?_)
      refine Rch.blk' (Rn_mono mt _ _) bl_L_law_1060 (i_istore14 trivial (i_aload_n rfl (i_iload rfl (i_iconst k_5 (t_cv3 (Rn_mono mt _ _) 1069 rfl (Nat.le_of_ble_eq_true rfl) ?_)))))
      refine k_piece hW hO hy (by omega) (by omega) pv5 (fun h hW => ?_)
      refine Rch.blk' (Rn_mono mt _ _) bl_L_law_1069 (i_istore15 trivial (i_aload_n rfl (i_iload rfl (i_iconst k_2 (t_cv3 (Rn_mono mt _ _) 1078 rfl (Nat.le_of_ble_eq_true rfl) ?_)))))
      refine k_piece hW hO hy (by omega) (by omega) pv2 (fun h hW => ?_)
      refine Rch.blk' (Rn_mono mt _ _) bl_L_law_1078 (i_istore16 trivial (i_aload_n rfl (i_iload rfl (i_iconst k_1 (t_cv3 (Rn_mono mt _ _) 1087 rfl (Nat.le_of_ble_eq_true rfl) ?_)))))
      refine k_side hW hO g_s (by omega) (side_v g_p.2.2.1).2.1 (fun h hW => ?_)
      refine Rch.blk' (Rn_mono mt _ _) bl_L_law_1087 (i_istore17 trivial (i_aload_n rfl (i_iload rfl (t_cv2 (Rn_mono mt _ _) 1095 rfl (Nat.le_of_ble_eq_true rfl) ?_))))
      refine k_takes hW hO (by omega) (t2 hs) (fun h hW => ?_)
      repeat' (first
        | (show Rn _ _ _ 77 _ _ _; refine c_L_cell rfl (by omega) (by omega) (by omega) (fun _ _ => ?_))
        | (show Rn _ _ _ 87 _ _ _; refine c_L_bits (fun _ _ => ?_))
        | (show Rch _ _ _ _ _ 1095 _ _ _; refine Rch.blk' (Rn_mono mt _ _) bl_L_law_1095 (i_iload rfl (t_if_eq 1105 1100 rfl rfl (by first | with_reducible exact hI_R | with_reducible exact lcm_R | with_reducible exact band_R | with_reducible exact bor_R | with_reducible exact bshr_R | with_reducible exact bshl_R | omega) (fun hc => ?_) (fun hc => ?_))) <;> (first | (exfalso; omega) | skip))
        | (show Rch _ _ _ _ _ 1100 _ _ _; refine Rch.blk' (Rn_mono mt _ _) bl_L_law_1100 (i_iload rfl (t_goto 1107 rfl ?_)))
        | (show Rch _ _ _ _ _ 1105 _ _ _; refine Rch.blk' (Rn_mono mt _ _) bl_L_law_1105 (i_bipush k_m3 (t_none ?_)))
        | (show Rch _ _ _ _ _ 1107 _ _ _; refine Rch.blk' (Rn_mono mt _ _) bl_L_law_1107 (t_ic_ne 1174 1110 rfl rfl (by first | with_reducible exact hI_R | with_reducible exact lcm_R | with_reducible exact band_R | with_reducible exact bor_R | with_reducible exact bshr_R | with_reducible exact bshl_R | omega) (by first | with_reducible exact hI_R | with_reducible exact lcm_R | with_reducible exact band_R | with_reducible exact bor_R | with_reducible exact bshr_R | with_reducible exact bshl_R | omega) (fun hc => ?_) (fun hc => ?_)) <;> (first | (exfalso; omega) | skip))
        | (show Rch _ _ _ _ _ 1110 _ _ _; refine Rch.blk' (Rn_mono mt _ _) bl_L_law_1110 (i_aload_n rfl (i_iload rfl (t_cv2 (Rn_mono mt _ _) 1116 rfl (Nat.le_of_ble_eq_true rfl) ?_)))))
      refine k_falls hW hO hy (by omega) eF (fun h hW => ?_)
      repeat' (first
        | (show Rn _ _ _ 77 _ _ _; refine c_L_cell rfl (by omega) (by omega) (by omega) (fun _ _ => ?_))
        | (show Rn _ _ _ 87 _ _ _; refine c_L_bits (fun _ _ => ?_))
        | (show Rch _ _ _ _ _ 1116 _ _ _; refine Rch.blk' (Rn_mono mt _ _) bl_L_law_1116 (t_if_ne 1174 1119 rfl rfl (by first | with_reducible exact hI_R | with_reducible exact lcm_R | with_reducible exact band_R | with_reducible exact bor_R | with_reducible exact bshr_R | with_reducible exact bshl_R | omega) (fun hc => ?_) (fun hc => ?_)) <;> (first | (exfalso; omega) | skip))
        | (show Rch _ _ _ _ _ 1119 _ _ _; refine Rch.blk' (Rn_mono mt _ _) bl_L_law_1119 (i_aload_n rfl (i_iload rfl (i_iconst k_1 (t_cv3 (Rn_mono mt _ _) 1126 rfl (Nat.le_of_ble_eq_true rfl) ?_))))))
      refine k_side hW hO g_s (by omega) (side_v g_p.2.2.1).2.1 (fun h hW => ?_)
      repeat' (first
        | (show Rn _ _ _ 77 _ _ _; refine c_L_cell rfl (by omega) (by omega) (by omega) (fun _ _ => ?_))
        | (show Rn _ _ _ 87 _ _ _; refine c_L_bits (fun _ _ => ?_))
        | (show Rch _ _ _ _ _ 1126 _ _ _; refine Rch.blk' (Rn_mono mt _ _) bl_L_law_1126 (i_iload rfl (t_if_eq 1139 1131 rfl rfl (by first | with_reducible exact hI_R | with_reducible exact lcm_R | with_reducible exact band_R | with_reducible exact bor_R | with_reducible exact bshr_R | with_reducible exact bshl_R | omega) (fun hc => ?_) (fun hc => ?_))) <;> (first | (exfalso; omega) | skip))
        | (show Rch _ _ _ _ _ 1131 _ _ _; refine Rch.blk' (Rn_mono mt _ _) bl_L_law_1131 (i_iload rfl (i_iload rfl (i_isub (t_goto 1141 rfl ?_)))))
        | (show Rch _ _ _ _ _ 1139 _ _ _; refine Rch.blk' (Rn_mono mt _ _) bl_L_law_1139 (i_iload rfl (t_none ?_)))
        | (show Rch _ _ _ _ _ 1141 _ _ _; refine Rch.blk' (Rn_mono mt _ _) bl_L_law_1141 (t_ic_ne 1174 1144 rfl rfl (by first | with_reducible exact hI_R | with_reducible exact lcm_R | with_reducible exact band_R | with_reducible exact bor_R | with_reducible exact bshr_R | with_reducible exact bshl_R | omega) (by first | with_reducible exact hI_R | with_reducible exact lcm_R | with_reducible exact band_R | with_reducible exact bor_R | with_reducible exact bshr_R | with_reducible exact bshl_R | omega) (fun hc => ?_) (fun hc => ?_)) <;> (first | (exfalso; omega) | skip))
        | (show Rch _ _ _ _ _ 1144 _ _ _; refine Rch.blk' (Rn_mono mt _ _) bl_L_law_1144 (i_aload_n rfl (i_iconst k_4 (t_cv2 (Rn_mono mt _ _) 1149 rfl (Nat.le_of_ble_eq_true rfl) ?_)))))
      refine k_count hW hO (by omega) (v := BT (TS G)) rfl (fun h hW => ?_)
      repeat' (first
        | (show Rn _ _ _ 77 _ _ _; refine c_L_cell rfl (by omega) (by omega) (by omega) (fun _ _ => ?_))
        | (show Rn _ _ _ 87 _ _ _; refine c_L_bits (fun _ _ => ?_))
        | (show Rch _ _ _ _ _ 1149 _ _ _; refine Rch.blk' (Rn_mono mt _ _) bl_L_law_1149 (i_iload rfl (i_iconst k_1 (i_iload rfl (i_ishl (i_iconst k_m1 (i_ixor (i_iand (t_ic_ne 1174 1161 rfl rfl (by first | with_reducible exact hI_R | with_reducible exact lcm_R | with_reducible exact band_R | with_reducible exact bor_R | with_reducible exact bshr_R | with_reducible exact bshl_R | omega) (by first | with_reducible exact hI_R | with_reducible exact lcm_R | with_reducible exact band_R | with_reducible exact bor_R | with_reducible exact bshr_R | with_reducible exact bshl_R | omega) (fun hc => ?_) (fun hc => ?_))))))))) <;> (first | (exfalso; omega) | skip))
        | (show Rch _ _ _ _ _ 1161 _ _ _; refine Rch.blk' (Rn_mono mt _ _) bl_L_law_1161 (i_aload_n rfl (i_iload rfl (i_bipush k_6 (t_cv3 (Rn_mono mt _ _) 1169 rfl (Nat.le_of_ble_eq_true rfl) ?_))))))
      refine k_piece hW hO hy (by omega) (by omega) e6 (fun h hW => ?_)
      have hk := fun (x13 x14 x15 x16 x17 : Option AV) => hk h (some (ai (I q))) (some (al (SGT G))) none (some (ai (I (nn G)))) (some (ai (I (BT (TS G))))) (some (ai (I (BT (TS G))))) (some (ai (I sds))) (some (ai (I p))) (some (ai (I s))) x13 x14 x15 x16 x17 u18 u19 u20 u21 u22 ⟨G, T, Gi, S, hW, ⟨hO, hy⟩, hT, hTi, hK, hE⟩
      repeat' (first
        | exact hk _ _ _ _ _
        | (show Rn _ _ _ 77 _ _ _; refine c_L_cell rfl (by omega) (by omega) (by omega) (fun _ _ => ?_))
        | (show Rn _ _ _ 87 _ _ _; refine c_L_bits (fun _ _ => ?_))
        | (show Rch _ _ _ _ _ 1169 _ _ _; refine Rch.blk' (Rn_mono mt _ _) bl_L_law_1169 (i_bipush k_m4 (t_ic_eq 1176 1174 rfl rfl (by first | with_reducible exact hI_R | with_reducible exact lcm_R | with_reducible exact band_R | with_reducible exact bor_R | with_reducible exact bshr_R | with_reducible exact bshl_R | omega) (by first | with_reducible exact hI_R | with_reducible exact lcm_R | with_reducible exact band_R | with_reducible exact bor_R | with_reducible exact bshr_R | with_reducible exact bshl_R | omega) (fun hc => ?_) (fun hc => ?_))) <;> (first | (exfalso; omega) | skip))
        | (show Rch _ _ _ _ _ 1174 _ _ _; refine Rch.blk' (Rn_mono mt _ _) bl_L_law_1174 (i_iconst k_0 (t_zret (by omega) ?_)))
        | (show Rch _ _ _ _ _ 1176 _ _ _; refine Rch.blk' (Rn_mono mt _ _) bl_L_law_1176 (t_goto 1339 rfl ?_)))
theorem lw_c7 (hk : CK d L Rt i) (hW : CW h G T Gi S) (hO : OKB G) (hy : dy G ≤ 999) (hT : T = 0 ∨ T = 1) (hTi : T = 1 → OKB Gi ∧ dy Gi ≤ 999) (hK : OKS S) (hE : OKE S) (hp : (nn G = 0 ∧ p = 0) ∨ (0 ≤ p ∧ p < nn G)) : LR d L Rt 1179 [some (ar 22 0), some (ar 2 0), some (ar 12 0), some (ai (I i)), some (ai (I q)), some (al (SGT G)), none, some (ai (I (nn G))), some (ai (I (BT (TS G)))), some (ai (I (BT (TS G)))), some (ai (I sds)), some (ai (I p)), some (ai (I s)), u13, u14, u15, u16, u17, u18, u19, u20, u21, u22] h := by
  have g_n := hO.n
  have hk0 := hk h (some (ai (I q))) (some (al (SGT G))) none (some (ai (I (nn G)))) (some (ai (I (BT (TS G))))) (some (ai (I (BT (TS G))))) (some (ai (I sds))) (some (ai (I p))) (some (ai (I s))) u13 u14 u15 u16 u17 u18 u19 u20 u21 u22 ⟨G, T, Gi, S, hW, ⟨hO, hy⟩, hT, hTi, hK, hE⟩
  rcases hp with ⟨hn, rfl⟩ | ⟨p0, p1⟩
  · skip
    repeat' (first
      | exact hk0
      | (show Rn _ _ _ 77 _ _ _; refine c_L_cell rfl (by omega) (by omega) (by omega) (fun _ _ => ?_))
      | (show Rn _ _ _ 87 _ _ _; refine c_L_bits (fun _ _ => ?_))
      | (show Rch _ _ _ _ _ 1179 _ _ _; refine Rch.blk' (Rn_mono mt _ _) bl_L_law_1179 (i_iload rfl (t_if_le 1339 1184 rfl rfl (by first | with_reducible exact hI_R | with_reducible exact lcm_R | with_reducible exact band_R | with_reducible exact bor_R | with_reducible exact bshr_R | with_reducible exact bshl_R | omega) (fun hc => ?_) (fun hc => ?_))) <;> (first | (exfalso; omega) | skip)))
  · have g_p := hO.pc p p0 p1
    have e_h := b_has (P := TS G) p0 (by omega)
    by_cases hs : sq G p < 36
    · clear hk0
      rw [ifp_p (show TS G p from ⟨p1, hs⟩)] at e_h
      have pv2 := (pc_v p0 p1).1
      obtain ⟨sv0, sv1⟩ := stand_v p0 p1 hs
      obtain ⟨tw2, tw3⟩ := @then_w G (sd G p) g_p.2.2.1
      have g1 := st_ge (n := 3) hO p0 p1 hs
      have g2 := GB_R (C := stC G p) (w := stW G p 3) 36 (by omega)
      have g3 := GB_max (C := stC G p) (w := stW G p 3) (j := sq G p) g_p.2.2.2.1 (Or.inr (ons_at hO p0 p1 hs)) 36 (by omega) hs
      have e_m : stW G p 3 (sq G p) = WO (DN G no0 3) (sd G p) - WO (DN G no0 3) (1 - sd G p) := by unfold stW; rw [mov_id]
      have e_t : stW G p 3 (GB (stC G p) (stW G p 3) 36) = WO (DN (mov G p (GB (stC G p) (stW G p 3) 36)) no0 3) (sd G p) - WO (DN (mov G p (GB (stC G p) (stW G p 3) 36)) no0 3) (1 - sd G p) := rfl
      generalize GB (stC G p) (stW G p 3) 36 = t at sv0 sv1 g1 g2 g3 e_t
      obtain ⟨t1, tC⟩ : t < 36 ∧ stC G p t := by
        rcases g2 with e | ⟨-, e1, e2⟩
        · omega
        · exact ⟨e1, e2⟩
      have hRw := stW_R (n := 3) hO g1 t1 (by omega) tC
      have hO2 : OKB (mov G p t) := OKB_st hO g1 t1 tC
      have hD := (DN_f (M := no0) hO 3 (by omega)).1
      have hD2 := (DN_f (M := no0) hO2 3 (by omega)).1
      have w1 := WO_R hD (sd G p)
      have w2 := WO_R hD (1 - sd G p)
      have w3 := WO_R hD2 (sd G p)
      have w4 := WO_R hD2 (1 - sd G p)
      obtain ⟨tx2, tx3⟩ := @then_w (mov G p t) (sd G p) g_p.2.2.1
      have e_hp : band (bshr (BT (HS G 0 p)) p) 1 = 1 := by rw [b_has p0 (by omega)]; exact ifp_p ⟨p1, Or.inl rfl⟩
      have e_hs : band (BT (HS G 0 p)) (bxor (BT (TS G)) (-1)) = 0 := sub_0 (fun j _ _ z => ⟨z.1, z.2.elim (fun e => by rw [e]; exact hs) (fun e => e.2.1)⟩)
      have tC2 : ons G t = -4 ∨ ons G t = p := tC
      have vS := (@stands_v G p t g1 t1).2.1 ⟨p0, p1⟩ tC
      rw [m4_p hs] at vS
      repeat' (first
        | (show Rn _ _ _ 77 _ _ _; refine c_L_cell rfl (by omega) (by omega) (by omega) (fun _ _ => ?_))
        | (show Rn _ _ _ 87 _ _ _; refine c_L_bits (fun _ _ => ?_))
        | (show Rch _ _ _ _ _ 1179 _ _ _; refine Rch.blk' (Rn_mono mt _ _) bl_L_law_1179 (i_iload rfl (t_if_le 1339 1184 rfl rfl (by first | with_reducible exact hI_R | with_reducible exact lcm_R | with_reducible exact band_R | with_reducible exact bor_R | with_reducible exact bshr_R | with_reducible exact bshl_R | omega) (fun hc => ?_) (fun hc => ?_))) <;> (first | (exfalso; omega) | skip))
        | (show Rch _ _ _ _ _ 1184 _ _ _; refine Rch.blk' (Rn_mono mt _ _) bl_L_law_1184 (i_iload rfl (i_iload rfl (i_ishr (i_iconst k_1 (i_iand (i_iconst k_1 (t_ic_ne 1339 1195 rfl rfl (by first | with_reducible exact hI_R | with_reducible exact lcm_R | with_reducible exact band_R | with_reducible exact bor_R | with_reducible exact bshr_R | with_reducible exact bshl_R | omega) (by first | with_reducible exact hI_R | with_reducible exact lcm_R | with_reducible exact band_R | with_reducible exact bor_R | with_reducible exact bshr_R | with_reducible exact bshl_R | omega) (fun hc => ?_) (fun hc => ?_)))))))) <;> (first | (exfalso; omega) | skip))
        | (show Rch _ _ _ _ _ 1195 _ _ _; refine Rch.blk' (Rn_mono mt _ _) bl_L_law_1195 (i_aload_n rfl (i_iload rfl (t_cv2 (Rn_mono mt _ _) 1201 rfl (Nat.le_of_ble_eq_true rfl) ?_)))))
      refine k_heard hW hO p0 p1 hs (fun h hW => ?_)
      refine Rch.blk' (Rn_mono mt _ _) bl_L_law_1201 (i_istore13 trivial (i_aload_n rfl (i_iload rfl (i_iconst k_3 (i_iconst k_0 (t_cv4 (Rn_mono mt _ _) 1211 rfl (Nat.le_of_ble_eq_true rfl) ?_))))))
      refine k_stand hW hO hy (by omega) (by omega) (by omega) sv0 (fun h hW => ?_)
      refine Rch.blk' (Rn_mono mt _ _) bl_L_law_1211 (i_istore14 trivial (i_aload_n rfl (i_iload rfl (i_iconst k_3 (i_iconst k_1 (t_cv4 (Rn_mono mt _ _) 1221 rfl (Nat.le_of_ble_eq_true rfl) ?_))))))
      refine k_stand hW hO hy (by omega) (by omega) (by omega) sv1 (fun h hW => ?_)
      refine Rch.blk' (Rn_mono mt _ _) bl_L_law_1221 (i_istore15 trivial (i_aload_n rfl (i_iload rfl (i_iconst k_2 (t_cv3 (Rn_mono mt _ _) 1230 rfl (Nat.le_of_ble_eq_true rfl) ?_)))))
      refine k_piece hW hO hy (by omega) (by omega) pv2 (fun h hW => ?_)
      repeat' (first
        | (show Rn _ _ _ 77 _ _ _; refine c_L_cell rfl (by omega) (by omega) (by omega) (fun _ _ => ?_))
        | (show Rn _ _ _ 87 _ _ _; refine c_L_bits (fun _ _ => ?_))
        | (show Rch _ _ _ _ _ 1230 _ _ _; refine Rch.blk' (Rn_mono mt _ _) bl_L_law_1230 (i_istore16 trivial (i_iload rfl (i_iload rfl (i_ishr (i_iconst k_1 (i_iand (t_if_eq 1337 1242 rfl rfl (by first | with_reducible exact hI_R | with_reducible exact lcm_R | with_reducible exact band_R | with_reducible exact bor_R | with_reducible exact bshr_R | with_reducible exact bshl_R | omega) (fun hc => ?_) (fun hc => ?_)))))))) <;> (first | (exfalso; omega) | skip))
        | (show Rch _ _ _ _ _ 1242 _ _ _; refine Rch.blk' (Rn_mono mt _ _) bl_L_law_1242 (i_iload rfl (i_iload rfl (i_iconst k_m1 (i_ixor (i_iand (t_if_ne 1337 1252 rfl rfl (by first | with_reducible exact hI_R | with_reducible exact lcm_R | with_reducible exact band_R | with_reducible exact bor_R | with_reducible exact bshr_R | with_reducible exact bshl_R | omega) (fun hc => ?_) (fun hc => ?_))))))) <;> (first | (exfalso; omega) | skip))
        | (show Rch _ _ _ _ _ 1252 _ _ _; refine Rch.blk' (Rn_mono mt _ _) bl_L_law_1252 (i_aload_n rfl (i_iload rfl (t_cv2 (Rn_mono mt _ _) 1258 rfl (Nat.le_of_ble_eq_true rfl) ?_)))))
      refine k_on hW hO ⟨g1, t1⟩ (fun h hW => ?_)
      have kM : ∀ h : Mem, CW h G T Gi S → LR d L Rt 1272 [some (ar 22 0), some (ar 2 0), some (ar 12 0), some (ai (I i)), some (ai (I q)), some (al (SGT G)), none, some (ai (I (nn G))), some (ai (I (BT (TS G)))), some (ai (I (BT (TS G)))), some (ai (I sds)), some (ai (I p)), some (ai (I s)), some (ai (I (BT (HS G 0 p)))), some (ai (I t)), some (ai (I (stW G p 3 t + 100))), some (ai (I (sd G p))), u17, u18, u19, u20, u21, u22] h := by
        intro h hW
        refine Rch.blk' (Rn_mono mt _ _) bl_L_law_1272 (i_aload_n rfl (i_iconst k_3 (i_iconst k_2 (i_iload rfl (i_iadd (t_cv3 (Rn_mono mt _ _) 1281 rfl (Nat.le_of_ble_eq_true rfl) ?_))))))
        refine k_then hW hO hy (by omega) (by omega) tw2 (fun h hW => ?_)
        refine Rch.blk' (Rn_mono mt _ _) bl_L_law_1281 (i_aload_n rfl (i_iconst k_3 (i_iconst k_3 (i_iload rfl (i_isub (t_cv3 (Rn_mono mt _ _) 1290 rfl (Nat.le_of_ble_eq_true rfl) ?_))))))
        refine k_then hW hO hy (by omega) (by omega) tw3 (fun h hW => ?_)
        repeat' (first
          | (show Rn _ _ _ 77 _ _ _; refine c_L_cell rfl (by omega) (by omega) (by omega) (fun _ _ => ?_))
          | (show Rn _ _ _ 87 _ _ _; refine c_L_bits (fun _ _ => ?_))
          | (show Rch _ _ _ _ _ 1290 _ _ _; refine Rch.blk' (Rn_mono mt _ _) bl_L_law_1290 (i_isub (i_bipush k_100 (i_iadd (i_iload rfl (t_ic_gt 1337 1299 rfl rfl (by first | with_reducible exact hI_R | with_reducible exact lcm_R | with_reducible exact band_R | with_reducible exact bor_R | with_reducible exact bshr_R | with_reducible exact bshl_R | omega) (by first | with_reducible exact hI_R | with_reducible exact lcm_R | with_reducible exact band_R | with_reducible exact bor_R | with_reducible exact bshr_R | with_reducible exact bshl_R | omega) (fun hc => ?_) (fun hc => ?_)))))) <;> (first | (exfalso; omega) | skip))
          | (show Rch _ _ _ _ _ 1299 _ _ _; refine Rch.blk' (Rn_mono mt _ _) bl_L_law_1299 (i_aload_n rfl (i_iload rfl (i_iload rfl (t_cv3 (Rn_mono mt _ _) 1307 rfl (Nat.le_of_ble_eq_true rfl) ?_))))))
        refine k_stands hW hO (by omega) ⟨g1, t1⟩ vS (fun h hW => ?_)
        repeat' (first
          | (show Rn _ _ _ 77 _ _ _; refine c_L_cell rfl (by omega) (by omega) (by omega) (fun _ _ => ?_))
          | (show Rn _ _ _ 87 _ _ _; refine c_L_bits (fun _ _ => ?_))
          | (show Rch _ _ _ _ _ 1307 _ _ _; refine Rch.blk' (Rn_mono mt _ _) bl_L_law_1307 (t_if_lt 1337 1310 rfl rfl (by first | with_reducible exact hI_R | with_reducible exact lcm_R | with_reducible exact band_R | with_reducible exact bor_R | with_reducible exact bshr_R | with_reducible exact bshl_R | omega) (fun hc => ?_) (fun hc => ?_)) <;> (first | (exfalso; omega) | skip))
          | (show Rch _ _ _ _ _ 1310 _ _ _; refine Rch.blk' (Rn_mono mt _ _) bl_L_law_1310 (i_aload_n rfl (i_iconst k_3 (i_iconst k_2 (i_iload rfl (i_iadd (t_cv3 (Rn_mono mt _ _) 1319 rfl (Nat.le_of_ble_eq_true rfl) ?_))))))))
        refine k_then hW hO2 hy (by omega) (by omega) tx2 (fun h hW => ?_)
        refine Rch.blk' (Rn_mono mt _ _) bl_L_law_1319 (i_aload_n rfl (i_iconst k_3 (i_iconst k_3 (i_iload rfl (i_isub (t_cv3 (Rn_mono mt _ _) 1328 rfl (Nat.le_of_ble_eq_true rfl) ?_))))))
        refine k_then hW hO2 hy (by omega) (by omega) tx3 (fun h hW => ?_)
        have hk := fun (x13 x14 x15 x16 : Option AV) => hk h (some (ai (I q))) (some (al (SGT G))) none (some (ai (I (nn G)))) (some (ai (I (BT (TS G))))) (some (ai (I (BT (TS G))))) (some (ai (I sds))) (some (ai (I p))) (some (ai (I s))) x13 x14 x15 x16 u17 u18 u19 u20 u21 u22 ⟨mov G p t, T, Gi, S, hW, ⟨hO2, hy⟩, hT, hTi, hK, hE⟩
        repeat' (first
          | exact hk _ _ _ _
          | (show Rn _ _ _ 77 _ _ _; refine c_L_cell rfl (by omega) (by omega) (by omega) (fun _ _ => ?_))
          | (show Rn _ _ _ 87 _ _ _; refine c_L_bits (fun _ _ => ?_))
          | (show Rch _ _ _ _ _ 1328 _ _ _; refine Rch.blk' (Rn_mono mt _ _) bl_L_law_1328 (i_isub (i_bipush k_100 (i_iadd (i_iload rfl (t_ic_eq 1339 1337 rfl rfl (by first | with_reducible exact hI_R | with_reducible exact lcm_R | with_reducible exact band_R | with_reducible exact bor_R | with_reducible exact bshr_R | with_reducible exact bshl_R | omega) (by first | with_reducible exact hI_R | with_reducible exact lcm_R | with_reducible exact band_R | with_reducible exact bor_R | with_reducible exact bshr_R | with_reducible exact bshl_R | omega) (fun hc => ?_) (fun hc => ?_)))))) <;> (first | (exfalso; omega) | skip))
          | (show Rch _ _ _ _ _ 1337 _ _ _; refine Rch.blk' (Rn_mono mt _ _) bl_L_law_1337 (i_iconst k_0 (t_zret (by omega) ?_))))
      by_cases hon : ons G t = -4
      · have kM := kM h hW
        repeat' (first
          | exact kM
          | (show Rn _ _ _ 77 _ _ _; refine c_L_cell rfl (by omega) (by omega) (by omega) (fun _ _ => ?_))
          | (show Rn _ _ _ 87 _ _ _; refine c_L_bits (fun _ _ => ?_))
          | (show Rch _ _ _ _ _ 1258 _ _ _; refine Rch.blk' (Rn_mono mt _ _) bl_L_law_1258 (t_if_lt 1272 1261 rfl rfl (by first | with_reducible exact hI_R | with_reducible exact lcm_R | with_reducible exact band_R | with_reducible exact bor_R | with_reducible exact bshr_R | with_reducible exact bshl_R | omega) (fun hc => ?_) (fun hc => ?_)) <;> (first | (exfalso; omega) | skip))
          | (show Rch _ _ _ _ _ 1261 _ _ _; refine Rch.blk' (Rn_mono mt _ _) bl_L_law_1261 (i_aload_n rfl (i_iload rfl (t_cv2 (Rn_mono mt _ _) 1267 rfl (Nat.le_of_ble_eq_true rfl) ?_)))))
      · skip
        repeat' (first
          | (show Rn _ _ _ 77 _ _ _; refine c_L_cell rfl (by omega) (by omega) (by omega) (fun _ _ => ?_))
          | (show Rn _ _ _ 87 _ _ _; refine c_L_bits (fun _ _ => ?_))
          | (show Rch _ _ _ _ _ 1258 _ _ _; refine Rch.blk' (Rn_mono mt _ _) bl_L_law_1258 (t_if_lt 1272 1261 rfl rfl (by first | with_reducible exact hI_R | with_reducible exact lcm_R | with_reducible exact band_R | with_reducible exact bor_R | with_reducible exact bshr_R | with_reducible exact bshl_R | omega) (fun hc => ?_) (fun hc => ?_)) <;> (first | (exfalso; omega) | skip))
          | (show Rch _ _ _ _ _ 1261 _ _ _; refine Rch.blk' (Rn_mono mt _ _) bl_L_law_1261 (i_aload_n rfl (i_iload rfl (t_cv2 (Rn_mono mt _ _) 1267 rfl (Nat.le_of_ble_eq_true rfl) ?_)))))
        refine k_on hW hO ⟨g1, t1⟩ (fun h hW => ?_)
        have kM := kM h hW
        repeat' (first
          | exact kM
          | (show Rn _ _ _ 77 _ _ _; refine c_L_cell rfl (by omega) (by omega) (by omega) (fun _ _ => ?_))
          | (show Rn _ _ _ 87 _ _ _; refine c_L_bits (fun _ _ => ?_))
          | (show Rch _ _ _ _ _ 1267 _ _ _; refine Rch.blk' (Rn_mono mt _ _) bl_L_law_1267 (i_iload rfl (t_ic_ne 1337 1272 rfl rfl (by first | with_reducible exact hI_R | with_reducible exact lcm_R | with_reducible exact band_R | with_reducible exact bor_R | with_reducible exact bshr_R | with_reducible exact bshl_R | omega) (by first | with_reducible exact hI_R | with_reducible exact lcm_R | with_reducible exact band_R | with_reducible exact bor_R | with_reducible exact bshr_R | with_reducible exact bshl_R | omega) (fun hc => ?_) (fun hc => ?_))) <;> (first | (exfalso; omega) | skip)))
    · rw [ifp_n (fun z : TS G p => hs z.2)] at e_h
      repeat' (first
        | exact hk0
        | (show Rn _ _ _ 77 _ _ _; refine c_L_cell rfl (by omega) (by omega) (by omega) (fun _ _ => ?_))
        | (show Rn _ _ _ 87 _ _ _; refine c_L_bits (fun _ _ => ?_))
        | (show Rch _ _ _ _ _ 1179 _ _ _; refine Rch.blk' (Rn_mono mt _ _) bl_L_law_1179 (i_iload rfl (t_if_le 1339 1184 rfl rfl (by first | with_reducible exact hI_R | with_reducible exact lcm_R | with_reducible exact band_R | with_reducible exact bor_R | with_reducible exact bshr_R | with_reducible exact bshl_R | omega) (fun hc => ?_) (fun hc => ?_))) <;> (first | (exfalso; omega) | skip))
        | (show Rch _ _ _ _ _ 1184 _ _ _; refine Rch.blk' (Rn_mono mt _ _) bl_L_law_1184 (i_iload rfl (i_iload rfl (i_ishr (i_iconst k_1 (i_iand (i_iconst k_1 (t_ic_ne 1339 1195 rfl rfl (by first | with_reducible exact hI_R | with_reducible exact lcm_R | with_reducible exact band_R | with_reducible exact bor_R | with_reducible exact bshr_R | with_reducible exact bshl_R | omega) (by first | with_reducible exact hI_R | with_reducible exact lcm_R | with_reducible exact band_R | with_reducible exact bor_R | with_reducible exact bshr_R | with_reducible exact bshl_R | omega) (fun hc => ?_) (fun hc => ?_)))))))) <;> (first | (exfalso; omega) | skip)))
end C76

