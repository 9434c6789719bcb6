/-! failWith -/
theorem bl_X1_failWith_0 : blk bX1_failWith 0 = some ([(.iload_n 1, 1, 0, 0, 0)], some (.ifCond .eq 19, 3, 0, 0, 0)) := rfl
theorem bl_X1_failWith_4 : blk bX1_failWith 4 = some ([(.iload_n 0, 1, 0, 0, 0), (.iconst 5, 1, 5, 0, 0)], some (.if_icmp .eq 14, 3, 0, 0, 0)) := rfl
theorem bl_X1_failWith_9 : blk bX1_failWith 9 = some ([(.iload_n 0, 1, 0, 0, 0), (.iconst 3, 1, 3, 0, 0)], some (.if_icmp .eq 9, 3, 0, 0, 0)) := rfl
theorem bl_X1_failWith_14 : blk bX1_failWith 14 = some ([(.iload_n 0, 1, 0, 0, 0), (.bipush 7, 2, 7, 0, 0)], some (.if_icmp .ne 4, 3, 0, 0, 0)) := rfl
theorem bl_X1_failWith_20 : blk bX1_failWith 20 = some ([], some (.return_, 1, 0, 0, 0)) := rfl
theorem bl_X1_failWith_21 : blk bX1_failWith 21 = some ([(.iload_n 0, 1, 0, 0, 0), (.bipush 6, 2, 6, 0, 0)], some (.if_icmp .ne 13, 3, 0, 0, 0)) := rfl
theorem bl_X1_failWith_37 : blk bX1_failWith 37 = some ([(.iload_n 0, 1, 0, 0, 0), (.iconst 2, 1, 2, 0, 0)], some (.if_icmp .eq 8, 3, 0, 0, 0)) := rfl
theorem bl_X1_failWith_42 : blk bX1_failWith 42 = some ([(.iload_n 0, 1, 0, 0, 0), (.iconst 4, 1, 4, 0, 0)], some (.if_icmp .ne 13, 3, 0, 0, 0)) := rfl
theorem bl_X3_element_0 : blk bX3_element 0 = some ([(.aload_n 0, 1, 0, 0, 0), (.iload_n 1, 1, 0, 0, 0)], some (.invokevirtual 51, 3, 57, 2, 2)) := rfl
theorem bl_X3_element_5 : blk bX3_element 5 = some ([(.astore_n 3, 1, 0, 0, 0), (.aload_n 3, 1, 0, 0, 0)], some (.ifnonnull 14, 3, 0, 0, 0)) := rfl
theorem bl_X3_element_21 : blk bX3_element 21 = some ([(.aload_n 3, 1, 0, 0, 0), (.getfield 261, 3, 1, 0, 0), (.iconst 2, 1, 2, 0, 0)], some (.if_icmp .eq 14, 3, 0, 0, 0)) := rfl
theorem bl_X3_element_40 : blk bX3_element 40 = some ([(.aload_n 3, 1, 0, 0, 0), (.iload_n 2, 1, 0, 0, 0)], none) := rfl
theorem bl_X3_element_45 : blk bX3_element 45 = some ([], some (.ifCond .ne 14, 3, 0, 0, 0)) := rfl
theorem bl_X3_element_59 : blk bX3_element 59 = some ([(.aload_n 3, 1, 0, 0, 0), (.iload_n 2, 1, 0, 0, 0)], some (.invokevirtual 252, 3, 50, 2, 1)) := rfl
theorem bl_X3_element_64 : blk bX3_element 64 = some ([(.i2l, 1, 0, 0, 0)], some (.lreturn, 1, 0, 0, 0)) := rfl
theorem bl_X3_toss_0 : blk bX3_toss 0 = some ([(.aload_n 0, 1, 0, 0, 0), (.iload_n 1, 1, 0, 0, 0)], some (.invokevirtual 51, 3, 57, 2, 2)) := rfl
theorem bl_X3_toss_5 : blk bX3_toss 5 = some ([(.astore_n 2, 1, 0, 0, 0), (.aload_n 2, 1, 0, 0, 0), (.iconst 1, 1, 1, 0, 0)], some (.invokestatic 55, 3, 58, 2, 0)) := rfl
theorem bl_X3_toss_11 : blk bX3_toss 11 = some ([(.istore_n 3, 1, 0, 0, 0), (.aload_n 2, 1, 0, 0, 0)], some (.ifnull 7, 3, 0, 0, 0)) := rfl
theorem bl_X3_toss_16 : blk bX3_toss 16 = some ([(.iload_n 3, 1, 0, 0, 0)], some (.ifCond .eq 5, 3, 0, 0, 0)) := rfl
theorem bl_X3_toss_20 : blk bX3_toss 20 = some ([(.iload_n 3, 1, 0, 0, 0)], some (.ireturn, 1, 0, 0, 0)) := rfl
theorem bl_X3_toss_22 : blk bX3_toss 22 = some ([(.aload_n 2, 1, 0, 0, 0), (.getfield 129, 3, 1, 1, 0), (.aload_n 2, 1, 0, 0, 0), (.getfield 131, 3, 1, 2, 0)], none) := rfl
theorem bl_X3_toss_33 : blk bX3_toss 33 = some ([], some (.goto 38, 3, 0, 0, 0)) := rfl
theorem bl_X3_toss_38 : blk bX3_toss 38 = some ([(.aload_n 2, 1, 0, 0, 0), (.getfield 131, 3, 1, 2, 0)], some (.ireturn, 1, 0, 0, 0)) := rfl
theorem bl_X3_toss_45 : blk bX3_toss 45 = some ([(.bipush 100, 2, 100, 0, 0), (.aload_n 2, 1, 0, 0, 0), (.getfield 131, 3, 1, 2, 0), (.iadd, 1, 0, 0, 0)], some (.ireturn, 1, 0, 0, 0)) := rfl
theorem bl_X3_toss_55 : blk bX3_toss 55 = some ([(.sipush 200, 3, 200, 0, 0), (.aload_n 2, 1, 0, 0, 0), (.getfield 129, 3, 1, 1, 0), (.aload_n 2, 1, 0, 0, 0), (.getfield 131, 3, 1, 2, 0)], some (.invokestatic 306, 3, 45, 2, 0)) := rfl
theorem bl_X3_toss_69 : blk bX3_toss 69 = some ([(.iadd, 1, 0, 0, 0)], some (.ireturn, 1, 0, 0, 0)) := rfl
theorem bl_X3_toss_71 : blk bX3_toss 71 = some ([(.bipush (-15), 2, 15, 1, 0)], some (.ireturn, 1, 0, 0, 0)) := rfl
theorem bl_L_element_0 : blk bL_element 0 = some ([(.aload_n 3, 1, 0, 0, 0), (.iconst 0, 1, 0, 0, 0), (.aload_n 0, 1, 0, 0, 0), (.iload_n 1, 1, 0, 0, 0), (.iload_n 2, 1, 0, 0, 0)], none) := rfl
theorem bl_L_element_9 : blk bL_element 9 = some ([], some (.goto 11, 3, 0, 0, 0)) := rfl
theorem bl_L_element_14 : blk bL_element 14 = some ([(.iconst 1, 1, 1, 0, 0)], some (.ireturn, 1, 0, 0, 0)) := rfl
theorem bl_L_element_18 : blk bL_element 18 = some ([(.iconst 2, 1, 2, 0, 0)], some (.ireturn, 1, 0, 0, 0)) := rfl
theorem bl_L_element_20 : blk bL_element 20 = some ([(.iconst 0, 1, 0, 0, 0)], some (.ireturn, 1, 0, 0, 0)) := rfl
def fwQ (k f : Int) : Prop := f = 0 ∨ k = 5 ∨ k = 3 ∨ k = 7
def fwE (k : Int) : String := if k = 6 then eNS else if k = 2 ∨ k = 4 then eUO else eIS
section FW
variable {d : Nat} {h : Mem}
theorem r_failWith {k f : Int} (hk : inR k) (hf : inR f) : Rch bX1_failWith (Rn mt d) 0 (fun pc _ st h' => st = [] ∧ h' = h ∧ ¬ fwQ k f ∧ ((pc = 27 ∧ k = 6) ∨ (pc = 47 ∧ (k = 2 ∨ k = 4)) ∨ (pc = 57 ∧ ¬ k = 6 ∧ ¬ (k = 2 ∨ k = 4)))) (fun v h' => v = none ∧ h' = h ∧ fwQ k f) 0 [some (ai (I k)), some (ai (I f))] [] h := by
  repeat' (first
    | (with_reducible refine Rch.stop ?_; exact ⟨rfl, rfl, by unfold fwQ; omega, by omega⟩)
    | exact ⟨rfl, rfl, by unfold fwQ; omega⟩
    | (show Rch _ _ _ _ _ 0 _ _ _; refine Rch.blk' (Rn_mono mt _) bl_X1_failWith_0 (i_iload_n rfl (t_if_eq 20 4 rfl rfl (by first | with_reducible exact hI_R | with_reducible exact lcm_R | with_reducible exact band_R | with_reducible exact bor_R | with_reducible exact bshr_R | with_reducible exact bshl_R | omega) (fun hc => ?_) (fun hc => ?_))) <;> (first | (exfalso; omega) | skip))
    | (show Rch _ _ _ _ _ 4 _ _ _; refine Rch.blk' (Rn_mono mt _) bl_X1_failWith_4 (i_iload_n rfl (i_iconst k_5 (t_ic_eq 20 9 rfl rfl (by first | with_reducible exact hI_R | with_reducible exact lcm_R | with_reducible exact band_R | with_reducible exact bor_R | with_reducible exact bshr_R | with_reducible exact bshl_R | omega) (by first | with_reducible exact hI_R | with_reducible exact lcm_R | with_reducible exact band_R | with_reducible exact bor_R | with_reducible exact bshr_R | with_reducible exact bshl_R | omega) (fun hc => ?_) (fun hc => ?_)))) <;> (first | (exfalso; omega) | skip))
    | (show Rch _ _ _ _ _ 9 _ _ _; refine Rch.blk' (Rn_mono mt _) bl_X1_failWith_9 (i_iload_n rfl (i_iconst k_3 (t_ic_eq 20 14 rfl rfl (by first | with_reducible exact hI_R | with_reducible exact lcm_R | with_reducible exact band_R | with_reducible exact bor_R | with_reducible exact bshr_R | with_reducible exact bshl_R | omega) (by first | with_reducible exact hI_R | with_reducible exact lcm_R | with_reducible exact band_R | with_reducible exact bor_R | with_reducible exact bshr_R | with_reducible exact bshl_R | omega) (fun hc => ?_) (fun hc => ?_)))) <;> (first | (exfalso; omega) | skip))
    | (show Rch _ _ _ _ _ 14 _ _ _; refine Rch.blk' (Rn_mono mt _) bl_X1_failWith_14 (i_iload_n rfl (i_bipush k_7 (t_ic_ne 21 20 rfl rfl (by first | with_reducible exact hI_R | with_reducible exact lcm_R | with_reducible exact band_R | with_reducible exact bor_R | with_reducible exact bshr_R | with_reducible exact bshl_R | omega) (by first | with_reducible exact hI_R | with_reducible exact lcm_R | with_reducible exact band_R | with_reducible exact bor_R | with_reducible exact bshr_R | with_reducible exact bshl_R | omega) (fun hc => ?_) (fun hc => ?_)))) <;> (first | (exfalso; omega) | skip))
    | (show Rch _ _ _ _ _ 20 _ _ _; refine Rch.blk' (Rn_mono mt _) bl_X1_failWith_20 (t_vret ?_))
    | (show Rch _ _ _ _ _ 21 _ _ _; refine Rch.blk' (Rn_mono mt _) bl_X1_failWith_21 (i_iload_n rfl (i_bipush k_6 (t_ic_ne 37 27 rfl rfl (by first | with_reducible exact hI_R | with_reducible exact lcm_R | with_reducible exact band_R | with_reducible exact bor_R | with_reducible exact bshr_R | with_reducible exact bshl_R | omega) (by first | with_reducible exact hI_R | with_reducible exact lcm_R | with_reducible exact band_R | with_reducible exact bor_R | with_reducible exact bshr_R | with_reducible exact bshl_R | omega) (fun hc => ?_) (fun hc => ?_)))) <;> (first | (exfalso; omega) | skip))
    | (show Rch _ _ _ _ _ 37 _ _ _; refine Rch.blk' (Rn_mono mt _) bl_X1_failWith_37 (i_iload_n rfl (i_iconst k_2 (t_ic_eq 47 42 rfl rfl (by first | with_reducible exact hI_R | with_reducible exact lcm_R | with_reducible exact band_R | with_reducible exact bor_R | with_reducible exact bshr_R | with_reducible exact bshl_R | omega) (by first | with_reducible exact hI_R | with_reducible exact lcm_R | with_reducible exact band_R | with_reducible exact bor_R | with_reducible exact bshr_R | with_reducible exact bshl_R | omega) (fun hc => ?_) (fun hc => ?_)))) <;> (first | (exfalso; omega) | skip))
    | (show Rch _ _ _ _ _ 42 _ _ _; refine Rch.blk' (Rn_mono mt _) bl_X1_failWith_42 (i_iload_n rfl (i_iconst k_4 (t_ic_ne 57 47 rfl rfl (by first | with_reducible exact hI_R | with_reducible exact lcm_R | with_reducible exact band_R | with_reducible exact bor_R | with_reducible exact bshr_R | with_reducible exact bshl_R | omega) (by first | with_reducible exact hI_R | with_reducible exact lcm_R | with_reducible exact band_R | with_reducible exact bor_R | with_reducible exact bshr_R | with_reducible exact bshl_R | omega) (fun hc => ?_) (fun hc => ?_)))) <;> (first | (exfalso; omega) | skip)))
end FW

