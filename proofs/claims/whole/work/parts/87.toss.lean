/-! toss: the class's, in stages -/
section TOS
variable {d : Nat} {h : Mem} {S : Sv} {z : Int}
def tStop (S : Sv) (z : Int) (h : Mem) : Nat → Lc → List AV → Mem → Prop := fun pc ls st h' => pc = 30 ∧ st = [ai (I (sf S z)), ai (I (sk S z))] ∧ h' = h ∧ ls = [some (ar 2 0), some (ai (I z)), some (ar 1 z.toNat), some (ai (I 0)), none] ∧ 0 ≤ z ∧ z < 8 ∧ ho S z = 1
def tRt (S : Sv) (z : Int) (h : Mem) : Option AV → Mem → Prop := fun v h' => v = some (ai (I (vToss S z))) ∧ h' = h
theorem r_toss0 (hS : SC h S) (hK : OKS S) (hz : inR z) : Rch bX3_toss (Rn mt (d + 2)) 0 (tStop S z h) (tRt S z h) 0 [some (ar 2 0), some (ai (I z)), none, none, none] [] h := by
  have e_k := fun a b => @SC.k _ _ z hS a b
  have e_f := fun a b => @SC.f _ _ z hS a b
  have k1 : ∀ u : Int, u = vToss S z → tRt S z h (some (ai (I u))) h := fun u e => by subst e; exact ⟨rfl, rfl⟩
  repeat' (first
    | (with_reducible refine Rch.stop ?_; unfold tStop; exact ⟨rfl, rfl, rfl, rfl, by omega, by omega, by omega⟩)
    | exact k1 _ (by unfold vToss rfu; omega)
    | (show Rn _ _ 57 _ _ _; refine c_X3_shelfAt (by first | omega | exact hI_R) (fun _ _ => ?_) (fun _ => ?_))
    | (show Rn _ _ 58 _ _ _; refine c_X3_refusalUnless_n ?_)
    | (show Rn _ _ 58 _ _ _; refine c_X3_refusalUnless_s (by assumption) (by omega) (by assumption) (by assumption) (fun _ => ?_) (fun _ _ => ?_) (fun _ _ => ?_))
    | (show Rn _ _ 45 _ _ _; refine c_X1_costWith (by omega) (by omega) (by omega) (fun _ _ => ?_))
    | (show Rch _ _ _ _ _ 0 _ _ _; refine Rch.blk' (Rn_mono mt _) bl_X3_toss_0 (i_aload_n rfl (i_iload_n rfl (t_cv2 (Rn_mono mt _) 5 rfl (Nat.le_of_ble_eq_true rfl) ?_))))
    | (show Rch _ _ _ _ _ 5 _ _ _; refine Rch.blk' (Rn_mono mt _) bl_X3_toss_5 (i_astore2 trivial (i_aload_n rfl (i_iconst k_1 (t_cs2 (Rn_mono mt _) 11 rfl (Nat.le_of_ble_eq_true rfl) ?_)))))
    | (show Rch _ _ _ _ _ 11 _ _ _; refine Rch.blk' (Rn_mono mt _) bl_X3_toss_11 (i_istore3 trivial (i_aload_n rfl (t_ifnull_n 20 rfl ?_))))
    | (show Rch _ _ _ _ _ 11 _ _ _; refine Rch.blk' (Rn_mono mt _) bl_X3_toss_11 (i_istore3 trivial (i_aload_n rfl (t_ifnull_s 16 rfl ?_))))
    | (show Rch _ _ _ _ _ 16 _ _ _; refine Rch.blk' (Rn_mono mt _) bl_X3_toss_16 (i_iload_n rfl (t_if_eq 22 20 rfl rfl (by first | with_reducible exact hI_R | with_reducible exact lcm_R | with_reducible exact band_R | with_reducible exact bor_R | with_reducible exact bshr_R | with_reducible exact bshl_R | omega | (simp (disch := omega) only [e_k, e_f]; omega)) (fun hc => ?_) (fun hc => ?_))) <;> (first | (exfalso; omega) | skip))
    | (show Rch _ _ _ _ _ 20 _ _ _; refine Rch.blk' (Rn_mono mt _) bl_X3_toss_20 (i_iload_n rfl (t_iret ?_)))
    | (show Rch _ _ _ _ _ 22 _ _ _; refine Rch.blk' (Rn_mono mt _) bl_X3_toss_22 (i_aload_n rfl (i_gfi rfl (i_aload_n rfl (i_gfi rfl (t_none ?_))))) <;> (try (simp (disch := omega) only [e_k, e_f])))
    | (show Rch _ _ _ _ _ 33 _ _ _; refine Rch.blk' (Rn_mono mt _) bl_X3_toss_33 (t_goto 71 rfl ?_))
    | (show Rch _ _ _ _ _ 38 _ _ _; refine Rch.blk' (Rn_mono mt _) bl_X3_toss_38 (i_aload_n rfl (i_gfi rfl (t_iret ?_))) <;> (try (simp (disch := omega) only [e_k, e_f])))
    | (show Rch _ _ _ _ _ 45 _ _ _; refine Rch.blk' (Rn_mono mt _) bl_X3_toss_45 (i_bipush k_100 (i_aload_n rfl (i_gfi rfl (i_iadd (t_iret ?_))))) <;> (try (simp (disch := omega) only [e_k, e_f])))
    | (show Rch _ _ _ _ _ 55 _ _ _; refine Rch.blk' (Rn_mono mt _) bl_X3_toss_55 (i_sipush k_200 (i_aload_n rfl (i_gfi rfl (i_aload_n rfl (i_gfi rfl (t_cs2 (Rn_mono mt _) 69 rfl (Nat.le_of_ble_eq_true rfl) ?_)))))) <;> (try (simp (disch := omega) only [e_k, e_f])))
    | (show Rch _ _ _ _ _ 69 _ _ _; refine Rch.blk' (Rn_mono mt _) bl_X3_toss_69 (i_iadd (t_iret ?_)))
    | (show Rch _ _ _ _ _ 71 _ _ _; refine Rch.blk' (Rn_mono mt _) bl_X3_toss_71 (i_bipush k_m15 (t_iret ?_))))
theorem r_toss33 (z0 : 0 ≤ z) (z1 : z < 8) (hh : ho S z = 1) (hq : fwQ (sk S z) (sf S z)) : Rch bX3_toss (Rn mt (d + 2)) 0 (fun _ _ _ _ => False) (tRt S z h) 33 [some (ar 2 0), some (ai (I z)), some (ar 1 z.toNat), some (ai (I 0)), none] [] h := by
  have e : vToss S z = -15 := by unfold fwQ at hq; unfold vToss rfu; omega
  have k1 : ∀ u : Int, u = vToss S z → tRt S z h (some (ai (I u))) h := fun u e => by subst e; exact ⟨rfl, rfl⟩
  repeat' (first
    | exact k1 _ (by omega)
    | (show Rn _ _ 57 _ _ _; refine c_X3_shelfAt (by first | omega | exact hI_R) (fun _ _ => ?_) (fun _ => ?_))
    | (show Rn _ _ 58 _ _ _; refine c_X3_refusalUnless_n ?_)
    | (show Rn _ _ 58 _ _ _; refine c_X3_refusalUnless_s (by assumption) (by omega) (by assumption) (by assumption) (fun _ => ?_) (fun _ _ => ?_) (fun _ _ => ?_))
    | (show Rn _ _ 45 _ _ _; refine c_X1_costWith (by omega) (by omega) (by omega) (fun _ _ => ?_))
    | (show Rch _ _ _ _ _ 0 _ _ _; refine Rch.blk' (Rn_mono mt _) bl_X3_toss_0 (i_aload_n rfl (i_iload_n rfl (t_cv2 (Rn_mono mt _) 5 rfl (Nat.le_of_ble_eq_true rfl) ?_))))
    | (show Rch _ _ _ _ _ 5 _ _ _; refine Rch.blk' (Rn_mono mt _) bl_X3_toss_5 (i_astore2 trivial (i_aload_n rfl (i_iconst k_1 (t_cs2 (Rn_mono mt _) 11 rfl (Nat.le_of_ble_eq_true rfl) ?_)))))
    | (show Rch _ _ _ _ _ 11 _ _ _; refine Rch.blk' (Rn_mono mt _) bl_X3_toss_11 (i_istore3 trivial (i_aload_n rfl (t_ifnull_n 20 rfl ?_))))
    | (show Rch _ _ _ _ _ 11 _ _ _; refine Rch.blk' (Rn_mono mt _) bl_X3_toss_11 (i_istore3 trivial (i_aload_n rfl (t_ifnull_s 16 rfl ?_))))
    | (show Rch _ _ _ _ _ 16 _ _ _; refine Rch.blk' (Rn_mono mt _) bl_X3_toss_16 (i_iload_n rfl (t_if_eq 22 20 rfl rfl (by first | with_reducible exact hI_R | with_reducible exact lcm_R | with_reducible exact band_R | with_reducible exact bor_R | with_reducible exact bshr_R | with_reducible exact bshl_R | omega) (fun hc => ?_) (fun hc => ?_))) <;> (first | (exfalso; omega) | skip))
    | (show Rch _ _ _ _ _ 20 _ _ _; refine Rch.blk' (Rn_mono mt _) bl_X3_toss_20 (i_iload_n rfl (t_iret ?_)))
    | (show Rch _ _ _ _ _ 22 _ _ _; refine Rch.blk' (Rn_mono mt _) bl_X3_toss_22 (i_aload_n rfl (i_gfi rfl (i_aload_n rfl (i_gfi rfl (t_none ?_))))))
    | (show Rch _ _ _ _ _ 33 _ _ _; refine Rch.blk' (Rn_mono mt _) bl_X3_toss_33 (t_goto 71 rfl ?_))
    | (show Rch _ _ _ _ _ 38 _ _ _; refine Rch.blk' (Rn_mono mt _) bl_X3_toss_38 (i_aload_n rfl (i_gfi rfl (t_iret ?_))))
    | (show Rch _ _ _ _ _ 45 _ _ _; refine Rch.blk' (Rn_mono mt _) bl_X3_toss_45 (i_bipush k_100 (i_aload_n rfl (i_gfi rfl (i_iadd (t_iret ?_))))))
    | (show Rch _ _ _ _ _ 55 _ _ _; refine Rch.blk' (Rn_mono mt _) bl_X3_toss_55 (i_sipush k_200 (i_aload_n rfl (i_gfi rfl (i_aload_n rfl (i_gfi rfl (t_cs2 (Rn_mono mt _) 69 rfl (Nat.le_of_ble_eq_true rfl) ?_)))))))
    | (show Rch _ _ _ _ _ 69 _ _ _; refine Rch.blk' (Rn_mono mt _) bl_X3_toss_69 (i_iadd (t_iret ?_)))
    | (show Rch _ _ _ _ _ 71 _ _ _; refine Rch.blk' (Rn_mono mt _) bl_X3_toss_71 (i_bipush k_m15 (t_iret ?_))))
theorem r_toss38 (hS : SC h S) (z0 : 0 ≤ z) (z1 : z < 8) (hh : ho S z = 1) (hq : ¬ fwQ (sk S z) (sf S z)) (hk : ¬ sk S z = 6 ∧ ¬ (sk S z = 2 ∨ sk S z = 4)) : Rch bX3_toss (Rn mt (d + 2)) 0 (fun _ _ _ _ => False) (tRt S z h) 38 [some (ar 2 0), some (ai (I z)), some (ar 1 z.toNat), some (ai (I 0)), none] [] h := by
  have e : vToss S z = sf S z := by unfold fwQ at hq; unfold vToss rfu; omega
  have e_f := hS.f z0 z1 hh
  have k1 : ∀ u : Int, u = vToss S z → tRt S z h (some (ai (I u))) h := fun u e => by subst e; exact ⟨rfl, rfl⟩
  repeat' (first
    | exact k1 _ (by omega)
    | (show Rn _ _ 57 _ _ _; refine c_X3_shelfAt (by first | omega | exact hI_R) (fun _ _ => ?_) (fun _ => ?_))
    | (show Rn _ _ 58 _ _ _; refine c_X3_refusalUnless_n ?_)
    | (show Rn _ _ 58 _ _ _; refine c_X3_refusalUnless_s (by assumption) (by omega) (by assumption) (by assumption) (fun _ => ?_) (fun _ _ => ?_) (fun _ _ => ?_))
    | (show Rn _ _ 45 _ _ _; refine c_X1_costWith (by omega) (by omega) (by omega) (fun _ _ => ?_))
    | (show Rch _ _ _ _ _ 0 _ _ _; refine Rch.blk' (Rn_mono mt _) bl_X3_toss_0 (i_aload_n rfl (i_iload_n rfl (t_cv2 (Rn_mono mt _) 5 rfl (Nat.le_of_ble_eq_true rfl) ?_))))
    | (show Rch _ _ _ _ _ 5 _ _ _; refine Rch.blk' (Rn_mono mt _) bl_X3_toss_5 (i_astore2 trivial (i_aload_n rfl (i_iconst k_1 (t_cs2 (Rn_mono mt _) 11 rfl (Nat.le_of_ble_eq_true rfl) ?_)))))
    | (show Rch _ _ _ _ _ 11 _ _ _; refine Rch.blk' (Rn_mono mt _) bl_X3_toss_11 (i_istore3 trivial (i_aload_n rfl (t_ifnull_n 20 rfl ?_))))
    | (show Rch _ _ _ _ _ 11 _ _ _; refine Rch.blk' (Rn_mono mt _) bl_X3_toss_11 (i_istore3 trivial (i_aload_n rfl (t_ifnull_s 16 rfl ?_))))
    | (show Rch _ _ _ _ _ 16 _ _ _; refine Rch.blk' (Rn_mono mt _) bl_X3_toss_16 (i_iload_n rfl (t_if_eq 22 20 rfl rfl (by first | with_reducible exact hI_R | with_reducible exact lcm_R | with_reducible exact band_R | with_reducible exact bor_R | with_reducible exact bshr_R | with_reducible exact bshl_R | omega) (fun hc => ?_) (fun hc => ?_))) <;> (first | (exfalso; omega) | skip))
    | (show Rch _ _ _ _ _ 20 _ _ _; refine Rch.blk' (Rn_mono mt _) bl_X3_toss_20 (i_iload_n rfl (t_iret ?_)))
    | (show Rch _ _ _ _ _ 22 _ _ _; refine Rch.blk' (Rn_mono mt _) bl_X3_toss_22 (i_aload_n rfl (i_gfi rfl (i_aload_n rfl (i_gfi rfl (t_none ?_))))))
    | (show Rch _ _ _ _ _ 33 _ _ _; refine Rch.blk' (Rn_mono mt _) bl_X3_toss_33 (t_goto 71 rfl ?_))
    | (show Rch _ _ _ _ _ 38 _ _ _; refine Rch.blk' (Rn_mono mt _) bl_X3_toss_38 (i_aload_n rfl (i_gfi rfl (t_iret ?_))))
    | (show Rch _ _ _ _ _ 45 _ _ _; refine Rch.blk' (Rn_mono mt _) bl_X3_toss_45 (i_bipush k_100 (i_aload_n rfl (i_gfi rfl (i_iadd (t_iret ?_))))))
    | (show Rch _ _ _ _ _ 55 _ _ _; refine Rch.blk' (Rn_mono mt _) bl_X3_toss_55 (i_sipush k_200 (i_aload_n rfl (i_gfi rfl (i_aload_n rfl (i_gfi rfl (t_cs2 (Rn_mono mt _) 69 rfl (Nat.le_of_ble_eq_true rfl) ?_)))))))
    | (show Rch _ _ _ _ _ 69 _ _ _; refine Rch.blk' (Rn_mono mt _) bl_X3_toss_69 (i_iadd (t_iret ?_)))
    | (show Rch _ _ _ _ _ 71 _ _ _; refine Rch.blk' (Rn_mono mt _) bl_X3_toss_71 (i_bipush k_m15 (t_iret ?_))))
theorem r_toss45 (hS : SC h S) (z0 : 0 ≤ z) (z1 : z < 8) (hh : ho S z = 1) (hq : ¬ fwQ (sk S z) (sf S z)) (hk : ¬ sk S z = 6 ∧ (sk S z = 2 ∨ sk S z = 4)) : Rch bX3_toss (Rn mt (d + 2)) 0 (fun _ _ _ _ => False) (tRt S z h) 45 [some (ar 2 0), some (ai (I z)), some (ar 1 z.toNat), some (ai (I 0)), none] [] h := by
  have e : vToss S z = 100 + sf S z := by unfold fwQ at hq; unfold vToss rfu; omega
  have e_f := hS.f z0 z1 hh
  have k1 : ∀ u : Int, u = vToss S z → tRt S z h (some (ai (I u))) h := fun u e => by subst e; exact ⟨rfl, rfl⟩
  repeat' (first
    | exact k1 _ (by omega)
    | (show Rn _ _ 57 _ _ _; refine c_X3_shelfAt (by first | omega | exact hI_R) (fun _ _ => ?_) (fun _ => ?_))
    | (show Rn _ _ 58 _ _ _; refine c_X3_refusalUnless_n ?_)
    | (show Rn _ _ 58 _ _ _; refine c_X3_refusalUnless_s (by assumption) (by omega) (by assumption) (by assumption) (fun _ => ?_) (fun _ _ => ?_) (fun _ _ => ?_))
    | (show Rn _ _ 45 _ _ _; refine c_X1_costWith (by omega) (by omega) (by omega) (fun _ _ => ?_))
    | (show Rch _ _ _ _ _ 0 _ _ _; refine Rch.blk' (Rn_mono mt _) bl_X3_toss_0 (i_aload_n rfl (i_iload_n rfl (t_cv2 (Rn_mono mt _) 5 rfl (Nat.le_of_ble_eq_true rfl) ?_))))
    | (show Rch _ _ _ _ _ 5 _ _ _; refine Rch.blk' (Rn_mono mt _) bl_X3_toss_5 (i_astore2 trivial (i_aload_n rfl (i_iconst k_1 (t_cs2 (Rn_mono mt _) 11 rfl (Nat.le_of_ble_eq_true rfl) ?_)))))
    | (show Rch _ _ _ _ _ 11 _ _ _; refine Rch.blk' (Rn_mono mt _) bl_X3_toss_11 (i_istore3 trivial (i_aload_n rfl (t_ifnull_n 20 rfl ?_))))
    | (show Rch _ _ _ _ _ 11 _ _ _; refine Rch.blk' (Rn_mono mt _) bl_X3_toss_11 (i_istore3 trivial (i_aload_n rfl (t_ifnull_s 16 rfl ?_))))
    | (show Rch _ _ _ _ _ 16 _ _ _; refine Rch.blk' (Rn_mono mt _) bl_X3_toss_16 (i_iload_n rfl (t_if_eq 22 20 rfl rfl (by first | with_reducible exact hI_R | with_reducible exact lcm_R | with_reducible exact band_R | with_reducible exact bor_R | with_reducible exact bshr_R | with_reducible exact bshl_R | omega) (fun hc => ?_) (fun hc => ?_))) <;> (first | (exfalso; omega) | skip))
    | (show Rch _ _ _ _ _ 20 _ _ _; refine Rch.blk' (Rn_mono mt _) bl_X3_toss_20 (i_iload_n rfl (t_iret ?_)))
    | (show Rch _ _ _ _ _ 22 _ _ _; refine Rch.blk' (Rn_mono mt _) bl_X3_toss_22 (i_aload_n rfl (i_gfi rfl (i_aload_n rfl (i_gfi rfl (t_none ?_))))))
    | (show Rch _ _ _ _ _ 33 _ _ _; refine Rch.blk' (Rn_mono mt _) bl_X3_toss_33 (t_goto 71 rfl ?_))
    | (show Rch _ _ _ _ _ 38 _ _ _; refine Rch.blk' (Rn_mono mt _) bl_X3_toss_38 (i_aload_n rfl (i_gfi rfl (t_iret ?_))))
    | (show Rch _ _ _ _ _ 45 _ _ _; refine Rch.blk' (Rn_mono mt _) bl_X3_toss_45 (i_bipush k_100 (i_aload_n rfl (i_gfi rfl (i_iadd (t_iret ?_))))))
    | (show Rch _ _ _ _ _ 55 _ _ _; refine Rch.blk' (Rn_mono mt _) bl_X3_toss_55 (i_sipush k_200 (i_aload_n rfl (i_gfi rfl (i_aload_n rfl (i_gfi rfl (t_cs2 (Rn_mono mt _) 69 rfl (Nat.le_of_ble_eq_true rfl) ?_)))))))
    | (show Rch _ _ _ _ _ 69 _ _ _; refine Rch.blk' (Rn_mono mt _) bl_X3_toss_69 (i_iadd (t_iret ?_)))
    | (show Rch _ _ _ _ _ 71 _ _ _; refine Rch.blk' (Rn_mono mt _) bl_X3_toss_71 (i_bipush k_m15 (t_iret ?_))))
theorem r_toss55 (hS : SC h S) (hK : OKS S) (z0 : 0 ≤ z) (z1 : z < 8) (hh : ho S z = 1) (hq : ¬ fwQ (sk S z) (sf S z)) (hk : sk S z = 6) : Rch bX3_toss (Rn mt (d + 2)) 0 (fun _ _ _ _ => False) (tRt S z h) 55 [some (ar 2 0), some (ai (I z)), some (ar 1 z.toNat), some (ai (I 0)), none] [] h := by
  have e : vToss S z = 200 + co (sk S z) (sf S z) := by unfold fwQ at hq; unfold vToss rfu; omega
  have e_k := hS.k z0 z1 hh
  have e_f := hS.f z0 z1 hh
  have g := (hK z z0 z1).2.1 hh
  have k1 : ∀ u : Int, u = vToss S z → tRt S z h (some (ai (I u))) h := fun u e => by subst e; exact ⟨rfl, rfl⟩
  repeat' (first
    | exact k1 _ (by omega)
    | (show Rn _ _ 57 _ _ _; refine c_X3_shelfAt (by first | omega | exact hI_R) (fun _ _ => ?_) (fun _ => ?_))
    | (show Rn _ _ 58 _ _ _; refine c_X3_refusalUnless_n ?_)
    | (show Rn _ _ 58 _ _ _; refine c_X3_refusalUnless_s (by assumption) (by omega) (by assumption) (by assumption) (fun _ => ?_) (fun _ _ => ?_) (fun _ _ => ?_))
    | (show Rn _ _ 45 _ _ _; refine c_X1_costWith (by omega) (by omega) (by omega) (fun _ _ => ?_))
    | (show Rch _ _ _ _ _ 0 _ _ _; refine Rch.blk' (Rn_mono mt _) bl_X3_toss_0 (i_aload_n rfl (i_iload_n rfl (t_cv2 (Rn_mono mt _) 5 rfl (Nat.le_of_ble_eq_true rfl) ?_))))
    | (show Rch _ _ _ _ _ 5 _ _ _; refine Rch.blk' (Rn_mono mt _) bl_X3_toss_5 (i_astore2 trivial (i_aload_n rfl (i_iconst k_1 (t_cs2 (Rn_mono mt _) 11 rfl (Nat.le_of_ble_eq_true rfl) ?_)))))
    | (show Rch _ _ _ _ _ 11 _ _ _; refine Rch.blk' (Rn_mono mt _) bl_X3_toss_11 (i_istore3 trivial (i_aload_n rfl (t_ifnull_n 20 rfl ?_))))
    | (show Rch _ _ _ _ _ 11 _ _ _; refine Rch.blk' (Rn_mono mt _) bl_X3_toss_11 (i_istore3 trivial (i_aload_n rfl (t_ifnull_s 16 rfl ?_))))
    | (show Rch _ _ _ _ _ 16 _ _ _; refine Rch.blk' (Rn_mono mt _) bl_X3_toss_16 (i_iload_n rfl (t_if_eq 22 20 rfl rfl (by first | with_reducible exact hI_R | with_reducible exact lcm_R | with_reducible exact band_R | with_reducible exact bor_R | with_reducible exact bshr_R | with_reducible exact bshl_R | omega | (simp (disch := omega) only [e_k, e_f]; omega)) (fun hc => ?_) (fun hc => ?_))) <;> (first | (exfalso; omega) | skip))
    | (show Rch _ _ _ _ _ 20 _ _ _; refine Rch.blk' (Rn_mono mt _) bl_X3_toss_20 (i_iload_n rfl (t_iret ?_)))
    | (show Rch _ _ _ _ _ 22 _ _ _; refine Rch.blk' (Rn_mono mt _) bl_X3_toss_22 (i_aload_n rfl (i_gfi rfl (i_aload_n rfl (i_gfi rfl (t_none ?_))))) <;> (try (simp (disch := omega) only [e_k, e_f])))
    | (show Rch _ _ _ _ _ 33 _ _ _; refine Rch.blk' (Rn_mono mt _) bl_X3_toss_33 (t_goto 71 rfl ?_))
    | (show Rch _ _ _ _ _ 38 _ _ _; refine Rch.blk' (Rn_mono mt _) bl_X3_toss_38 (i_aload_n rfl (i_gfi rfl (t_iret ?_))) <;> (try (simp (disch := omega) only [e_k, e_f])))
    | (show Rch _ _ _ _ _ 45 _ _ _; refine Rch.blk' (Rn_mono mt _) bl_X3_toss_45 (i_bipush k_100 (i_aload_n rfl (i_gfi rfl (i_iadd (t_iret ?_))))) <;> (try (simp (disch := omega) only [e_k, e_f])))
    | (show Rch _ _ _ _ _ 55 _ _ _; refine Rch.blk' (Rn_mono mt _) bl_X3_toss_55 (i_sipush k_200 (i_aload_n rfl (i_gfi rfl (i_aload_n rfl (i_gfi rfl (t_cs2 (Rn_mono mt _) 69 rfl (Nat.le_of_ble_eq_true rfl) ?_)))))) <;> (try (simp (disch := omega) only [e_k, e_f])))
    | (show Rch _ _ _ _ _ 69 _ _ _; refine Rch.blk' (Rn_mono mt _) bl_X3_toss_69 (i_iadd (t_iret ?_)))
    | (show Rch _ _ _ _ _ 71 _ _ _; refine Rch.blk' (Rn_mono mt _) bl_X3_toss_71 (i_bipush k_m15 (t_iret ?_))))
end TOS

