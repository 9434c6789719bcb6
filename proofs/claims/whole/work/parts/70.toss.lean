/-! TOSS AND ELEMENT: what they answer; the reference's -/
def vToss (S : Sv) (x : Int) : Int := if ¬ rfu S x 1 = 0 then rfu S x 1 else if sf S x = 0 ∨ sk S x = 5 ∨ sk S x = 3 ∨ sk S x = 7 then -15 else if sk S x = 6 then 200 + co (sk S x) (sf S x) else if sk S x = 2 ∨ sk S x = 4 then 100 + sf S x else sf S x
def vThr (S : Sv) (x i : Int) : Int := if ¬ (0 ≤ x ∧ x < 8) then 1 else if ¬ ho S x = 2 then 2 else if ¬ (0 ≤ i ∧ i < sz S x) then 2 else 0
def vElt (S : Sv) (x i : Int) : Int := if vThr S x i = 0 then el S x i else 0
section TSE
variable {d : Nat} {h : Mem} {Q : Option AV → Mem → Prop} {S : Sv}
theorem c_X4_toss (hS : SR h S) (hK : OKS S) {z : Int} (hz : inR z) (hq : ∀ v h', v = vToss S z → JY h h' → Q (some (ai (I v))) h') : Rn mt (d + 20) 207 [ar 3 0, ai (I z)] h Q := by
  refine Rn.intro iX4_toss rfl rfl ?_
  show Rch bX4_toss _ _ _ _ 0 [some (ar 3 0), some (ai (I z)), none, none, none] [] _
  have e_k := fun a b => @SR.k _ _ z hS a b
  have e_f := fun a b => @SR.f _ _ z hS a b
  have g := hK z
  have r1 : rfu S z 1 = 0 → (0 ≤ z ∧ z < 8) ∧ ho S z = 1 := fun e => by unfold rfu at e; omega
  repeat' (first
    | exact hq _ _ (by unfold vToss; omega) JY.rf
    | (show Rn _ _ 151 _ _ _; refine c_X4_wrongKept (by assumption) (by assumption) (by assumption) (fun _ _ _ _ => ?_))
    | (show Rn _ _ 205 _ _ _; refine c_X4_costBy (by omega) (by omega) (by omega) (fun _ _ => ?_))
    | (show Rch _ _ _ _ _ 0 _ _ _; refine Rch.blk' (Rn_mono mt _) bl_X4_toss_0 (i_aload_n rfl (i_iload_n rfl (t_cv2 (Rn_mono mt _) 5 rfl (Nat.le_of_ble_eq_true rfl) ?_))))
    | (show Rch _ _ _ _ _ 5 _ _ _; refine Rch.blk' (Rn_mono mt _) bl_X4_toss_5 (i_istore2 trivial (i_iload_n rfl (t_if_eq 12 10 rfl rfl (by first | with_reducible exact hI_R | with_reducible exact lcm_R | with_reducible exact band_R | with_reducible exact bor_R | with_reducible exact bshr_R | with_reducible exact bshl_R | omega | (simp (disch := omega) only [e_k, e_f]; omega)) (fun hc => ?_) (fun hc => ?_)))) <;> (first | (exfalso; omega) | skip))
    | (show Rch _ _ _ _ _ 10 _ _ _; refine Rch.blk' (Rn_mono mt _) bl_X4_toss_10 (i_iload_n rfl (t_iret ?_)))
    | (show Rch _ _ _ _ _ 12 _ _ _; refine Rch.blk' (Rn_mono mt _) bl_X4_toss_12 (i_aload_n rfl (i_gfs rfl (i_iload_n rfl (i_iald (n := 8) rfl (by first | omega | (simp (disch := omega) only [e_k, e_f]; omega)) (by first | omega | (simp (disch := omega) only [e_k, e_f]; omega)) (by first | omega | (simp (disch := omega) only [e_k, e_f]; omega)) (i_istore3 trivial (i_aload_n rfl (i_gfs rfl (i_iload_n rfl (i_iald (n := 8) rfl (by first | omega | (simp (disch := omega) only [e_k, e_f]; omega)) (by first | omega | (simp (disch := omega) only [e_k, e_f]; omega)) (by first | omega | (simp (disch := omega) only [e_k, e_f]; omega)) (i_istore4 trivial (i_iload_n rfl (i_iconst k_5 (t_ic_eq 48 32 rfl rfl (by first | with_reducible exact hI_R | with_reducible exact lcm_R | with_reducible exact band_R | with_reducible exact bor_R | with_reducible exact bshr_R | with_reducible exact bshl_R | omega | (simp (disch := omega) only [e_k, e_f]; omega)) (by first | with_reducible exact hI_R | with_reducible exact lcm_R | with_reducible exact band_R | with_reducible exact bor_R | with_reducible exact bshr_R | with_reducible exact bshl_R | omega | (simp (disch := omega) only [e_k, e_f]; omega)) (fun hc => ?_) (fun hc => ?_)))))))))))))) <;> (try (simp (disch := omega) only [e_k, e_f] at hc ⊢)) <;> (first | (exfalso; omega) | skip))
    | (show Rch _ _ _ _ _ 32 _ _ _; refine Rch.blk' (Rn_mono mt _) bl_X4_toss_32 (i_iload_n rfl (i_iconst k_3 (t_ic_eq 48 37 rfl rfl (by first | with_reducible exact hI_R | with_reducible exact lcm_R | with_reducible exact band_R | with_reducible exact bor_R | with_reducible exact bshr_R | with_reducible exact bshl_R | omega | (simp (disch := omega) only [e_k, e_f]; omega)) (by first | with_reducible exact hI_R | with_reducible exact lcm_R | with_reducible exact band_R | with_reducible exact bor_R | with_reducible exact bshr_R | with_reducible exact bshl_R | omega | (simp (disch := omega) only [e_k, e_f]; omega)) (fun hc => ?_) (fun hc => ?_)))) <;> (first | (exfalso; omega) | skip))
    | (show Rch _ _ _ _ _ 37 _ _ _; refine Rch.blk' (Rn_mono mt _) bl_X4_toss_37 (i_iload_n rfl (i_bipush k_7 (t_ic_eq 48 43 rfl rfl (by first | with_reducible exact hI_R | with_reducible exact lcm_R | with_reducible exact band_R | with_reducible exact bor_R | with_reducible exact bshr_R | with_reducible exact bshl_R | omega | (simp (disch := omega) only [e_k, e_f]; omega)) (by first | with_reducible exact hI_R | with_reducible exact lcm_R | with_reducible exact band_R | with_reducible exact bor_R | with_reducible exact bshr_R | with_reducible exact bshl_R | omega | (simp (disch := omega) only [e_k, e_f]; omega)) (fun hc => ?_) (fun hc => ?_)))) <;> (first | (exfalso; omega) | skip))
    | (show Rch _ _ _ _ _ 43 _ _ _; refine Rch.blk' (Rn_mono mt _) bl_X4_toss_43 (i_iload rfl (t_if_ne 51 48 rfl rfl (by first | with_reducible exact hI_R | with_reducible exact lcm_R | with_reducible exact band_R | with_reducible exact bor_R | with_reducible exact bshr_R | with_reducible exact bshl_R | omega | (simp (disch := omega) only [e_k, e_f]; omega)) (fun hc => ?_) (fun hc => ?_))) <;> (first | (exfalso; omega) | skip))
    | (show Rch _ _ _ _ _ 48 _ _ _; refine Rch.blk' (Rn_mono mt _) bl_X4_toss_48 (i_bipush k_m15 (t_iret ?_)))
    | (show Rch _ _ _ _ _ 51 _ _ _; refine Rch.blk' (Rn_mono mt _) bl_X4_toss_51 (i_iload_n rfl (i_bipush k_6 (t_ic_ne 70 57 rfl rfl (by first | with_reducible exact hI_R | with_reducible exact lcm_R | with_reducible exact band_R | with_reducible exact bor_R | with_reducible exact bshr_R | with_reducible exact bshl_R | omega | (simp (disch := omega) only [e_k, e_f]; omega)) (by first | with_reducible exact hI_R | with_reducible exact lcm_R | with_reducible exact band_R | with_reducible exact bor_R | with_reducible exact bshr_R | with_reducible exact bshl_R | omega | (simp (disch := omega) only [e_k, e_f]; omega)) (fun hc => ?_) (fun hc => ?_)))) <;> (first | (exfalso; omega) | skip))
    | (show Rch _ _ _ _ _ 57 _ _ _; refine Rch.blk' (Rn_mono mt _) bl_X4_toss_57 (i_sipush k_200 (i_iload_n rfl (i_iload rfl (t_cs2 (Rn_mono mt _) 66 rfl (Nat.le_of_ble_eq_true rfl) ?_)))))
    | (show Rch _ _ _ _ _ 66 _ _ _; refine Rch.blk' (Rn_mono mt _) bl_X4_toss_66 (i_iadd (t_goto 90 rfl ?_)))
    | (show Rch _ _ _ _ _ 70 _ _ _; refine Rch.blk' (Rn_mono mt _) bl_X4_toss_70 (i_iload_n rfl (i_iconst k_2 (t_ic_eq 80 75 rfl rfl (by first | with_reducible exact hI_R | with_reducible exact lcm_R | with_reducible exact band_R | with_reducible exact bor_R | with_reducible exact bshr_R | with_reducible exact bshl_R | omega | (simp (disch := omega) only [e_k, e_f]; omega)) (by first | with_reducible exact hI_R | with_reducible exact lcm_R | with_reducible exact band_R | with_reducible exact bor_R | with_reducible exact bshr_R | with_reducible exact bshl_R | omega | (simp (disch := omega) only [e_k, e_f]; omega)) (fun hc => ?_) (fun hc => ?_)))) <;> (first | (exfalso; omega) | skip))
    | (show Rch _ _ _ _ _ 75 _ _ _; refine Rch.blk' (Rn_mono mt _) bl_X4_toss_75 (i_iload_n rfl (i_iconst k_4 (t_ic_ne 88 80 rfl rfl (by first | with_reducible exact hI_R | with_reducible exact lcm_R | with_reducible exact band_R | with_reducible exact bor_R | with_reducible exact bshr_R | with_reducible exact bshl_R | omega | (simp (disch := omega) only [e_k, e_f]; omega)) (by first | with_reducible exact hI_R | with_reducible exact lcm_R | with_reducible exact band_R | with_reducible exact bor_R | with_reducible exact bshr_R | with_reducible exact bshl_R | omega | (simp (disch := omega) only [e_k, e_f]; omega)) (fun hc => ?_) (fun hc => ?_)))) <;> (first | (exfalso; omega) | skip))
    | (show Rch _ _ _ _ _ 80 _ _ _; refine Rch.blk' (Rn_mono mt _) bl_X4_toss_80 (i_bipush k_100 (i_iload rfl (i_iadd (t_goto 90 rfl ?_)))))
    | (show Rch _ _ _ _ _ 88 _ _ _; refine Rch.blk' (Rn_mono mt _) bl_X4_toss_88 (i_iload rfl (t_none ?_)))
    | (show Rch _ _ _ _ _ 90 _ _ _; refine Rch.blk' (Rn_mono mt _) bl_X4_toss_90 (t_iret ?_)))
theorem c_X4_thrown (hq : Q (some (ai (I (hI h 3 0 16)))) h) : Rn mt (d + 20) 199 [ar 3 0] h Q := by
  refine Rn.intro iX4_thrown rfl rfl ?_
  show Rch bX4_thrown _ _ _ _ 0 [some (ar 3 0)] [] _
  repeat' (first
    | exact hq
    | (show Rch _ _ _ _ _ 0 _ _ _; refine Rch.blk' (Rn_mono mt _) bl_X4_thrown_0 (i_aload_n rfl (i_gfi rfl (t_iret ?_)))))
theorem c_X4_element (hS : SR h S) (hK : OKS S) {z w : Int} (hz : inR z) (hw : inR w) (hq : ∀ h', hI h' 3 0 16 = vThr S z w → JY h h' → Q (some (al (L (vElt S z w)))) h') : Rn mt (d + 20) 203 [ar 3 0, ai (I z), ai (I w)] h Q := by
  refine Rn.intro iX4_element rfl rfl ?_
  show Rch bX4_element _ _ _ _ 0 [some (ar 3 0), some (ai (I z)), some (ai (I w))] [] _
  have e_h := fun a b => @SR.h _ _ z hS a b
  have e_z := fun a b => @SR.z _ _ z hS a b
  have g := hK z
  have e_e := fun a b c d e => @SR.e _ _ z w hS a b c d e
  have k1 : ¬ (0 ≤ z ∧ z < 8) → Q (some (al (L 0))) (mset h 3 0 16 (I 1)) := fun a => by
    have e : vElt S z w = 0 := by unfold vElt vThr; rw [if_pos a, if_neg (by omega)]
    rw [← e]
    exact hq _ (by unfold vThr; rw [if_pos a, hI_eq ⟨by omega, by omega⟩]) (JY.rf.ms (by omega))
  have k2 : (0 ≤ z ∧ z < 8) → (¬ ho S z = 2 ∨ ¬ (0 ≤ w ∧ w < sz S z)) → Q (some (al (L 0))) (mset h 3 0 16 (I 2)) := fun a b => by
    have e0 : vThr S z w = 2 := by unfold vThr; omega
    have e : vElt S z w = 0 := by unfold vElt; rw [e0, if_neg (by omega)]
    rw [← e]
    exact hq _ (by rw [e0, hI_eq ⟨by omega, by omega⟩]) (JY.rf.ms (by omega))
  have k3 : (0 ≤ z ∧ z < 8) → ho S z = 2 → (0 ≤ w ∧ w < sz S z) → Q (some (al (L (hI h 19 0 (100 * z + w).toNat)))) (mset h 3 0 16 (I 0)) := fun a b c => by
    have e0 : vThr S z w = 0 := by unfold vThr; omega
    have e : vElt S z w = el S z w := by unfold vElt; rw [if_pos e0]
    rw [e_e a.1 a.2 b c.1 (by have := (g a.1 a.2).2.2 b; omega), ← e]
    exact hq _ (by rw [e0, hI_eq ⟨by omega, by omega⟩]) (JY.rf.ms (by omega))
  repeat' (first
    | exact absurd trivial hc
    | (rw [L_i2l hI_R]; exact k3 (by omega) (by omega) (by omega))
    | (rw [l_0]; exact k1 (by omega))
    | (rw [l_0]; exact k2 (by omega) (by omega))
    | (show Rn _ _ 145 _ _ _; refine c_X4_isShelf (by first | omega | exact hI_R) (fun _ _ => ?_) (fun _ => ?_))
    | (show Rn _ _ 105 _ _ _; refine c_X4_isIn (by first | omega | exact hI_R) (by first | omega | exact hI_R) (by first | omega | exact hI_R) (fun _ _ => ?_) (fun _ => ?_))
    | (show Rch _ _ _ _ _ 0 _ _ _; refine Rch.blk' (Rn_mono mt _) bl_X4_element_0 (i_aload_n rfl (i_iload_n rfl (t_cs1 (Rn_mono mt _) 5 rfl (Nat.le_of_ble_eq_true rfl) ?_))))
    | (show Rch _ _ _ _ _ 5 _ _ _; refine Rch.blk' (Rn_mono mt _) bl_X4_element_5 (t_if_ne 12 8 rfl rfl (by first | with_reducible exact hI_R | with_reducible exact lcm_R | with_reducible exact band_R | with_reducible exact bor_R | with_reducible exact bshr_R | with_reducible exact bshl_R | omega | (simp (disch := omega) only [hI_eq, hI_nt, e_h, e_z]; omega)) (fun hc => ?_) (fun hc => ?_)) <;> (first | (exfalso; omega) | skip))
    | (show Rch _ _ _ _ _ 8 _ _ _; refine Rch.blk' (Rn_mono mt _) bl_X4_element_8 (i_iconst k_1 (t_goto 43 rfl ?_)))
    | (show Rch _ _ _ _ _ 12 _ _ _; refine Rch.blk' (Rn_mono mt _) bl_X4_element_12 (i_aload_n rfl (i_gfs rfl (i_iload_n rfl (i_iald (n := 8) rfl (by first | omega | (simp (disch := omega) only [hI_eq, hI_nt, e_h, e_z]; omega)) (by first | omega | (simp (disch := omega) only [hI_eq, hI_nt, e_h, e_z]; omega)) (by first | omega | (simp (disch := omega) only [hI_eq, hI_nt, e_h, e_z]; omega)) (i_iconst k_2 (t_ic_ne 38 22 rfl rfl (by first | with_reducible exact hI_R | with_reducible exact lcm_R | with_reducible exact band_R | with_reducible exact bor_R | with_reducible exact bshr_R | with_reducible exact bshl_R | omega | (simp (disch := omega) only [hI_eq, hI_nt, e_h, e_z]; omega)) (by first | with_reducible exact hI_R | with_reducible exact lcm_R | with_reducible exact band_R | with_reducible exact bor_R | with_reducible exact bshr_R | with_reducible exact bshl_R | omega | (simp (disch := omega) only [hI_eq, hI_nt, e_h, e_z]; omega)) (fun hc => ?_) (fun hc => ?_))))))) <;> (try (simp (disch := omega) only [hI_eq, hI_nt, e_h, e_z] at hc ⊢)) <;> (first | (exfalso; omega) | skip))
    | (show Rch _ _ _ _ _ 22 _ _ _; refine Rch.blk' (Rn_mono mt _) bl_X4_element_22 (i_iload_n rfl (i_iconst k_0 (i_aload_n rfl (i_gfs rfl (i_iload_n rfl (i_iald (n := 8) rfl (by first | omega | (simp (disch := omega) only [hI_eq, hI_nt, e_h, e_z]; omega)) (by first | omega | (simp (disch := omega) only [hI_eq, hI_nt, e_h, e_z]; omega)) (by first | omega | (simp (disch := omega) only [hI_eq, hI_nt, e_h, e_z]; omega)) (i_iconst k_1 (i_isub (t_cs3 (Rn_mono mt _) 35 rfl (Nat.le_of_ble_eq_true rfl) ?_))))))))) <;> (try (simp (disch := omega) only [hI_eq, hI_nt, e_h, e_z])))
    | (show Rch _ _ _ _ _ 35 _ _ _; refine Rch.blk' (Rn_mono mt _) bl_X4_element_35 (t_if_ne 42 38 rfl rfl (by first | with_reducible exact hI_R | with_reducible exact lcm_R | with_reducible exact band_R | with_reducible exact bor_R | with_reducible exact bshr_R | with_reducible exact bshl_R | omega | (simp (disch := omega) only [hI_eq, hI_nt, e_h, e_z]; omega)) (fun hc => ?_) (fun hc => ?_)) <;> (first | (exfalso; omega) | skip))
    | (show Rch _ _ _ _ _ 38 _ _ _; refine Rch.blk' (Rn_mono mt _) bl_X4_element_38 (i_iconst k_2 (t_goto 43 rfl ?_)))
    | (show Rch _ _ _ _ _ 42 _ _ _; refine Rch.blk' (Rn_mono mt _) bl_X4_element_42 (i_iconst k_0 (t_none ?_)))
    | (show Rch _ _ _ _ _ 43 _ _ _; refine Rch.blk' (Rn_mono mt _) bl_X4_element_43 (i_pfi rfl (i_aload_n rfl (i_gfi rfl (t_if_ne 68 53 rfl rfl (by first | with_reducible exact hI_R | with_reducible exact lcm_R | with_reducible exact band_R | with_reducible exact bor_R | with_reducible exact bshr_R | with_reducible exact bshl_R | omega | (simp (disch := omega) only [hI_eq, hI_nt, e_h, e_z]; omega)) (fun hc => ?_) (fun hc => ?_))))) <;> (try (simp (disch := omega) only [hI_eq, hI_nt, e_h, e_z] at hc ⊢)) <;> (first | (exfalso; omega) | skip))
    | (show Rch _ _ _ _ _ 53 _ _ _; refine Rch.blk' (Rn_mono mt _) bl_X4_element_53 (i_aload_n rfl (i_gfs rfl (i_bipush k_100 (i_iload_n rfl (i_imul (i_iload_n rfl (i_iadd (i_iald (n := 800) rfl (by first | omega | (simp (disch := omega) only [hI_eq, hI_nt, e_h, e_z]; omega)) (by first | omega | (simp (disch := omega) only [hI_eq, hI_nt, e_h, e_z]; omega)) (by first | omega | (simp (disch := omega) only [hI_eq, hI_nt, e_h, e_z]; omega)) (i_i2l (t_goto 69 rfl ?_)))))))))) <;> (try (simp (disch := omega) only [hI_eq, hI_nt, e_h, e_z])))
    | (show Rch _ _ _ _ _ 68 _ _ _; refine Rch.blk' (Rn_mono mt _) bl_X4_element_68 (i_lconst (t_none ?_)))
    | (show Rch _ _ _ _ _ 69 _ _ _; refine Rch.blk' (Rn_mono mt _) bl_X4_element_69 (t_lret ?_)))
end TSE

