/-! element: the class's, and the law's call of it, in stages -/
section ELT
variable {d : Nat} {h : Mem} {S : Sv} {z w : Int}
def eStop (S : Sv) (z w : Int) (h : Mem) : Nat → Lc → List AV → Mem → Prop := fun pc ls st h' => h' = h ∧ ((pc = 10 ∧ st = [] ∧ ¬ (0 ≤ z ∧ z < 8)) ∨ (pc = 29 ∧ st = [] ∧ (0 ≤ z ∧ z < 8) ∧ ¬ ho S z = 2) ∨ (pc = 42 ∧ st = [ai (I w), ar 1 z.toNat] ∧ ls = [some (ar 2 0), some (ai (I z)), some (ai (I w)), some (ar 1 z.toNat)] ∧ (0 ≤ z ∧ z < 8) ∧ ho S z = 2))
def eStop2 (h : Mem) : Nat → Lc → List AV → Mem → Prop := fun pc _ st h' => pc = 48 ∧ st = [] ∧ h' = h
def eRt (S : Sv) (z w : Int) (h : Mem) : Option AV → Mem → Prop := fun v h' => v = some (al (L (vElt S z w))) ∧ h' = h ∧ vThr S z w = 0
theorem r_elt0 (hS : SC h S) (hz : inR z) : Rch bX3_element (Rn mt (d + 2)) 0 (eStop S z w h) (fun _ _ => False) 0 [some (ar 2 0), some (ai (I z)), some (ai (I w)), none] [] h := by
  have e_h := fun a b => @SC.h _ _ z hS a b
  repeat' (first
    | (with_reducible refine Rch.stop ?_; unfold eStop; refine ⟨rfl, Or.inl ⟨rfl, rfl, by omega⟩⟩)
    | (with_reducible refine Rch.stop ?_; unfold eStop; refine ⟨rfl, Or.inr (Or.inl ⟨rfl, rfl, by omega, by omega⟩)⟩)
    | (with_reducible refine Rch.stop ?_; unfold eStop; refine ⟨rfl, Or.inr (Or.inr ⟨rfl, rfl, rfl, by omega, by omega⟩)⟩)
    | (show Rn _ _ 57 _ _ _; refine c_X3_shelfAt (by first | omega | exact hI_R) (fun _ _ => ?_) (fun _ => ?_))
    | (show Rn _ _ 48 _ _ _; refine c_X2_hasPlace (by assumption) (by assumption) (by first | omega | exact hI_R) (by assumption) (by assumption) (by assumption) (fun _ _ _ => ?_) (fun _ => ?_))
    | (show Rn _ _ 50 _ _ _; refine c_X2_elementAt (by assumption) (by assumption) (by first | omega | exact hI_R) (by assumption) (by assumption) (by assumption) (fun _ _ _ => ?_) (fun _ => ?_))
    | (show Rch _ _ _ _ _ 0 _ _ _; refine Rch.blk' (Rn_mono mt _) bl_X3_element_0 (i_aload_n rfl (i_iload_n rfl (t_cv2 (Rn_mono mt _) 5 rfl (Nat.le_of_ble_eq_true rfl) ?_))))
    | (show Rch _ _ _ _ _ 5 _ _ _; refine Rch.blk' (Rn_mono mt _) bl_X3_element_5 (i_astore3 trivial (i_aload_n rfl (t_ifnonnull_n 10 rfl ?_))))
    | (show Rch _ _ _ _ _ 5 _ _ _; refine Rch.blk' (Rn_mono mt _) bl_X3_element_5 (i_astore3 trivial (i_aload_n rfl (t_ifnonnull_s 21 rfl ?_))))
    | (show Rch _ _ _ _ _ 21 _ _ _; refine Rch.blk' (Rn_mono mt _) bl_X3_element_21 (i_aload_n rfl (i_gfi rfl (i_iconst k_2 (t_ic_eq 40 29 rfl rfl (by first | with_reducible exact hI_R | with_reducible exact lcm_R | with_reducible exact band_R | with_reducible exact bor_R | with_reducible exact bshr_R | with_reducible exact bshl_R | omega | (simp (disch := omega) only [e_h]; omega)) (by first | with_reducible exact hI_R | with_reducible exact lcm_R | with_reducible exact band_R | with_reducible exact bor_R | with_reducible exact bshr_R | with_reducible exact bshl_R | omega | (simp (disch := omega) only [e_h]; omega)) (fun hc => ?_) (fun hc => ?_))))) <;> (try (simp (disch := omega) only [e_h] at hc ⊢)) <;> (first | (exfalso; omega) | skip))
    | (show Rch _ _ _ _ _ 40 _ _ _; refine Rch.blk' (Rn_mono mt _) bl_X3_element_40 (i_aload_n rfl (i_iload_n rfl (t_none ?_)))))
/-- hasPlace, at the call -/
theorem r_eltH (hS : SC h S) (hK : OKS S) (hw : inR w) (z0 : 0 ≤ z) (z1 : z < 8) (hh : ho S z = 2) : Rn mt (d + 1) 48 [ar 1 z.toNat, ai (I w)] h (fun v h' => h' = h ∧ ((v = some (ai (I 1)) ∧ 0 ≤ w ∧ w < sz S z) ∨ (v = some (ai (I 0)) ∧ ¬ (0 ≤ w ∧ w < sz S z)))) := by
  refine c_X2_hasPlace hS hK hw z0 z1 hh (fun a b _ => ⟨rfl, Or.inl ⟨rfl, a, b⟩⟩) (fun a => ⟨rfl, Or.inr ⟨rfl, a⟩⟩)
theorem r_elt1 (hS : SC h S) (hK : OKS S) (hw : inR w) (z0 : 0 ≤ z) (z1 : z < 8) (hh : ho S z = 2) (w0 : 0 ≤ w) (w1 : w < sz S z) : Rch bX3_element (Rn mt (d + 2)) 0 (fun _ _ _ _ => False) (eRt S z w h) 45 [some (ar 2 0), some (ai (I z)), some (ai (I w)), some (ar 1 z.toNat)] [ai (I 1)] h := by
  have e0 : vThr S z w = 0 := by unfold vThr; omega
  have e1 : vElt S z w = el S z w := by unfold vElt; rw [if_pos e0]
  have k1 : ∀ u : Int, inR u → u = el S z w → eRt S z w h (some (al (I u).toInt64)) h := fun u hu e => by subst e; rw [L_i2l hu, ← e1]; exact ⟨rfl, rfl, e0⟩
  repeat' (first
    | exact k1 _ (by assumption) rfl
    | (show eRt _ _ _ _ _ _; exfalso; omega)
    | (show Rn _ _ 57 _ _ _; refine c_X3_shelfAt (by first | omega | exact hI_R) (fun _ _ => ?_) (fun _ => ?_))
    | (show Rn _ _ 48 _ _ _; refine c_X2_hasPlace (by assumption) (by assumption) (by first | omega | exact hI_R) (by assumption) (by assumption) (by assumption) (fun _ _ _ => ?_) (fun _ => ?_))
    | (show Rn _ _ 50 _ _ _; refine c_X2_elementAt (by assumption) (by assumption) (by first | omega | exact hI_R) (by assumption) (by assumption) (by assumption) (fun _ _ _ => ?_) (fun _ => ?_))
    | (show Rch _ _ _ _ _ 0 _ _ _; refine Rch.blk' (Rn_mono mt _) bl_X3_element_0 (i_aload_n rfl (i_iload_n rfl (t_cv2 (Rn_mono mt _) 5 rfl (Nat.le_of_ble_eq_true rfl) ?_))))
    | (show Rch _ _ _ _ _ 5 _ _ _; refine Rch.blk' (Rn_mono mt _) bl_X3_element_5 (i_astore3 trivial (i_aload_n rfl (t_ifnonnull_n 10 rfl ?_))))
    | (show Rch _ _ _ _ _ 5 _ _ _; refine Rch.blk' (Rn_mono mt _) bl_X3_element_5 (i_astore3 trivial (i_aload_n rfl (t_ifnonnull_s 21 rfl ?_))))
    | (show Rch _ _ _ _ _ 21 _ _ _; refine Rch.blk' (Rn_mono mt _) bl_X3_element_21 (i_aload_n rfl (i_gfi rfl (i_iconst k_2 (t_ic_eq 40 29 rfl rfl (by first | with_reducible exact hI_R | with_reducible exact lcm_R | with_reducible exact band_R | with_reducible exact bor_R | with_reducible exact bshr_R | with_reducible exact bshl_R | omega) (by first | with_reducible exact hI_R | with_reducible exact lcm_R | with_reducible exact band_R | with_reducible exact bor_R | with_reducible exact bshr_R | with_reducible exact bshl_R | omega) (fun hc => ?_) (fun hc => ?_))))) <;> (first | (exfalso; omega) | skip))
    | (show Rch _ _ _ _ _ 40 _ _ _; refine Rch.blk' (Rn_mono mt _) bl_X3_element_40 (i_aload_n rfl (i_iload_n rfl (t_none ?_))))
    | (show Rch _ _ _ _ _ 45 _ _ _; refine Rch.blk' (Rn_mono mt _) bl_X3_element_45 (t_if_ne 59 48 rfl rfl (by first | with_reducible exact hI_R | with_reducible exact lcm_R | with_reducible exact band_R | with_reducible exact bor_R | with_reducible exact bshr_R | with_reducible exact bshl_R | omega) (fun hc => ?_) (fun hc => ?_)) <;> (first | (exfalso; omega) | skip))
    | (show Rch _ _ _ _ _ 59 _ _ _; refine Rch.blk' (Rn_mono mt _) bl_X3_element_59 (i_aload_n rfl (i_iload_n rfl (t_cv2 (Rn_mono mt _) 64 rfl (Nat.le_of_ble_eq_true rfl) ?_))))
    | (show Rch _ _ _ _ _ 64 _ _ _; refine Rch.blk' (Rn_mono mt _) bl_X3_element_64 (i_i2l (t_lret ?_))))
theorem r_elt2 : Rch bX3_element (Rn mt (d + 2)) 0 (eStop2 h) (eRt S z w h) 45 [some (ar 2 0), some (ai (I z)), some (ai (I w)), some (ar 1 z.toNat)] [ai (I 0)] h := by
  repeat' (first
    | (with_reducible refine Rch.stop ?_; unfold eStop2; exact ⟨rfl, rfl, rfl⟩)
    | (show Rn _ _ 57 _ _ _; refine c_X3_shelfAt (by first | omega | exact hI_R) (fun _ _ => ?_) (fun _ => ?_))
    | (show Rn _ _ 48 _ _ _; refine c_X2_hasPlace (by assumption) (by assumption) (by first | omega | exact hI_R) (by assumption) (by assumption) (by assumption) (fun _ _ _ => ?_) (fun _ => ?_))
    | (show Rn _ _ 50 _ _ _; refine c_X2_elementAt (by assumption) (by assumption) (by first | omega | exact hI_R) (by assumption) (by assumption) (by assumption) (fun _ _ _ => ?_) (fun _ => ?_))
    | (show Rch _ _ _ _ _ 0 _ _ _; refine Rch.blk' (Rn_mono mt _) bl_X3_element_0 (i_aload_n rfl (i_iload_n rfl (t_cv2 (Rn_mono mt _) 5 rfl (Nat.le_of_ble_eq_true rfl) ?_))))
    | (show Rch _ _ _ _ _ 5 _ _ _; refine Rch.blk' (Rn_mono mt _) bl_X3_element_5 (i_astore3 trivial (i_aload_n rfl (t_ifnonnull_n 10 rfl ?_))))
    | (show Rch _ _ _ _ _ 5 _ _ _; refine Rch.blk' (Rn_mono mt _) bl_X3_element_5 (i_astore3 trivial (i_aload_n rfl (t_ifnonnull_s 21 rfl ?_))))
    | (show Rch _ _ _ _ _ 21 _ _ _; refine Rch.blk' (Rn_mono mt _) bl_X3_element_21 (i_aload_n rfl (i_gfi rfl (i_iconst k_2 (t_ic_eq 40 29 rfl rfl (by first | with_reducible exact hI_R | with_reducible exact lcm_R | with_reducible exact band_R | with_reducible exact bor_R | with_reducible exact bshr_R | with_reducible exact bshl_R | omega) (by first | with_reducible exact hI_R | with_reducible exact lcm_R | with_reducible exact band_R | with_reducible exact bor_R | with_reducible exact bshr_R | with_reducible exact bshl_R | omega) (fun hc => ?_) (fun hc => ?_))))) <;> (first | (exfalso; omega) | skip))
    | (show Rch _ _ _ _ _ 40 _ _ _; refine Rch.blk' (Rn_mono mt _) bl_X3_element_40 (i_aload_n rfl (i_iload_n rfl (t_none ?_))))
    | (show Rch _ _ _ _ _ 45 _ _ _; refine Rch.blk' (Rn_mono mt _) bl_X3_element_45 (t_if_ne 59 48 rfl rfl (by first | with_reducible exact hI_R | with_reducible exact lcm_R | with_reducible exact band_R | with_reducible exact bor_R | with_reducible exact bshr_R | with_reducible exact bshl_R | omega) (fun hc => ?_) (fun hc => ?_)) <;> (first | (exfalso; omega) | skip))
    | (show Rch _ _ _ _ _ 59 _ _ _; refine Rch.blk' (Rn_mono mt _) bl_X3_element_59 (i_aload_n rfl (i_iload_n rfl (t_cv2 (Rn_mono mt _) 64 rfl (Nat.le_of_ble_eq_true rfl) ?_))))
    | (show Rch _ _ _ _ _ 64 _ _ _; refine Rch.blk' (Rn_mono mt _) bl_X3_element_64 (i_i2l (t_lret ?_))))
/-! the law's call -/
theorem r_le0 : Rch bL_element (Rn mt d) 0 (fun pc ls st h' => pc = 5 ∧ ls = [some (ar 2 0), some (ai (I z)), some (ai (I w)), some (ar 23 0), none] ∧ st = [ai (I w), ai (I z), ar 2 0, ai (I 0), ar 23 0] ∧ h' = h) (fun _ _ => False) 0 [some (ar 2 0), some (ai (I z)), some (ai (I w)), some (ar 23 0), none] [] h := by
  repeat' (first
    | (with_reducible refine Rch.stop ?_; exact ⟨rfl, rfl, rfl, rfl⟩)
    | (show Rch _ _ _ _ _ 0 _ _ _; refine Rch.blk' (Rn_mono mt _) bl_L_element_0 (i_aload_n rfl (i_iconst k_0 (i_aload_n rfl (i_iload_n rfl (i_iload_n rfl (t_none ?_))))))))
theorem r_le9 {Rt : Option AV → Mem → Prop} (hq : Rt (some (ai (I 0))) h) : Rch bL_element (Rn mt d) 0 (fun _ _ _ _ => False) Rt 9 [some (ar 2 0), some (ai (I z)), some (ai (I w)), some (ar 23 0), none] [] h := by
  repeat' (first
    | exact hq
    | (show Rch _ _ _ _ _ 0 _ _ _; refine Rch.blk' (Rn_mono mt _) bl_L_element_0 (i_aload_n rfl (i_iconst k_0 (i_aload_n rfl (i_iload_n rfl (i_iload_n rfl (t_none ?_)))))))
    | (show Rch _ _ _ _ _ 9 _ _ _; refine Rch.blk' (Rn_mono mt _) bl_L_element_9 (t_goto 20 rfl ?_))
    | (show Rch _ _ _ _ _ 14 _ _ _; refine Rch.blk' (Rn_mono mt _) bl_L_element_14 (i_iconst k_1 (t_iret ?_)))
    | (show Rch _ _ _ _ _ 18 _ _ _; refine Rch.blk' (Rn_mono mt _) bl_L_element_18 (i_iconst k_2 (t_iret ?_)))
    | (show Rch _ _ _ _ _ 20 _ _ _; refine Rch.blk' (Rn_mono mt _) bl_L_element_20 (i_iconst k_0 (t_iret ?_))))
theorem r_le14 {Rt : Option AV → Mem → Prop} (hq : Rt (some (ai (I 1))) h) : Rch bL_element (Rn mt d) 0 (fun _ _ _ _ => False) Rt 14 [some (ar 2 0), some (ai (I z)), some (ai (I w)), some (ar 23 0), none] [] h := by
  repeat' (first
    | exact hq
    | (show Rch _ _ _ _ _ 0 _ _ _; refine Rch.blk' (Rn_mono mt _) bl_L_element_0 (i_aload_n rfl (i_iconst k_0 (i_aload_n rfl (i_iload_n rfl (i_iload_n rfl (t_none ?_)))))))
    | (show Rch _ _ _ _ _ 9 _ _ _; refine Rch.blk' (Rn_mono mt _) bl_L_element_9 (t_goto 20 rfl ?_))
    | (show Rch _ _ _ _ _ 14 _ _ _; refine Rch.blk' (Rn_mono mt _) bl_L_element_14 (i_iconst k_1 (t_iret ?_)))
    | (show Rch _ _ _ _ _ 18 _ _ _; refine Rch.blk' (Rn_mono mt _) bl_L_element_18 (i_iconst k_2 (t_iret ?_)))
    | (show Rch _ _ _ _ _ 20 _ _ _; refine Rch.blk' (Rn_mono mt _) bl_L_element_20 (i_iconst k_0 (t_iret ?_))))
theorem r_le18 {Rt : Option AV → Mem → Prop} (hq : Rt (some (ai (I 2))) h) : Rch bL_element (Rn mt d) 0 (fun _ _ _ _ => False) Rt 18 [some (ar 2 0), some (ai (I z)), some (ai (I w)), some (ar 23 0), none] [] h := by
  repeat' (first
    | exact hq
    | (show Rch _ _ _ _ _ 0 _ _ _; refine Rch.blk' (Rn_mono mt _) bl_L_element_0 (i_aload_n rfl (i_iconst k_0 (i_aload_n rfl (i_iload_n rfl (i_iload_n rfl (t_none ?_)))))))
    | (show Rch _ _ _ _ _ 9 _ _ _; refine Rch.blk' (Rn_mono mt _) bl_L_element_9 (t_goto 20 rfl ?_))
    | (show Rch _ _ _ _ _ 14 _ _ _; refine Rch.blk' (Rn_mono mt _) bl_L_element_14 (i_iconst k_1 (t_iret ?_)))
    | (show Rch _ _ _ _ _ 18 _ _ _; refine Rch.blk' (Rn_mono mt _) bl_L_element_18 (i_iconst k_2 (t_iret ?_)))
    | (show Rch _ _ _ _ _ 20 _ _ _; refine Rch.blk' (Rn_mono mt _) bl_L_element_20 (i_iconst k_0 (t_iret ?_))))
end ELT

