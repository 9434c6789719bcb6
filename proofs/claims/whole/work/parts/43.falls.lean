/-! FALLS: the reference's fallsOf -/
noncomputable def FO (G : Bd) (p : Int) : Int := fst1 (fun n => sq (DN G no0 n) p = 36) 61
section C20
variable {d : Nat} {h : Mem} {Q : Option AV → Mem → Prop} {G : Bd}
theorem c_X4_fallsOf (hG : RR h 0 G no0 0) (hO : OKB G) (hd : dy G ≤ 999) {p : Int} (p0 : 0 ≤ p) (p1 : p < nn G) (hq : ∀ v h', v = FO G p → (v = -4 ∨ (0 ≤ v ∧ v ≤ 60)) → FrR h h' 1 → Q (some (ai (I v))) h') : Rn mt (d + 10) 162 [ar 3 0, ai (I p)] h Q := by
  refine Rn.intro iX4_fallsOf rfl rfl ?_
  show Rch bX4_fallsOf _ _ _ _ 0 [some (ar 3 0), some (ai (I p)), none] [] _
  have key : ∀ k : Int, k ≤ 61 → 0 ≤ k → (∀ j : Int, 0 ≤ j → j < k → ¬ sq (DN G no0 j) p = 36) → ∀ h', RR h' 1 (DN G no0 k) no0 0 → FrR h h' 1 → RH bX4_fallsOf (d + 9) Q 13 [some (ar 3 0), some (ai (I p)), some (ai (I k))] h' := by
    refine up_ind (fun k hk ih hk0 hn h' hR hF => ?_)
    obtain ⟨hOk, hnk, hdk, -⟩ := DN_f (M := no0) hO k hk0
    have kE : ∀ u, u = -4 → 61 ≤ k → Q (some (ai (I u))) h' := fun u e a => hq _ _ (by rw [e]; exact (fst_no (fun j j0 j1 => hn j j0 (by omega))).symm) (Or.inl e) hF
    have kH : k < 61 → sq (DN G no0 k) p = 36 → Q (some (ai (I k))) h' := fun a b => hq _ _ (fst_is hk0 a b hn).symm (Or.inr ⟨hk0, by omega⟩) hF
    have ih2 : k < 61 → ¬ sq (DN G no0 k) p = 36 → ∀ h2, RR h2 1 (DAY (DN G no0 k) no0 0) no0 0 → FrR h' h2 1 → RH bX4_fallsOf (d + 9) Q 13 [some (ar 3 0), some (ai (I p)), some (ai (I (k + 1)))] h2 := fun a b h2 c e => ih a (by omega) (no_up hn b) h2 (by rw [DN_up hk0]; exact c) (hF.tr e)
    clear ih hn
    refine Rch.blk' (Rn_mono mt _) bl_X4_fallsOf_13 (i_iload_n rfl (i_bipush k_60 (t_ic_gt 45 19 rfl rfl (by first | exact hI_R | exact band_R | exact bor_R | exact bshr_R | exact lcm_R | omega) (by first | exact hI_R | exact band_R | exact bor_R | exact bshr_R | exact lcm_R | omega) (fun hc => ?_) (fun hc => ?_)))) <;> (first | (exfalso; omega) | skip)
    repeat' (first
      | (show Rn _ _ 114 _ _ _; refine c_X4_isHere hR hOk p0 (by omega) (fun _ _ => ?_) (fun _ => ?_))
      | (show Rn _ _ 137 _ _ _; refine c_X4_day hR hOk (by omega) (by omega) (fun _ _ _ => ?_))
      | exact kE _ (by omega) (by omega)
      | exact kH (by omega) (by omega)
      | exact ih2 (by omega) (by omega) _ (by assumption) (by assumption)
      | (show Rn _ _ 114 _ _ _; refine c_X4_isHere (by assumption) (by assumption) (by omega) (by omega) (fun _ _ => ?_) (fun _ => ?_))
      | (show Rch _ _ _ _ _ 0 _ _ _; refine Rch.blk' (Rn_mono mt _) bl_X4_fallsOf_0 (i_aload_n rfl (i_gfs rfl (i_aload_n rfl (i_gfs rfl (t_cs2 (Rn_mono mt _) 11 rfl (Nat.le_of_ble_eq_true rfl) ?_))))))
      | (show Rch _ _ _ _ _ 11 _ _ _; refine Rch.blk' (Rn_mono mt _) bl_X4_fallsOf_11 (i_iconst k_0 (i_istore2 trivial (t_none ?_))))
      | (show Rch _ _ _ _ _ 19 _ _ _; refine Rch.blk' (Rn_mono mt _) bl_X4_fallsOf_19 (i_aload_n rfl (i_gfs rfl (i_iload_n rfl (t_cs2 (Rn_mono mt _) 27 rfl (Nat.le_of_ble_eq_true rfl) ?_)))))
      | (show Rch _ _ _ _ _ 27 _ _ _; refine Rch.blk' (Rn_mono mt _) bl_X4_fallsOf_27 (t_if_ne 32 30 rfl rfl (by first | exact hI_R | exact band_R | exact bor_R | exact bshr_R | exact lcm_R | omega) (fun hc => ?_) (fun hc => ?_)) <;> (first | (exfalso; omega) | skip))
      | (show Rch _ _ _ _ _ 30 _ _ _; refine Rch.blk' (Rn_mono mt _) bl_X4_fallsOf_30 (i_iload_n rfl (t_iret ?_)))
      | (show Rch _ _ _ _ _ 32 _ _ _; refine Rch.blk' (Rn_mono mt _) bl_X4_fallsOf_32 (i_aload_n rfl (i_gfs rfl (t_cs1 (Rn_mono mt _) 39 rfl (Nat.le_of_ble_eq_true rfl) ?_))))
      | (show Rch _ _ _ _ _ 39 _ _ _; refine Rch.blk' (Rn_mono mt _) bl_X4_fallsOf_39 (i_iinc2 trivial k_1 (t_goto 13 rfl ?_)))
      | (show Rch _ _ _ _ _ 45 _ _ _; refine Rch.blk' (Rn_mono mt _) bl_X4_fallsOf_45 (i_bipush k_m4 (t_iret ?_))))
  repeat' (first
    | (show Rn _ _ 108 _ _ _; refine c_X4_copies hG hO (by decide) (fun _ _ _ => ?_))
    | exact key 0 (by omega) (by omega) (fun j _ _ => by omega) _ (by assumption) (by assumption)
    | (show Rn _ _ 114 _ _ _; refine c_X4_isHere (by assumption) (by assumption) (by omega) (by omega) (fun _ _ => ?_) (fun _ => ?_))
    | (show Rch _ _ _ _ _ 0 _ _ _; refine Rch.blk' (Rn_mono mt _) bl_X4_fallsOf_0 (i_aload_n rfl (i_gfs rfl (i_aload_n rfl (i_gfs rfl (t_cs2 (Rn_mono mt _) 11 rfl (Nat.le_of_ble_eq_true rfl) ?_))))))
    | (show Rch _ _ _ _ _ 11 _ _ _; refine Rch.blk' (Rn_mono mt _) bl_X4_fallsOf_11 (i_iconst k_0 (i_istore2 trivial (t_none ?_))))
    | (show Rch _ _ _ _ _ 19 _ _ _; refine Rch.blk' (Rn_mono mt _) bl_X4_fallsOf_19 (i_aload_n rfl (i_gfs rfl (i_iload_n rfl (t_cs2 (Rn_mono mt _) 27 rfl (Nat.le_of_ble_eq_true rfl) ?_)))))
    | (show Rch _ _ _ _ _ 27 _ _ _; refine Rch.blk' (Rn_mono mt _) bl_X4_fallsOf_27 (t_if_ne 32 30 rfl rfl (by first | exact hI_R | exact band_R | exact bor_R | exact bshr_R | exact lcm_R | omega) (fun hc => ?_) (fun hc => ?_)) <;> (first | (exfalso; omega) | skip))
    | (show Rch _ _ _ _ _ 30 _ _ _; refine Rch.blk' (Rn_mono mt _) bl_X4_fallsOf_30 (i_iload_n rfl (t_iret ?_)))
    | (show Rch _ _ _ _ _ 32 _ _ _; refine Rch.blk' (Rn_mono mt _) bl_X4_fallsOf_32 (i_aload_n rfl (i_gfs rfl (t_cs1 (Rn_mono mt _) 39 rfl (Nat.le_of_ble_eq_true rfl) ?_))))
    | (show Rch _ _ _ _ _ 39 _ _ _; refine Rch.blk' (Rn_mono mt _) bl_X4_fallsOf_39 (i_iinc2 trivial k_1 (t_goto 13 rfl ?_)))
    | (show Rch _ _ _ _ _ 45 _ _ _; refine Rch.blk' (Rn_mono mt _) bl_X4_fallsOf_45 (i_bipush k_m4 (t_iret ?_))))
end C20

