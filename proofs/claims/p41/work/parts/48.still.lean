/-! STILL: the class -/
noncomputable abbrev gd (G : Bd) (n : Int) : Int := goer (setd (DN G no0 n) (dy (DN G no0 n) + 1)) no0 0 (dy (DN G no0 n) + 1)
noncomputable def lm (G : Bd) : Nat → Int
  | 0 => 0
  | n + 1 => ifp (¬ gd G n = -4) ((n : Int) + 1) (lm G n)
noncomputable def LM (G : Bd) (k : Int) : Int := lm G k.toNat
theorem LM_0 {G : Bd} : LM G 0 = 0 := rfl
theorem LM_up {G : Bd} {k : Int} (h0 : 0 ≤ k) : LM G (k + 1) = ifp (¬ gd G k = -4) (k + 1) (LM G k) := by
  obtain ⟨n, rfl⟩ := Int.eq_ofNat_of_zero_le h0
  unfold LM
  rw [show ((n : Int) + 1).toNat = n + 1 by omega, show ((n : Int)).toNat = n by omega]
  rfl
theorem LM_c {G : Bd} {k : Int} (h0 : 0 ≤ k) : (gd G k = -4 ∧ LM G (k + 1) = LM G k) ∨ (¬ gd G k = -4 ∧ LM G (k + 1) = k + 1) := by
  rw [LM_up h0]
  by_cases c : gd G k = -4
  · rw [ifp_n (fun z => z c)]; exact Or.inl ⟨c, rfl⟩
  · rw [ifp_p c]; exact Or.inr ⟨c, rfl⟩
theorem LM_r {G : Bd} : ∀ k : Int, 0 ≤ k → 0 ≤ LM G k ∧ LM G k ≤ k := by
  refine ind0 (by rw [LM_0]; omega) (fun k k0 ih => ?_)
  have := @LM_c G k k0
  omega
theorem LM_m {G : Bd} {a : Int} (a0 : 0 ≤ a) : ∀ k : Int, 0 ≤ k → LM G a ≤ LM G (a + k) := by
  refine ind0 (by rw [Int.add_zero]; omega) (fun k k0 ih => ?_)
  have e := @LM_c G (a + k) (by omega)
  have r := @LM_r G (a + k) (by omega)
  rw [show a + (k + 1) = (a + k) + 1 by omega]
  omega
noncomputable def vStill (G : Bd) : Int := if fst1 (fun n => n - LM G n = 20) 61 = -4 then -4 else fst1 (fun n => n - LM G n = 20) 61 - 20
theorem vStill_is {G : Bd} {k : Int} (k0 : 0 ≤ k) (k1 : k < 61) (hP : k - LM G k = 20) (hn : ∀ j : Int, 0 ≤ j → j < k → ¬ j - LM G j = 20) : vStill G = k - 20 := by
  unfold vStill
  rw [fst_is (P := fun n => n - LM G n = 20) k0 k1 hP hn]
  rw [if_neg (by omega)]
theorem vStill_no {G : Bd} (hn : ∀ j : Int, 0 ≤ j → j < 61 → ¬ j - LM G j = 20) : vStill G = -4 := by
  unfold vStill
  rw [fst_no (P := fun n => n - LM G n = 20) hn, if_pos rfl]
section C24
variable {d L : Nat} {h : Mem} {Q : Option AV → Mem → Prop} {G : Bd}
theorem c_X3_still (hG : RC h 0 G) (hO : OKB G) (hy : dy G ≤ 999) (hq : ∀ v h', v = vStill G → JX h h' → Q (some (ai (I v))) h') : Rn mt L (d + 6) 63 [ar 2 0] h Q := by
  refine Rn.intro iX3_still rfl rfl ?_
  show Rch bX3_still _ _ _ _ 0 [some (ar 2 0), none, none] [] _
  have key : ∀ m : Int, m ≤ 60 → 0 ≤ m → (∀ j : Int, 0 ≤ j → j < m + 1 → ¬ j - LM G j = 20) → ∀ (h' : Mem), RC h' 2 (DN G no0 m) → FrC h h' 2 → RH L bX3_still (d + 5) Q 15 [some (ar 2 0), some (ai (I (LM G m))), some (ai (I (m + 1)))] h' := by
    refine up_ind (fun m hm ih m0 hj h' hR hF => ?_)
    obtain ⟨hOk, hnk, hdk, -⟩ := DN_f (M := no0) hO m m0
    have g_r := @LM_r G m m0
    by_cases hm1 : m < 60
    · have ih := ih hm1 (by omega)
      have g_c := @LM_c G m m0
      refine Rch.blk' (Rn_mono mt _ _) bl_X3_still_15 (i_iload_n rfl (i_bipush k_60 (t_ic_gt 60 21 rfl rfl (by first | exact hI_R | exact band_R | exact bor_R | exact bshr_R | exact lcm_R | omega) (by first | exact hI_R | exact band_R | exact bor_R | exact bshr_R | exact lcm_R | omega) (fun hc => ?_) (fun hc => ?_)))) <;> (first | (exfalso; omega) | skip)
      refine Rch.blk' (Rn_mono mt _ _) bl_X3_still_21 (i_aload_n rfl (i_gfs rfl (i_iconst k_0 (i_iconst k_0 (t_cv3 (Rn_mono mt _ _) 30 rfl (Nat.le_of_ble_eq_true rfl) ?_)))))
      refine c_X0_passDay0 hR hOk (by omega) (by omega) (fun h2 hG2 hF2 v hv => ?_)
      rw [← DN_up m0] at hG2
      have hFa := hF.tr hF2
      have g_v : (v = 0 ∧ LM G (m + 1) = LM G m) ∨ (v = 1 ∧ LM G (m + 1) = m + 1) := by
        rcases hv with ⟨a, b⟩ | ⟨a, b⟩
        · exact Or.inl ⟨a, g_c.elim (fun z => z.2) (fun z => absurd b z.1)⟩
        · exact Or.inr ⟨a, g_c.elim (fun z => absurd z.1 b) (fun z => z.2)⟩
      clear hv g_c
      have kE : 40 < LM G (m + 1) → ∀ u, u = -4 → Q (some (ai (I u))) h2 := fun c u e => hq u h2 (by
        rw [e]; exact (vStill_no (fun j j0 j1 => by
          by_cases z : j < m + 1
          · exact hj j j0 z
          · have := @LM_m G (m + 1) (by omega) (j - (m + 1)) (by omega)
            rw [show (m + 1) + (j - (m + 1)) = j by omega] at this
            omega)).symm) (hFa.jx (by omega))
      have kR : m + 1 - LM G (m + 1) = 20 → ∀ u, u = LM G (m + 1) → Q (some (ai (I u))) h2 := fun c u e => hq u h2 (by
        have := vStill_is (k := m + 1) (by omega) (by omega) c hj
        omega) (hFa.jx (by omega))
      have kS : ¬ m + 1 - LM G (m + 1) = 20 → ∀ u, u = LM G (m + 1) → RH L bX3_still (d + 5) Q 15 [some (ar 2 0), some (ai (I u)), some (ai (I (m + 1 + 1)))] h2 := fun c u e => by
        rw [e]
        exact ih (fun j j0 j1 => by
          by_cases z : j = m + 1
          · subst z; exact c
          · exact hj j j0 (by omega)) h2 hG2 hFa
      clear ih hj
      repeat' (first
        | ((with_reducible refine kS ?_ _ ?_) <;> omega)
        | ((with_reducible refine kR ?_ _ ?_) <;> omega)
        | ((with_reducible refine kE ?_ _ ?_) <;> omega)
        | (show Rch _ _ _ _ _ 0 _ _ _; refine Rch.blk' (Rn_mono mt _ _) bl_X3_still_0 (i_aload_n rfl (i_gfs rfl (i_aload_n rfl (i_gfs rfl (t_cv2 (Rn_mono mt _ _) 11 rfl (Nat.le_of_ble_eq_true rfl) ?_))))))
        | (show Rch _ _ _ _ _ 11 _ _ _; refine Rch.blk' (Rn_mono mt _ _) bl_X3_still_11 (i_iconst k_0 (i_istore1 trivial (i_iconst k_1 (i_istore2 trivial (t_none ?_))))))
        | (show Rch _ _ _ _ _ 21 _ _ _; refine Rch.blk' (Rn_mono mt _ _) bl_X3_still_21 (i_aload_n rfl (i_gfs rfl (i_iconst k_0 (i_iconst k_0 (t_cv3 (Rn_mono mt _ _) 30 rfl (Nat.le_of_ble_eq_true rfl) ?_))))))
        | (show Rch _ _ _ _ _ 30 _ _ _; refine Rch.blk' (Rn_mono mt _ _) bl_X3_still_30 (t_if_eq 35 33 rfl rfl (by first | exact hI_R | exact band_R | exact bor_R | exact bshr_R | exact lcm_R | omega) (fun hc => ?_) (fun hc => ?_)) <;> (first | (exfalso; omega) | skip))
        | (show Rch _ _ _ _ _ 33 _ _ _; refine Rch.blk' (Rn_mono mt _ _) bl_X3_still_33 (i_iload_n rfl (i_istore1 trivial (t_none ?_))))
        | (show Rch _ _ _ _ _ 35 _ _ _; refine Rch.blk' (Rn_mono mt _ _) bl_X3_still_35 (i_iload_n rfl (i_bipush k_40 (t_ic_le 44 41 rfl rfl (by first | exact hI_R | exact band_R | exact bor_R | exact bshr_R | exact lcm_R | omega) (by first | exact hI_R | exact band_R | exact bor_R | exact bshr_R | exact lcm_R | omega) (fun hc => ?_) (fun hc => ?_)))) <;> (first | (exfalso; omega) | skip))
        | (show Rch _ _ _ _ _ 41 _ _ _; refine Rch.blk' (Rn_mono mt _ _) bl_X3_still_41 (i_bipush k_m4 (t_iret ?_)))
        | (show Rch _ _ _ _ _ 44 _ _ _; refine Rch.blk' (Rn_mono mt _ _) bl_X3_still_44 (i_iload_n rfl (i_iload_n rfl (i_isub (i_bipush k_20 (t_ic_ne 54 52 rfl rfl (by first | exact hI_R | exact band_R | exact bor_R | exact bshr_R | exact lcm_R | omega) (by first | exact hI_R | exact band_R | exact bor_R | exact bshr_R | exact lcm_R | omega) (fun hc => ?_) (fun hc => ?_)))))) <;> (first | (exfalso; omega) | skip))
        | (show Rch _ _ _ _ _ 52 _ _ _; refine Rch.blk' (Rn_mono mt _ _) bl_X3_still_52 (i_iload_n rfl (t_iret ?_)))
        | (show Rch _ _ _ _ _ 54 _ _ _; refine Rch.blk' (Rn_mono mt _ _) bl_X3_still_54 (i_iinc2 trivial k_1 (t_goto 15 rfl ?_)))
        | (show Rch _ _ _ _ _ 60 _ _ _; refine Rch.blk' (Rn_mono mt _ _) bl_X3_still_60 (i_bipush k_m4 (t_iret ?_))))
    · obtain rfl : m = 60 := by omega
      have kk : ∀ u, u = -4 → Q (some (ai (I u))) h' := fun u e => hq u h' (by rw [e]; exact (vStill_no (fun j j0 j1 => hj j j0 (by omega))).symm) (hF.jx (by omega))
      clear ih hj
      refine Rch.blk' (Rn_mono mt _ _) bl_X3_still_15 (i_iload_n rfl (i_bipush k_60 (t_ic_gt 60 21 rfl rfl (by first | exact hI_R | exact band_R | exact bor_R | exact bshr_R | exact lcm_R | omega) (by first | exact hI_R | exact band_R | exact bor_R | exact bshr_R | exact lcm_R | omega) (fun hc => ?_) (fun hc => ?_)))) <;> (first | (exfalso; omega) | skip)
      repeat' (first
        | ((with_reducible refine kk _ ?_) <;> omega)
        | (show Rch _ _ _ _ _ 0 _ _ _; refine Rch.blk' (Rn_mono mt _ _) bl_X3_still_0 (i_aload_n rfl (i_gfs rfl (i_aload_n rfl (i_gfs rfl (t_cv2 (Rn_mono mt _ _) 11 rfl (Nat.le_of_ble_eq_true rfl) ?_))))))
        | (show Rch _ _ _ _ _ 11 _ _ _; refine Rch.blk' (Rn_mono mt _ _) bl_X3_still_11 (i_iconst k_0 (i_istore1 trivial (i_iconst k_1 (i_istore2 trivial (t_none ?_))))))
        | (show Rch _ _ _ _ _ 21 _ _ _; refine Rch.blk' (Rn_mono mt _ _) bl_X3_still_21 (i_aload_n rfl (i_gfs rfl (i_iconst k_0 (i_iconst k_0 (t_cv3 (Rn_mono mt _ _) 30 rfl (Nat.le_of_ble_eq_true rfl) ?_))))))
        | (show Rch _ _ _ _ _ 30 _ _ _; refine Rch.blk' (Rn_mono mt _ _) bl_X3_still_30 (t_if_eq 35 33 rfl rfl (by first | exact hI_R | exact band_R | exact bor_R | exact bshr_R | exact lcm_R | omega) (fun hc => ?_) (fun hc => ?_)) <;> (first | (exfalso; omega) | skip))
        | (show Rch _ _ _ _ _ 33 _ _ _; refine Rch.blk' (Rn_mono mt _ _) bl_X3_still_33 (i_iload_n rfl (i_istore1 trivial (t_none ?_))))
        | (show Rch _ _ _ _ _ 35 _ _ _; refine Rch.blk' (Rn_mono mt _ _) bl_X3_still_35 (i_iload_n rfl (i_bipush k_40 (t_ic_le 44 41 rfl rfl (by first | exact hI_R | exact band_R | exact bor_R | exact bshr_R | exact lcm_R | omega) (by first | exact hI_R | exact band_R | exact bor_R | exact bshr_R | exact lcm_R | omega) (fun hc => ?_) (fun hc => ?_)))) <;> (first | (exfalso; omega) | skip))
        | (show Rch _ _ _ _ _ 41 _ _ _; refine Rch.blk' (Rn_mono mt _ _) bl_X3_still_41 (i_bipush k_m4 (t_iret ?_)))
        | (show Rch _ _ _ _ _ 44 _ _ _; refine Rch.blk' (Rn_mono mt _ _) bl_X3_still_44 (i_iload_n rfl (i_iload_n rfl (i_isub (i_bipush k_20 (t_ic_ne 54 52 rfl rfl (by first | exact hI_R | exact band_R | exact bor_R | exact bshr_R | exact lcm_R | omega) (by first | exact hI_R | exact band_R | exact bor_R | exact bshr_R | exact lcm_R | omega) (fun hc => ?_) (fun hc => ?_)))))) <;> (first | (exfalso; omega) | skip))
        | (show Rch _ _ _ _ _ 52 _ _ _; refine Rch.blk' (Rn_mono mt _ _) bl_X3_still_52 (i_iload_n rfl (t_iret ?_)))
        | (show Rch _ _ _ _ _ 54 _ _ _; refine Rch.blk' (Rn_mono mt _ _) bl_X3_still_54 (i_iinc2 trivial k_1 (t_goto 15 rfl ?_)))
        | (show Rch _ _ _ _ _ 60 _ _ _; refine Rch.blk' (Rn_mono mt _ _) bl_X3_still_60 (i_bipush k_m4 (t_iret ?_))))
  have kz : ∀ j : Int, 0 ≤ j → j < 0 + 1 → ¬ j - LM G j = 20 := by
    intro j j0 j1
    have := @LM_r G j j0
    omega
  repeat' (first
    | (show Rn _ _ _ 0 _ _ _; refine c_X0_becomes hG hO (by decide) (fun _ _ _ => ?_))
    | exact key 0 (by omega) (by omega) kz _ (by assumption) (by assumption)
    | (show Rch _ _ _ _ _ 0 _ _ _; refine Rch.blk' (Rn_mono mt _ _) bl_X3_still_0 (i_aload_n rfl (i_gfs rfl (i_aload_n rfl (i_gfs rfl (t_cv2 (Rn_mono mt _ _) 11 rfl (Nat.le_of_ble_eq_true rfl) ?_))))))
    | (show Rch _ _ _ _ _ 11 _ _ _; refine Rch.blk' (Rn_mono mt _ _) bl_X3_still_11 (i_iconst k_0 (i_istore1 trivial (i_iconst k_1 (i_istore2 trivial (t_none ?_))))))
    | (show Rch _ _ _ _ _ 21 _ _ _; refine Rch.blk' (Rn_mono mt _ _) bl_X3_still_21 (i_aload_n rfl (i_gfs rfl (i_iconst k_0 (i_iconst k_0 (t_cv3 (Rn_mono mt _ _) 30 rfl (Nat.le_of_ble_eq_true rfl) ?_))))))
    | (show Rch _ _ _ _ _ 30 _ _ _; refine Rch.blk' (Rn_mono mt _ _) bl_X3_still_30 (t_if_eq 35 33 rfl rfl (by first | exact hI_R | exact band_R | exact bor_R | exact bshr_R | exact lcm_R | omega) (fun hc => ?_) (fun hc => ?_)) <;> (first | (exfalso; omega) | skip))
    | (show Rch _ _ _ _ _ 33 _ _ _; refine Rch.blk' (Rn_mono mt _ _) bl_X3_still_33 (i_iload_n rfl (i_istore1 trivial (t_none ?_))))
    | (show Rch _ _ _ _ _ 35 _ _ _; refine Rch.blk' (Rn_mono mt _ _) bl_X3_still_35 (i_iload_n rfl (i_bipush k_40 (t_ic_le 44 41 rfl rfl (by first | exact hI_R | exact band_R | exact bor_R | exact bshr_R | exact lcm_R | omega) (by first | exact hI_R | exact band_R | exact bor_R | exact bshr_R | exact lcm_R | omega) (fun hc => ?_) (fun hc => ?_)))) <;> (first | (exfalso; omega) | skip))
    | (show Rch _ _ _ _ _ 41 _ _ _; refine Rch.blk' (Rn_mono mt _ _) bl_X3_still_41 (i_bipush k_m4 (t_iret ?_)))
    | (show Rch _ _ _ _ _ 44 _ _ _; refine Rch.blk' (Rn_mono mt _ _) bl_X3_still_44 (i_iload_n rfl (i_iload_n rfl (i_isub (i_bipush k_20 (t_ic_ne 54 52 rfl rfl (by first | exact hI_R | exact band_R | exact bor_R | exact bshr_R | exact lcm_R | omega) (by first | exact hI_R | exact band_R | exact bor_R | exact bshr_R | exact lcm_R | omega) (fun hc => ?_) (fun hc => ?_)))))) <;> (first | (exfalso; omega) | skip))
    | (show Rch _ _ _ _ _ 52 _ _ _; refine Rch.blk' (Rn_mono mt _ _) bl_X3_still_52 (i_iload_n rfl (t_iret ?_)))
    | (show Rch _ _ _ _ _ 54 _ _ _; refine Rch.blk' (Rn_mono mt _ _) bl_X3_still_54 (i_iinc2 trivial k_1 (t_goto 15 rfl ?_)))
    | (show Rch _ _ _ _ _ 60 _ _ _; refine Rch.blk' (Rn_mono mt _ _) bl_X3_still_60 (i_bipush k_m4 (t_iret ?_))))
end C24


