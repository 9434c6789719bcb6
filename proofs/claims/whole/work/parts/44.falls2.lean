/-! FALLS: the reference's falls -/
abbrev FC (G : Bd) (p : Int) : Prop := sq G p < 36 ∧ 0 ≤ FO G p
noncomputable def FF (G : Bd) : Int := GB (FC G) (fun p => - FO G p) (nn G)
noncomputable def vFalls (G : Bd) (p : Int) : Int := if p = -1 then FF G else if 0 ≤ p ∧ p < nn G then FO G p else -1
section C21
variable {d : Nat} {h : Mem} {Q : Option AV → Mem → Prop} {G : Bd}
theorem c_X4_firstFalls (hG : RR h 0 G no0 0) (hO : OKB G) (hd : dy G ≤ 999) (hq : ∀ h', FrR h h' 1 → Q (some (ai (I (FF G)))) h') : Rn mt (d + 11) 163 [ar 3 0] h Q := by
  refine Rn.intro iX4_firstFalls rfl rfl ?_
  show Rch bX4_firstFalls _ _ _ _ 0 [some (ar 3 0), none, none, none, none] [] _
  have g_n := hO.n
  have key : ∀ k : Int, k ≤ nn G → 0 ≤ k → ∀ (o : Int) (u : Option AV) (h' : Mem), ((GB (FC G) (fun p => - FO G p) k < 0 → o = 1000000000) ∧ (¬ GB (FC G) (fun p => - FO G p) k < 0 → o = FO G (GB (FC G) (fun p => - FO G p) k) ∧ 0 ≤ o ∧ o ≤ 60)) → FrR h h' 1 → RH bX4_firstFalls (d + 10) Q 8 [some (ar 3 0), some (ai (I (GB (FC G) (fun p => - FO G p) k))), some (ai (I o)), some (ai (I k)), u] h' := by
    refine up_ind (fun k hk ih hk0 o u h' ho hF => ?_)
    have hR := hG.fr hF (by decide)
    have e_n := hR.n
    have g_o : 0 ≤ o ∧ o ≤ 1000000000 := by
      by_cases c : GB (FC G) (fun p => - FO G p) k < 0
      · have := ho.1 c; omega
      · have := ho.2 c; omega
    by_cases hk1 : k < nn G
    · have ih := ih hk1 (by omega)
      have g_k := hO.pc k hk0 hk1
      rw [GB_up hk0] at ih
      have ih1 : ∀ (w : Int) (h2 : Mem) (u : Option AV), FrR h' h2 1 → w = FO G k → w ≤ 60 → sq G k < 36 → 0 ≤ w → w < o → RH bX4_firstFalls (d + 10) Q 8 [some (ar 3 0), some (ai (I k)), some (ai (I w)), some (ai (I (k + 1))), u] h2 := by
        intro w h2 u hF2 e e2 c1 c2 c3
        have c5 : FC G k ∧ (GB (FC G) (fun p => - FO G p) k < 0 ∨ - FO G (GB (FC G) (fun p => - FO G p) k) < - FO G k) := by
          refine ⟨⟨c1, by omega⟩, ?_⟩
          by_cases c : GB (FC G) (fun p => - FO G p) k < 0
          · exact Or.inl c
          · right; have := ho.2 c; omega
        rw [ifp_p c5] at ih
        exact ih w u h2 ⟨fun z => by omega, fun _ => ⟨e, c2, e2⟩⟩ (hF.tr hF2)
      have ih0 : ∀ (w : Int) (h2 : Mem) (u : Option AV), FrR h' h2 1 → w = FO G k → ¬ (sq G k < 36 ∧ 0 ≤ w ∧ w < o) → w ≤ 60 → RH bX4_firstFalls (d + 10) Q 8 [some (ar 3 0), some (ai (I (GB (FC G) (fun p => - FO G p) k))), some (ai (I o)), some (ai (I (k + 1))), u] h2 := by
        intro w h2 u hF2 e c1 e2
        have c5 : ¬ (FC G k ∧ (GB (FC G) (fun p => - FO G p) k < 0 ∨ - FO G (GB (FC G) (fun p => - FO G p) k) < - FO G k)) := by
          rintro ⟨⟨a1, a2⟩, a3⟩
          apply c1
          refine ⟨a1, by omega, ?_⟩
          by_cases c : GB (FC G) (fun p => - FO G p) k < 0
          · have := ho.1 c; omega
          · have := ho.2 c
            rcases a3 with a3 | a3
            · exact absurd a3 c
            · omega
        rw [ifp_n c5] at ih
        exact ih o u h2 ho (hF.tr hF2)
      have ih2 : ∀ (u : Option AV), ¬ sq G k < 36 → RH bX4_firstFalls (d + 10) Q 8 [some (ar 3 0), some (ai (I (GB (FC G) (fun p => - FO G p) k))), some (ai (I o)), some (ai (I (k + 1))), u] h' := by
        intro u c1
        rw [ifp_n (fun z => c1 z.1.1)] at ih
        exact ih o u h' ho hF
      clear ih ho
      refine Rch.blk' (Rn_mono mt _) bl_X4_firstFalls_8 (i_iload_n rfl (i_aload_n rfl (i_gfs rfl (i_iconst k_0 (i_iald (n := 46) rfl (by first | omega | (simp (disch := omega) only [e_n]; omega)) (by first | omega | (simp (disch := omega) only [e_n]; omega)) (by first | omega | (simp (disch := omega) only [e_n]; omega)) (t_ic_ge 66 18 rfl rfl (by first | exact hI_R | exact band_R | exact bor_R | exact bshr_R | exact lcm_R | omega | (simp (disch := omega) only [e_n]; omega)) (by first | exact hI_R | exact band_R | exact bor_R | exact bshr_R | exact lcm_R | omega | (simp (disch := omega) only [e_n]; omega)) (fun hc => ?_) (fun hc => ?_))))))) <;> (try (simp (disch := omega) only [e_n] at hc ⊢)) <;> (first | (exfalso; omega) | skip)
      repeat' (first
        | (show Rn _ _ 162 _ _ _; refine c_X4_fallsOf hR hO hd hk0 hk1 (fun _ _ _ _ _ => ?_))
        | ((with_reducible refine ih1 _ _ _ (by assumption) (by assumption) ?_ ?_ ?_ ?_) <;> omega)
        | ((with_reducible refine ih2 _ ?_) <;> omega)
        | ((with_reducible refine ih0 _ _ _ (by assumption) (by assumption) ?_ ?_) <;> omega)
        | (show Rn _ _ 114 _ _ _; refine c_X4_isHere (by assumption) (by assumption) (by omega) (by omega) (fun _ _ => ?_) (fun _ => ?_))
        | (show Rch _ _ _ _ _ 0 _ _ _; refine Rch.blk' (Rn_mono mt _) bl_X4_firstFalls_0 (i_bipush k_m4 (i_istore1 trivial (i_ldc k_1000000000 (i_istore2 trivial (i_iconst k_0 (i_istore3 trivial (t_none ?_))))))))
        | (show Rch _ _ _ _ _ 18 _ _ _; refine Rch.blk' (Rn_mono mt _) bl_X4_firstFalls_18 (i_aload_n rfl (i_gfs rfl (i_iload_n rfl (t_cs2 (Rn_mono mt _) 26 rfl (Nat.le_of_ble_eq_true rfl) ?_)))))
        | (show Rch _ _ _ _ _ 26 _ _ _; refine Rch.blk' (Rn_mono mt _) bl_X4_firstFalls_26 (t_if_eq 37 29 rfl rfl (by first | exact hI_R | exact band_R | exact bor_R | exact bshr_R | exact lcm_R | omega) (fun hc => ?_) (fun hc => ?_)) <;> (first | (exfalso; omega) | skip))
        | (show Rch _ _ _ _ _ 29 _ _ _; refine Rch.blk' (Rn_mono mt _) bl_X4_firstFalls_29 (i_aload_n rfl (i_iload_n rfl (t_cv2 (Rn_mono mt _) 34 rfl (Nat.le_of_ble_eq_true rfl) ?_))))
        | (show Rch _ _ _ _ _ 34 _ _ _; refine Rch.blk' (Rn_mono mt _) bl_X4_firstFalls_34 (t_goto 39 rfl ?_))
        | (show Rch _ _ _ _ _ 37 _ _ _; refine Rch.blk' (Rn_mono mt _) bl_X4_firstFalls_37 (i_bipush k_m4 (t_none ?_)))
        | (show Rch _ _ _ _ _ 39 _ _ _; refine Rch.blk' (Rn_mono mt _) bl_X4_firstFalls_39 (i_istore4 trivial (i_iload rfl (t_if_lt 60 46 rfl rfl (by first | exact hI_R | exact band_R | exact bor_R | exact bshr_R | exact lcm_R | omega) (fun hc => ?_) (fun hc => ?_)))) <;> (first | (exfalso; omega) | skip))
        | (show Rch _ _ _ _ _ 46 _ _ _; refine Rch.blk' (Rn_mono mt _) bl_X4_firstFalls_46 (i_iload rfl (i_iload_n rfl (t_ic_lt 55 52 rfl rfl (by first | exact hI_R | exact band_R | exact bor_R | exact bshr_R | exact lcm_R | omega) (by first | exact hI_R | exact band_R | exact bor_R | exact bshr_R | exact lcm_R | omega) (fun hc => ?_) (fun hc => ?_)))) <;> (first | (exfalso; omega) | skip))
        | (show Rch _ _ _ _ _ 52 _ _ _; refine Rch.blk' (Rn_mono mt _) bl_X4_firstFalls_52 (t_goto 60 rfl ?_))
        | (show Rch _ _ _ _ _ 55 _ _ _; refine Rch.blk' (Rn_mono mt _) bl_X4_firstFalls_55 (i_iload_n rfl (i_istore1 trivial (i_iload rfl (i_istore2 trivial (t_none ?_))))))
        | (show Rch _ _ _ _ _ 60 _ _ _; refine Rch.blk' (Rn_mono mt _) bl_X4_firstFalls_60 (i_iinc3 trivial k_1 (t_goto 8 rfl ?_)))
        | (show Rch _ _ _ _ _ 66 _ _ _; refine Rch.blk' (Rn_mono mt _) bl_X4_firstFalls_66 (i_iload_n rfl (t_iret ?_))))
    · obtain rfl : k = nn G := by omega
      have kk := hq h' hF
      refine Rch.blk' (Rn_mono mt _) bl_X4_firstFalls_8 (i_iload_n rfl (i_aload_n rfl (i_gfs rfl (i_iconst k_0 (i_iald (n := 46) rfl (by first | omega | (simp (disch := omega) only [e_n]; omega)) (by first | omega | (simp (disch := omega) only [e_n]; omega)) (by first | omega | (simp (disch := omega) only [e_n]; omega)) (t_ic_ge 66 18 rfl rfl (by first | exact hI_R | exact band_R | exact bor_R | exact bshr_R | exact lcm_R | omega | (simp (disch := omega) only [e_n]; omega)) (by first | exact hI_R | exact band_R | exact bor_R | exact bshr_R | exact lcm_R | omega | (simp (disch := omega) only [e_n]; omega)) (fun hc => ?_) (fun hc => ?_))))))) <;> (try (simp (disch := omega) only [e_n] at hc ⊢)) <;> (first | (exfalso; omega) | skip)
      repeat' (first
        | exact kk
        | (show Rn _ _ 114 _ _ _; refine c_X4_isHere (by assumption) (by assumption) (by omega) (by omega) (fun _ _ => ?_) (fun _ => ?_))
        | (show Rch _ _ _ _ _ 0 _ _ _; refine Rch.blk' (Rn_mono mt _) bl_X4_firstFalls_0 (i_bipush k_m4 (i_istore1 trivial (i_ldc k_1000000000 (i_istore2 trivial (i_iconst k_0 (i_istore3 trivial (t_none ?_))))))))
        | (show Rch _ _ _ _ _ 18 _ _ _; refine Rch.blk' (Rn_mono mt _) bl_X4_firstFalls_18 (i_aload_n rfl (i_gfs rfl (i_iload_n rfl (t_cs2 (Rn_mono mt _) 26 rfl (Nat.le_of_ble_eq_true rfl) ?_)))))
        | (show Rch _ _ _ _ _ 26 _ _ _; refine Rch.blk' (Rn_mono mt _) bl_X4_firstFalls_26 (t_if_eq 37 29 rfl rfl (by first | exact hI_R | exact band_R | exact bor_R | exact bshr_R | exact lcm_R | omega) (fun hc => ?_) (fun hc => ?_)) <;> (first | (exfalso; omega) | skip))
        | (show Rch _ _ _ _ _ 29 _ _ _; refine Rch.blk' (Rn_mono mt _) bl_X4_firstFalls_29 (i_aload_n rfl (i_iload_n rfl (t_cv2 (Rn_mono mt _) 34 rfl (Nat.le_of_ble_eq_true rfl) ?_))))
        | (show Rch _ _ _ _ _ 34 _ _ _; refine Rch.blk' (Rn_mono mt _) bl_X4_firstFalls_34 (t_goto 39 rfl ?_))
        | (show Rch _ _ _ _ _ 37 _ _ _; refine Rch.blk' (Rn_mono mt _) bl_X4_firstFalls_37 (i_bipush k_m4 (t_none ?_)))
        | (show Rch _ _ _ _ _ 39 _ _ _; refine Rch.blk' (Rn_mono mt _) bl_X4_firstFalls_39 (i_istore4 trivial (i_iload rfl (t_if_lt 60 46 rfl rfl (by first | exact hI_R | exact band_R | exact bor_R | exact bshr_R | exact lcm_R | omega) (fun hc => ?_) (fun hc => ?_)))) <;> (first | (exfalso; omega) | skip))
        | (show Rch _ _ _ _ _ 46 _ _ _; refine Rch.blk' (Rn_mono mt _) bl_X4_firstFalls_46 (i_iload rfl (i_iload_n rfl (t_ic_lt 55 52 rfl rfl (by first | exact hI_R | exact band_R | exact bor_R | exact bshr_R | exact lcm_R | omega) (by first | exact hI_R | exact band_R | exact bor_R | exact bshr_R | exact lcm_R | omega) (fun hc => ?_) (fun hc => ?_)))) <;> (first | (exfalso; omega) | skip))
        | (show Rch _ _ _ _ _ 52 _ _ _; refine Rch.blk' (Rn_mono mt _) bl_X4_firstFalls_52 (t_goto 60 rfl ?_))
        | (show Rch _ _ _ _ _ 55 _ _ _; refine Rch.blk' (Rn_mono mt _) bl_X4_firstFalls_55 (i_iload_n rfl (i_istore1 trivial (i_iload rfl (i_istore2 trivial (t_none ?_))))))
        | (show Rch _ _ _ _ _ 60 _ _ _; refine Rch.blk' (Rn_mono mt _) bl_X4_firstFalls_60 (i_iinc3 trivial k_1 (t_goto 8 rfl ?_)))
        | (show Rch _ _ _ _ _ 66 _ _ _; refine Rch.blk' (Rn_mono mt _) bl_X4_firstFalls_66 (i_iload_n rfl (t_iret ?_))))
  repeat' (first
    | exact key 0 (by omega) (by omega) 1000000000 _ _ ⟨fun _ => rfl, fun z => absurd (show (-4 : Int) < 0 by omega) z⟩ FrR.rf
    | (show Rn _ _ 114 _ _ _; refine c_X4_isHere (by assumption) (by assumption) (by omega) (by omega) (fun _ _ => ?_) (fun _ => ?_))
    | (show Rch _ _ _ _ _ 0 _ _ _; refine Rch.blk' (Rn_mono mt _) bl_X4_firstFalls_0 (i_bipush k_m4 (i_istore1 trivial (i_ldc k_1000000000 (i_istore2 trivial (i_iconst k_0 (i_istore3 trivial (t_none ?_))))))))
    | (show Rch _ _ _ _ _ 18 _ _ _; refine Rch.blk' (Rn_mono mt _) bl_X4_firstFalls_18 (i_aload_n rfl (i_gfs rfl (i_iload_n rfl (t_cs2 (Rn_mono mt _) 26 rfl (Nat.le_of_ble_eq_true rfl) ?_)))))
    | (show Rch _ _ _ _ _ 26 _ _ _; refine Rch.blk' (Rn_mono mt _) bl_X4_firstFalls_26 (t_if_eq 37 29 rfl rfl (by first | exact hI_R | exact band_R | exact bor_R | exact bshr_R | exact lcm_R | omega) (fun hc => ?_) (fun hc => ?_)) <;> (first | (exfalso; omega) | skip))
    | (show Rch _ _ _ _ _ 29 _ _ _; refine Rch.blk' (Rn_mono mt _) bl_X4_firstFalls_29 (i_aload_n rfl (i_iload_n rfl (t_cv2 (Rn_mono mt _) 34 rfl (Nat.le_of_ble_eq_true rfl) ?_))))
    | (show Rch _ _ _ _ _ 34 _ _ _; refine Rch.blk' (Rn_mono mt _) bl_X4_firstFalls_34 (t_goto 39 rfl ?_))
    | (show Rch _ _ _ _ _ 37 _ _ _; refine Rch.blk' (Rn_mono mt _) bl_X4_firstFalls_37 (i_bipush k_m4 (t_none ?_)))
    | (show Rch _ _ _ _ _ 39 _ _ _; refine Rch.blk' (Rn_mono mt _) bl_X4_firstFalls_39 (i_istore4 trivial (i_iload rfl (t_if_lt 60 46 rfl rfl (by first | exact hI_R | exact band_R | exact bor_R | exact bshr_R | exact lcm_R | omega) (fun hc => ?_) (fun hc => ?_)))) <;> (first | (exfalso; omega) | skip))
    | (show Rch _ _ _ _ _ 46 _ _ _; refine Rch.blk' (Rn_mono mt _) bl_X4_firstFalls_46 (i_iload rfl (i_iload_n rfl (t_ic_lt 55 52 rfl rfl (by first | exact hI_R | exact band_R | exact bor_R | exact bshr_R | exact lcm_R | omega) (by first | exact hI_R | exact band_R | exact bor_R | exact bshr_R | exact lcm_R | omega) (fun hc => ?_) (fun hc => ?_)))) <;> (first | (exfalso; omega) | skip))
    | (show Rch _ _ _ _ _ 52 _ _ _; refine Rch.blk' (Rn_mono mt _) bl_X4_firstFalls_52 (t_goto 60 rfl ?_))
    | (show Rch _ _ _ _ _ 55 _ _ _; refine Rch.blk' (Rn_mono mt _) bl_X4_firstFalls_55 (i_iload_n rfl (i_istore1 trivial (i_iload rfl (i_istore2 trivial (t_none ?_))))))
    | (show Rch _ _ _ _ _ 60 _ _ _; refine Rch.blk' (Rn_mono mt _) bl_X4_firstFalls_60 (i_iinc3 trivial k_1 (t_goto 8 rfl ?_)))
    | (show Rch _ _ _ _ _ 66 _ _ _; refine Rch.blk' (Rn_mono mt _) bl_X4_firstFalls_66 (i_iload_n rfl (t_iret ?_))))
theorem c_X4_falls (hG : RR h 0 G no0 0) (hO : OKB G) (hd : dy G ≤ 999) {p : Int} (hp : inR p) (hq : ∀ v h', v = vFalls G p → JY h h' → Q (some (ai (I v))) h') : Rn mt (d + 20) 164 [ar 3 0, ai (I p)] h Q := by
  refine Rn.intro iX4_falls rfl rfl ?_
  show Rch bX4_falls _ _ _ _ 0 [some (ar 3 0), some (ai (I p))] [] _
  have k1 : ∀ h', FrR h h' 1 → p = -1 → Q (some (ai (I (FF G)))) h' := fun h' a e => hq _ _ (by unfold vFalls; rw [if_pos e]) (a.jy (by omega))
  have k2 : ∀ v h', v = FO G p → FrR h h' 1 → (0 ≤ p ∧ p < nn G) → Q (some (ai (I v))) h' := fun v h' e a c => hq _ _ (by unfold vFalls; rw [if_neg (by omega), if_pos c]; exact e) (a.jy (by omega))
  have k3 : ∀ u, u = -1 → ¬ p = -1 → ¬ (0 ≤ p ∧ p < nn G) → Q (some (ai (I u))) h := fun u e a c => hq _ _ (by unfold vFalls; rw [if_neg a, if_neg c]; exact e) JY.rf
  clear hq
  repeat' (first
    | (show Rn _ _ 162 _ _ _; refine c_X4_fallsOf hG hO hd (by omega) (by omega) (fun _ _ _ _ _ => ?_))
    | (show Rn _ _ 163 _ _ _; refine c_X4_firstFalls hG hO hd (fun _ _ => ?_))
    | ((with_reducible refine k1 _ (by assumption) ?_) <;> omega)
    | ((with_reducible refine k2 _ _ (by assumption) (by assumption) ?_) <;> omega)
    | ((with_reducible refine k3 _ ?_ ?_ ?_) <;> omega)
    | (show Rn _ _ 110 _ _ _; refine c_X4_isPiece (by assumption) (by assumption) (by first | omega | exact hI_R) (fun _ _ => ?_) (fun _ => ?_))
    | (show Rch _ _ _ _ _ 0 _ _ _; refine Rch.blk' (Rn_mono mt _) bl_X4_falls_0 (i_iload_n rfl (i_iconst k_m1 (t_ic_ne 12 5 rfl rfl (by first | exact hI_R | exact band_R | exact bor_R | exact bshr_R | exact lcm_R | omega) (by first | exact hI_R | exact band_R | exact bor_R | exact bshr_R | exact lcm_R | omega) (fun hc => ?_) (fun hc => ?_)))) <;> (first | (exfalso; omega) | skip))
    | (show Rch _ _ _ _ _ 5 _ _ _; refine Rch.blk' (Rn_mono mt _) bl_X4_falls_5 (i_aload_n rfl (t_cv1 (Rn_mono mt _) 9 rfl (Nat.le_of_ble_eq_true rfl) ?_)))
    | (show Rch _ _ _ _ _ 9 _ _ _; refine Rch.blk' (Rn_mono mt _) bl_X4_falls_9 (t_goto 29 rfl ?_))
    | (show Rch _ _ _ _ _ 12 _ _ _; refine Rch.blk' (Rn_mono mt _) bl_X4_falls_12 (i_aload_n rfl (i_iload_n rfl (t_cv2 (Rn_mono mt _) 17 rfl (Nat.le_of_ble_eq_true rfl) ?_))))
    | (show Rch _ _ _ _ _ 17 _ _ _; refine Rch.blk' (Rn_mono mt _) bl_X4_falls_17 (t_if_eq 28 20 rfl rfl (by first | exact hI_R | exact band_R | exact bor_R | exact bshr_R | exact lcm_R | omega) (fun hc => ?_) (fun hc => ?_)) <;> (first | (exfalso; omega) | skip))
    | (show Rch _ _ _ _ _ 20 _ _ _; refine Rch.blk' (Rn_mono mt _) bl_X4_falls_20 (i_aload_n rfl (i_iload_n rfl (t_cv2 (Rn_mono mt _) 25 rfl (Nat.le_of_ble_eq_true rfl) ?_))))
    | (show Rch _ _ _ _ _ 25 _ _ _; refine Rch.blk' (Rn_mono mt _) bl_X4_falls_25 (t_goto 29 rfl ?_))
    | (show Rch _ _ _ _ _ 28 _ _ _; refine Rch.blk' (Rn_mono mt _) bl_X4_falls_28 (i_iconst k_m1 (t_none ?_)))
    | (show Rch _ _ _ _ _ 29 _ _ _; refine Rch.blk' (Rn_mono mt _) bl_X4_falls_29 (t_iret ?_)))
end C21

