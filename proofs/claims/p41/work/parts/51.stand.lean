/-! STAND: both sides -/
theorem GB_ge {C : Int → Prop} {w : Int → Int} {j : Int} (j0 : 0 ≤ j) (hC : C j) : ∀ k : Int, 0 ≤ k → j < k → 0 ≤ GB C w k := by
  refine ind0 (fun h => by omega) (fun k k0 ih hk => ?_)
  rw [GB_up k0]
  by_cases c : C k ∧ (GB C w k < 0 ∨ w (GB C w k) < w k)
  · rw [ifp_p c]; exact k0
  · rw [ifp_n c]
    by_cases e : j = k
    · subst e
      exact Int.not_lt.mp (fun z => c ⟨hC, Or.inl z⟩)
    · exact ih (by omega)
def stC (G : Bd) (p s : Int) : Prop := ons G s = -4 ∨ ons G s = p
noncomputable def stW (G : Bd) (p n s : Int) : Int := WO (DN (mov G p s) no0 n) (sd G p) - WO (DN (mov G p s) no0 n) (1 - sd G p)
noncomputable def vStand (G : Bd) (p n w : Int) : Int := if (0 ≤ p ∧ p < nn G) ∧ (0 ≤ n ∧ n ≤ 20) ∧ 0 ≤ w ∧ w ≤ 1 then (if sq G p < 36 then (if w = 0 then GB (stC G p) (stW G p n) 36 else stW G p n (GB (stC G p) (stW G p n) 36) + 100) else -3) else -1
theorem OKB_st {G : Bd} (hO : OKB G) {p s : Int} (s0 : 0 ≤ s) (s1 : s < 36) (hC : stC G p s) : OKB (mov G p s) := OKB_mov hO s0 (by omega) (fun _ => hC)
theorem stW_R {G : Bd} (hO : OKB G) {p n s : Int} (s0 : 0 ≤ s) (s1 : s < 36) (n0 : 0 ≤ n) (hC : stC G p s) : -90 ≤ stW G p n s ∧ stW G p n s ≤ 90 := by
  have hD := (DN_f (M := no0) (OKB_st hO s0 s1 hC) n n0).1
  have h1 := WO_R hD (sd G p)
  have h2 := WO_R hD (1 - sd G p)
  unfold stW
  omega
theorem st_ge {G : Bd} (hO : OKB G) {p n : Int} (p0 : 0 ≤ p) (p1 : p < nn G) (h : sq G p < 36) : 0 ≤ GB (stC G p) (stW G p n) 36 :=
  GB_ge (j := sq G p) (hO.pc p p0 p1).2.2.2.1 (Or.inr (ons_at hO p0 p1 h)) 36 (by omega) h
section C26
variable {d L : Nat} {h : Mem} {Q : Option AV → Mem → Prop} {G : Bd}
theorem c_X3_placeInMind (hG : RC h 0 G) (hO : OKB G) {p s : Int} (p0 : 0 ≤ p) (p1 : p < nn G) (s0 : 0 ≤ s) (s1 : s < 36) (h1 : stC G p s → ∀ h', RC h' 2 (mov G p s) → FrC h h' 2 → Q (some (ai (I 1))) h') (h0 : ¬ stC G p s → ∀ h', RC h' 2 G → FrC h h' 2 → Q (some (ai (I 0))) h') : Rn mt L (d + 4) 67 [ar 2 0, ai (I p), ai (I s)] h Q := by
  refine Rn.intro iX3_placeInMind rfl rfl ?_
  show Rch bX3_placeInMind _ _ _ _ 0 [some (ar 2 0), some (ai (I p)), some (ai (I s))] [] _
  have g_n := hO.n
  refine Rch.blk' (Rn_mono mt _ _) bl_X3_placeInMind_0 (i_aload_n rfl (i_gfs rfl (i_aload_n rfl (i_gfs rfl (t_cv2 (Rn_mono mt _ _) 11 rfl (Nat.le_of_ble_eq_true rfl) ?_)))))
  refine c_X0_becomes hG hO (by decide) (fun h2 hG2 hF2 => ?_)
  have k1 : ∀ h', stC G p s → RC h' 2 (mov G p s) → FrC h2 h' 2 → Q (some (ai (I 1))) h' := fun h' a b c => h1 a h' b (hF2.tr c)
  have k0 : ¬ stC G p s → Q (some (ai (I 0))) h2 := fun a => h0 a h2 hG2 hF2
  repeat' (first
    | (show Rn _ _ _ 13 _ _ _; refine c_X0_movePiece hG2 hO ⟨by omega, by omega⟩ ⟨by omega, by omega⟩ (fun _ _ _ _ hC9 _ _ _ => ?_) (fun hC9 => ?_))
    | exact k1 _ hC9 (by assumption) (by assumption)
    | exact k0 (fun z => hC9 ⟨⟨p0, p1⟩, ⟨s0, s1⟩, z⟩)
    | (show Rn _ _ _ 13 _ _ _; refine c_X0_movePiece (by assumption) (by assumption) (by first | omega | exact hI_R) (by first | omega | exact hI_R) (fun _ _ _ _ _ _ _ _ => ?_) (fun _ => ?_))
    | (show Rch _ _ _ _ _ 0 _ _ _; refine Rch.blk' (Rn_mono mt _ _) bl_X3_placeInMind_0 (i_aload_n rfl (i_gfs rfl (i_aload_n rfl (i_gfs rfl (t_cv2 (Rn_mono mt _ _) 11 rfl (Nat.le_of_ble_eq_true rfl) ?_))))))
    | (show Rch _ _ _ _ _ 11 _ _ _; refine Rch.blk' (Rn_mono mt _ _) bl_X3_placeInMind_11 (i_aload_n rfl (i_gfs rfl (i_iload_n rfl (i_iload_n rfl (t_cv3 (Rn_mono mt _ _) 20 rfl (Nat.le_of_ble_eq_true rfl) ?_))))))
    | (show Rch _ _ _ _ _ 20 _ _ _; refine Rch.blk' (Rn_mono mt _ _) bl_X3_placeInMind_20 (t_zret (by omega) ?_)))
theorem c_X3_stand (hG : RC h 0 G) (hO : OKB G) (hy : dy G ≤ 999) {p n w : Int} (hp : inR p) (hn : inR n) (hw : inR w) (hq : ∀ v h', v = vStand G p n w → JX h h' → Q (some (ai (I v))) h') : Rn mt L (d + 7) 68 [ar 2 0, ai (I p), ai (I n), ai (I w)] h Q := by
  refine Rn.intro iX3_stand rfl rfl ?_
  show Rch bX3_stand _ _ _ _ 0 [some (ar 2 0), some (ai (I p)), some (ai (I n)), some (ai (I w)), none, none, none, none] [] _
  have g_n := hO.n
  have k1 : ∀ u, u = -1 → ¬ ((0 ≤ p ∧ p < nn G) ∧ (0 ≤ n ∧ n ≤ 20) ∧ 0 ≤ w ∧ w ≤ 1) → Q (some (ai (I u))) h := fun u e a => hq _ _ (by unfold vStand; rw [if_neg a]; exact e) JX.rf
  have k2 : ∀ u, u = -3 → ((0 ≤ p ∧ p < nn G) ∧ (0 ≤ n ∧ n ≤ 20) ∧ 0 ≤ w ∧ w ≤ 1) → ¬ sq G p < 36 → Q (some (ai (I u))) h := fun u e a c => hq _ _ (by unfold vStand; rw [if_pos a, if_neg c]; exact e) JX.rf
  have key : ((0 ≤ p ∧ p < nn G) ∧ (0 ≤ n ∧ n ≤ 20) ∧ 0 ≤ w ∧ w ≤ 1) → sq G p < 36 → ∀ k : Int, k ≤ 36 → 0 ≤ k → ∀ (o : Int) (u : Option AV) (h' : Mem), ((GB (stC G p) (stW G p n) k < 0 → o = 0) ∧ (¬ GB (stC G p) (stW G p n) k < 0 → o = stW G p n (GB (stC G p) (stW G p n) k))) → FrC h h' 2 → RH L bX3_stand (d + 6) Q 56 [some (ar 2 0), some (ai (I p)), some (ai (I n)), some (ai (I w)), some (ai (I (GB (stC G p) (stW G p n) k))), some (ai (I o)), some (ai (I k)), u] h' := by
    intro ha hb
    refine up_ind (fun k hk ih hk0 o u h' ho hF => ?_)
    have g_g := GB_R (C := stC G p) (w := stW G p n) k hk0
    have g_o : -90 ≤ o ∧ o ≤ 90 := by
      rcases g_g with e | ⟨e0, e1, e2⟩
      · rw [ho.1 (by omega)]; omega
      · rw [ho.2 (by omega)]; exact stW_R hO e0 (by omega) ha.2.1.1 e2
    have g_gr : GB (stC G p) (stW G p n) k = -4 ∨ (0 ≤ GB (stC G p) (stW G p n) k ∧ GB (stC G p) (stW G p n) k < k) := g_g.elim Or.inl (fun z => Or.inr ⟨z.1, z.2.1⟩)
    clear g_g
    have hR := hG.fr hF (by decide)
    by_cases hk1 : k < 36
    · have ih := ih hk1 (by omega)
      rw [GB_up hk0] at ih
      have ih1 : ∀ (v : Int) (u : Option AV) (h2 : Mem), FrC h h2 2 → stC G p k → v = stW G p n k → (GB (stC G p) (stW G p n) k = -4 ∨ o < v) → RH L bX3_stand (d + 6) Q 56 [some (ar 2 0), some (ai (I p)), some (ai (I n)), some (ai (I w)), some (ai (I k)), some (ai (I v)), some (ai (I (k + 1))), u] h2 := by
        intro v u h2 hF2 hC9 e c
        have c5 : stC G p k ∧ (GB (stC G p) (stW G p n) k < 0 ∨ stW G p n (GB (stC G p) (stW G p n) k) < stW G p n k) := by
          refine ⟨hC9, ?_⟩
          by_cases z : GB (stC G p) (stW G p n) k < 0
          · exact Or.inl z
          · right; have := ho.2 z; omega
        rw [ifp_p c5] at ih
        exact ih v u h2 ⟨fun z => by omega, fun _ => e⟩ hF2
      have ih0 : ∀ (v : Int) (u : Option AV) (h2 : Mem), FrC h h2 2 → v = stW G p n k → ¬ (GB (stC G p) (stW G p n) k = -4 ∨ o < v) → RH L bX3_stand (d + 6) Q 56 [some (ar 2 0), some (ai (I p)), some (ai (I n)), some (ai (I w)), some (ai (I (GB (stC G p) (stW G p n) k))), some (ai (I o)), some (ai (I (k + 1))), u] h2 := by
        intro v u h2 hF2 e c
        have c5 : ¬ (stC G p k ∧ (GB (stC G p) (stW G p n) k < 0 ∨ stW G p n (GB (stC G p) (stW G p n) k) < stW G p n k)) := by
          rintro ⟨-, a5⟩
          apply c
          by_cases z : GB (stC G p) (stW G p n) k < 0
          · left; omega
          · right; have := ho.2 z; omega
        rw [ifp_n c5] at ih
        exact ih o u h2 ho hF2
      have ih2 : ∀ (u : Option AV) (h2 : Mem), FrC h h2 2 → ¬ stC G p k → RH L bX3_stand (d + 6) Q 56 [some (ar 2 0), some (ai (I p)), some (ai (I n)), some (ai (I w)), some (ai (I (GB (stC G p) (stW G p n) k))), some (ai (I o)), some (ai (I (k + 1))), u] h2 := by
        intro u h2 hF2 c
        rw [ifp_n (fun z => c z.1)] at ih
        exact ih o u h2 ho hF2
      clear ih ho
      refine Rch.blk' (Rn_mono mt _ _) bl_X3_stand_56 (i_iload rfl (i_bipush k_36 (t_ic_ge 146 63 rfl rfl (by first | exact hI_R | exact band_R | exact bor_R | exact bshr_R | exact lcm_R | omega) (by first | exact hI_R | exact band_R | exact bor_R | exact bshr_R | exact lcm_R | omega) (fun hc => ?_) (fun hc => ?_)))) <;> (first | (exfalso; omega) | skip)
      refine Rch.blk' (Rn_mono mt _ _) bl_X3_stand_63 (i_aload_n rfl (i_iload_n rfl (i_iload rfl (t_cv3 (Rn_mono mt _ _) 70 rfl (Nat.le_of_ble_eq_true rfl) ?_))))
      refine c_X3_placeInMind hR hO (by omega) (by omega) hk0 hk1 (fun hC9 h2 hG2 hF2 => ?_) (fun hC9 h2 hG2 hF2 => ?_)
      · have hO2 := OKB_st hO hk0 hk1 hC9
        refine Rch.blk' (Rn_mono mt _ _) bl_X3_stand_70 (t_if_eq 140 73 rfl rfl (by first | exact hI_R | exact band_R | exact bor_R | exact bshr_R | exact lcm_R | omega) (fun hc => ?_) (fun hc => ?_)) <;> (first | (exfalso; omega) | skip)
        refine Rch.blk' (Rn_mono mt _ _) bl_X3_stand_73 (i_aload_n rfl (i_gfs rfl (i_iload_n rfl (t_cv2 (Rn_mono mt _ _) 81 rfl (Nat.le_of_ble_eq_true rfl) ?_))))
        refine c_X0_passDays hG2 hO2 (by omega) (by omega) (show dy G < 800000 by omega) (fun h3 hG3 hF3 => ?_)
        have hO3 := (DN_f (M := no0) hO2 n (by omega)).1
        have hF9 := (hF.tr hF2).tr hF3
        have hR3 := hG.fr hF9 (by decide)
        have e_s := @RC.s _ _ _ hR3 p (by omega) (by omega)
        have g_p := hO.pc p (by omega) (by omega)
        have g_v : stW G p n k = WO (DN (mov G p k) no0 n) (sd G p) - WO (DN (mov G p k) no0 n) (1 - sd G p) := rfl
        have ih1 := fun v u => ih1 v u h3 hF9 hC9
        have ih0 := fun v u => ih0 v u h3 hF9
        clear ih2 hR hG hF hF9 hG2 hR3
        repeat' (first
          | (show Rn _ _ _ 35 _ _ _; refine c_X0_worthOf hG3 hO3 (by omega) (fun _ _ => ?_))
          | ((with_reducible refine ih1 _ _ ?_ ?_) <;> omega)
          | ((with_reducible refine ih0 (stW G p n k) _ rfl ?_) <;> omega)
          | (show Rn _ _ _ 1 _ _ _; refine c_X0_has (by assumption) (by assumption) (by first | omega | exact hI_R) (fun _ _ => ?_) (fun _ => ?_))
          | (show Rn _ _ _ 2 _ _ _; refine c_X0_isThere (by assumption) (by assumption) (by first | omega | exact hI_R) (fun _ _ _ _ => ?_) (fun _ => ?_))
          | (show Rn _ _ _ 35 _ _ _; refine c_X0_worthOf (by assumption) (by assumption) (by first | omega | exact hI_R) (fun _ _ => ?_))
          | (show Rch _ _ _ _ _ 0 _ _ _; refine Rch.blk' (Rn_mono mt _ _) bl_X3_stand_0 (i_aload_n rfl (i_gfs rfl (i_iload_n rfl (t_cv2 (Rn_mono mt _ _) 8 rfl (Nat.le_of_ble_eq_true rfl) ?_)))) <;> (try (simp (disch := omega) only [e_s])))
          | (show Rch _ _ _ _ _ 8 _ _ _; refine Rch.blk' (Rn_mono mt _ _) bl_X3_stand_8 (t_if_eq 30 11 rfl rfl (by first | exact hI_R | exact band_R | exact bor_R | exact bshr_R | exact lcm_R | omega | (simp (disch := omega) only [e_s]; omega)) (fun hc => ?_) (fun hc => ?_)) <;> (first | (exfalso; omega) | skip))
          | (show Rch _ _ _ _ _ 11 _ _ _; refine Rch.blk' (Rn_mono mt _ _) bl_X3_stand_11 (i_iload_n rfl (t_if_lt 30 15 rfl rfl (by first | exact hI_R | exact band_R | exact bor_R | exact bshr_R | exact lcm_R | omega | (simp (disch := omega) only [e_s]; omega)) (fun hc => ?_) (fun hc => ?_))) <;> (first | (exfalso; omega) | skip))
          | (show Rch _ _ _ _ _ 15 _ _ _; refine Rch.blk' (Rn_mono mt _ _) bl_X3_stand_15 (i_iload_n rfl (i_bipush k_20 (t_ic_gt 30 21 rfl rfl (by first | exact hI_R | exact band_R | exact bor_R | exact bshr_R | exact lcm_R | omega | (simp (disch := omega) only [e_s]; omega)) (by first | exact hI_R | exact band_R | exact bor_R | exact bshr_R | exact lcm_R | omega | (simp (disch := omega) only [e_s]; omega)) (fun hc => ?_) (fun hc => ?_)))) <;> (first | (exfalso; omega) | skip))
          | (show Rch _ _ _ _ _ 21 _ _ _; refine Rch.blk' (Rn_mono mt _ _) bl_X3_stand_21 (i_iload_n rfl (t_if_lt 30 25 rfl rfl (by first | exact hI_R | exact band_R | exact bor_R | exact bshr_R | exact lcm_R | omega | (simp (disch := omega) only [e_s]; omega)) (fun hc => ?_) (fun hc => ?_))) <;> (first | (exfalso; omega) | skip))
          | (show Rch _ _ _ _ _ 25 _ _ _; refine Rch.blk' (Rn_mono mt _ _) bl_X3_stand_25 (i_iload_n rfl (i_iconst k_1 (t_ic_le 32 30 rfl rfl (by first | exact hI_R | exact band_R | exact bor_R | exact bshr_R | exact lcm_R | omega | (simp (disch := omega) only [e_s]; omega)) (by first | exact hI_R | exact band_R | exact bor_R | exact bshr_R | exact lcm_R | omega | (simp (disch := omega) only [e_s]; omega)) (fun hc => ?_) (fun hc => ?_)))) <;> (first | (exfalso; omega) | skip))
          | (show Rch _ _ _ _ _ 30 _ _ _; refine Rch.blk' (Rn_mono mt _ _) bl_X3_stand_30 (i_iconst k_m1 (t_iret ?_)))
          | (show Rch _ _ _ _ _ 32 _ _ _; refine Rch.blk' (Rn_mono mt _ _) bl_X3_stand_32 (i_aload_n rfl (i_gfs rfl (i_iload_n rfl (t_cv2 (Rn_mono mt _ _) 40 rfl (Nat.le_of_ble_eq_true rfl) ?_)))) <;> (try (simp (disch := omega) only [e_s])))
          | (show Rch _ _ _ _ _ 40 _ _ _; refine Rch.blk' (Rn_mono mt _ _) bl_X3_stand_40 (t_if_ne 46 43 rfl rfl (by first | exact hI_R | exact band_R | exact bor_R | exact bshr_R | exact lcm_R | omega | (simp (disch := omega) only [e_s]; omega)) (fun hc => ?_) (fun hc => ?_)) <;> (first | (exfalso; omega) | skip))
          | (show Rch _ _ _ _ _ 43 _ _ _; refine Rch.blk' (Rn_mono mt _ _) bl_X3_stand_43 (i_bipush k_m3 (t_iret ?_)))
          | (show Rch _ _ _ _ _ 46 _ _ _; refine Rch.blk' (Rn_mono mt _ _) bl_X3_stand_46 (i_bipush k_m4 (i_istore4 trivial (i_iconst k_0 (i_istore5 trivial (i_iconst k_0 (i_istore6 trivial (t_none ?_))))))))
          | (show Rch _ _ _ _ _ 63 _ _ _; refine Rch.blk' (Rn_mono mt _ _) bl_X3_stand_63 (i_aload_n rfl (i_iload_n rfl (i_iload rfl (t_cv3 (Rn_mono mt _ _) 70 rfl (Nat.le_of_ble_eq_true rfl) ?_)))))
          | (show Rch _ _ _ _ _ 70 _ _ _; refine Rch.blk' (Rn_mono mt _ _) bl_X3_stand_70 (t_if_eq 140 73 rfl rfl (by first | exact hI_R | exact band_R | exact bor_R | exact bshr_R | exact lcm_R | omega | (simp (disch := omega) only [e_s]; omega)) (fun hc => ?_) (fun hc => ?_)) <;> (first | (exfalso; omega) | skip))
          | (show Rch _ _ _ _ _ 73 _ _ _; refine Rch.blk' (Rn_mono mt _ _) bl_X3_stand_73 (i_aload_n rfl (i_gfs rfl (i_iload_n rfl (t_cv2 (Rn_mono mt _ _) 81 rfl (Nat.le_of_ble_eq_true rfl) ?_)))) <;> (try (simp (disch := omega) only [e_s])))
          | (show Rch _ _ _ _ _ 81 _ _ _; refine Rch.blk' (Rn_mono mt _ _) bl_X3_stand_81 (i_aload_n rfl (i_gfs rfl (i_aload_n rfl (i_gfs rfl (i_gfr rfl (i_iload_n rfl (i_iald (n := 10) rfl (by first | omega | (simp (disch := omega) only [e_s]; omega)) (by first | omega | (simp (disch := omega) only [e_s]; omega)) (by first | omega | (simp (disch := omega) only [e_s]; omega)) (t_cv2 (Rn_mono mt _ _) 97 rfl (Nat.le_of_ble_eq_true rfl) ?_)))))))) <;> (try (simp (disch := omega) only [e_s])))
          | (show Rch _ _ _ _ _ 97 _ _ _; refine Rch.blk' (Rn_mono mt _ _) bl_X3_stand_97 (i_aload_n rfl (i_gfs rfl (i_iconst k_1 (i_aload_n rfl (i_gfs rfl (i_gfr rfl (i_iload_n rfl (i_iald (n := 10) rfl (by first | omega | (simp (disch := omega) only [e_s]; omega)) (by first | omega | (simp (disch := omega) only [e_s]; omega)) (by first | omega | (simp (disch := omega) only [e_s]; omega)) (i_isub (t_cv2 (Rn_mono mt _ _) 115 rfl (Nat.le_of_ble_eq_true rfl) ?_)))))))))) <;> (try (simp (disch := omega) only [e_s])))
          | (show Rch _ _ _ _ _ 115 _ _ _; refine Rch.blk' (Rn_mono mt _ _) bl_X3_stand_115 (i_isub (i_istore7 trivial (i_iload rfl (i_bipush k_m4 (t_ic_eq 132 125 rfl rfl (by first | exact hI_R | exact band_R | exact bor_R | exact bshr_R | exact lcm_R | omega | (simp (disch := omega) only [e_s]; omega)) (by first | exact hI_R | exact band_R | exact bor_R | exact bshr_R | exact lcm_R | omega | (simp (disch := omega) only [e_s]; omega)) (fun hc => ?_) (fun hc => ?_)))))) <;> (first | (exfalso; omega) | skip))
          | (show Rch _ _ _ _ _ 125 _ _ _; refine Rch.blk' (Rn_mono mt _ _) bl_X3_stand_125 (i_iload rfl (i_iload rfl (t_ic_le 140 132 rfl rfl (by first | exact hI_R | exact band_R | exact bor_R | exact bshr_R | exact lcm_R | omega | (simp (disch := omega) only [e_s]; omega)) (by first | exact hI_R | exact band_R | exact bor_R | exact bshr_R | exact lcm_R | omega | (simp (disch := omega) only [e_s]; omega)) (fun hc => ?_) (fun hc => ?_)))) <;> (first | (exfalso; omega) | skip))
          | (show Rch _ _ _ _ _ 132 _ _ _; refine Rch.blk' (Rn_mono mt _ _) bl_X3_stand_132 (i_iload rfl (i_istore4 trivial (i_iload rfl (i_istore5 trivial (t_none ?_))))))
          | (show Rch _ _ _ _ _ 140 _ _ _; refine Rch.blk' (Rn_mono mt _ _) bl_X3_stand_140 (i_iinc6 trivial k_1 (t_goto 56 rfl ?_)))
          | (show Rch _ _ _ _ _ 146 _ _ _; refine Rch.blk' (Rn_mono mt _ _) bl_X3_stand_146 (i_iload_n rfl (t_if_ne 155 150 rfl rfl (by first | exact hI_R | exact band_R | exact bor_R | exact bshr_R | exact lcm_R | omega | (simp (disch := omega) only [e_s]; omega)) (fun hc => ?_) (fun hc => ?_))) <;> (first | (exfalso; omega) | skip))
          | (show Rch _ _ _ _ _ 150 _ _ _; refine Rch.blk' (Rn_mono mt _ _) bl_X3_stand_150 (i_iload rfl (t_goto 160 rfl ?_)))
          | (show Rch _ _ _ _ _ 155 _ _ _; refine Rch.blk' (Rn_mono mt _ _) bl_X3_stand_155 (i_iload rfl (i_bipush k_100 (i_iadd (t_none ?_)))))
          | (show Rch _ _ _ _ _ 160 _ _ _; refine Rch.blk' (Rn_mono mt _ _) bl_X3_stand_160 (t_iret ?_)))
      · have ih2 := fun u => ih2 u h2 (hF.tr hF2) hC9
        clear ih1 ih0 hG2
        repeat' (first
          | exact ih2 _
          | (show Rn _ _ _ 1 _ _ _; refine c_X0_has (by assumption) (by assumption) (by first | omega | exact hI_R) (fun _ _ => ?_) (fun _ => ?_))
          | (show Rn _ _ _ 2 _ _ _; refine c_X0_isThere (by assumption) (by assumption) (by first | omega | exact hI_R) (fun _ _ _ _ => ?_) (fun _ => ?_))
          | (show Rn _ _ _ 35 _ _ _; refine c_X0_worthOf (by assumption) (by assumption) (by first | omega | exact hI_R) (fun _ _ => ?_))
          | (show Rch _ _ _ _ _ 0 _ _ _; refine Rch.blk' (Rn_mono mt _ _) bl_X3_stand_0 (i_aload_n rfl (i_gfs rfl (i_iload_n rfl (t_cv2 (Rn_mono mt _ _) 8 rfl (Nat.le_of_ble_eq_true rfl) ?_)))))
          | (show Rch _ _ _ _ _ 8 _ _ _; refine Rch.blk' (Rn_mono mt _ _) bl_X3_stand_8 (t_if_eq 30 11 rfl rfl (by first | exact hI_R | exact band_R | exact bor_R | exact bshr_R | exact lcm_R | omega) (fun hc => ?_) (fun hc => ?_)) <;> (first | (exfalso; omega) | skip))
          | (show Rch _ _ _ _ _ 11 _ _ _; refine Rch.blk' (Rn_mono mt _ _) bl_X3_stand_11 (i_iload_n rfl (t_if_lt 30 15 rfl rfl (by first | exact hI_R | exact band_R | exact bor_R | exact bshr_R | exact lcm_R | omega) (fun hc => ?_) (fun hc => ?_))) <;> (first | (exfalso; omega) | skip))
          | (show Rch _ _ _ _ _ 15 _ _ _; refine Rch.blk' (Rn_mono mt _ _) bl_X3_stand_15 (i_iload_n rfl (i_bipush k_20 (t_ic_gt 30 21 rfl rfl (by first | exact hI_R | exact band_R | exact bor_R | exact bshr_R | exact lcm_R | omega) (by first | exact hI_R | exact band_R | exact bor_R | exact bshr_R | exact lcm_R | omega) (fun hc => ?_) (fun hc => ?_)))) <;> (first | (exfalso; omega) | skip))
          | (show Rch _ _ _ _ _ 21 _ _ _; refine Rch.blk' (Rn_mono mt _ _) bl_X3_stand_21 (i_iload_n rfl (t_if_lt 30 25 rfl rfl (by first | exact hI_R | exact band_R | exact bor_R | exact bshr_R | exact lcm_R | omega) (fun hc => ?_) (fun hc => ?_))) <;> (first | (exfalso; omega) | skip))
          | (show Rch _ _ _ _ _ 25 _ _ _; refine Rch.blk' (Rn_mono mt _ _) bl_X3_stand_25 (i_iload_n rfl (i_iconst k_1 (t_ic_le 32 30 rfl rfl (by first | exact hI_R | exact band_R | exact bor_R | exact bshr_R | exact lcm_R | omega) (by first | exact hI_R | exact band_R | exact bor_R | exact bshr_R | exact lcm_R | omega) (fun hc => ?_) (fun hc => ?_)))) <;> (first | (exfalso; omega) | skip))
          | (show Rch _ _ _ _ _ 30 _ _ _; refine Rch.blk' (Rn_mono mt _ _) bl_X3_stand_30 (i_iconst k_m1 (t_iret ?_)))
          | (show Rch _ _ _ _ _ 32 _ _ _; refine Rch.blk' (Rn_mono mt _ _) bl_X3_stand_32 (i_aload_n rfl (i_gfs rfl (i_iload_n rfl (t_cv2 (Rn_mono mt _ _) 40 rfl (Nat.le_of_ble_eq_true rfl) ?_)))))
          | (show Rch _ _ _ _ _ 40 _ _ _; refine Rch.blk' (Rn_mono mt _ _) bl_X3_stand_40 (t_if_ne 46 43 rfl rfl (by first | exact hI_R | exact band_R | exact bor_R | exact bshr_R | exact lcm_R | omega) (fun hc => ?_) (fun hc => ?_)) <;> (first | (exfalso; omega) | skip))
          | (show Rch _ _ _ _ _ 43 _ _ _; refine Rch.blk' (Rn_mono mt _ _) bl_X3_stand_43 (i_bipush k_m3 (t_iret ?_)))
          | (show Rch _ _ _ _ _ 46 _ _ _; refine Rch.blk' (Rn_mono mt _ _) bl_X3_stand_46 (i_bipush k_m4 (i_istore4 trivial (i_iconst k_0 (i_istore5 trivial (i_iconst k_0 (i_istore6 trivial (t_none ?_))))))))
          | (show Rch _ _ _ _ _ 63 _ _ _; refine Rch.blk' (Rn_mono mt _ _) bl_X3_stand_63 (i_aload_n rfl (i_iload_n rfl (i_iload rfl (t_cv3 (Rn_mono mt _ _) 70 rfl (Nat.le_of_ble_eq_true rfl) ?_)))))
          | (show Rch _ _ _ _ _ 70 _ _ _; refine Rch.blk' (Rn_mono mt _ _) bl_X3_stand_70 (t_if_eq 140 73 rfl rfl (by first | exact hI_R | exact band_R | exact bor_R | exact bshr_R | exact lcm_R | omega) (fun hc => ?_) (fun hc => ?_)) <;> (first | (exfalso; omega) | skip))
          | (show Rch _ _ _ _ _ 73 _ _ _; refine Rch.blk' (Rn_mono mt _ _) bl_X3_stand_73 (i_aload_n rfl (i_gfs rfl (i_iload_n rfl (t_cv2 (Rn_mono mt _ _) 81 rfl (Nat.le_of_ble_eq_true rfl) ?_)))))
          | (show Rch _ _ _ _ _ 81 _ _ _; refine Rch.blk' (Rn_mono mt _ _) bl_X3_stand_81 (i_aload_n rfl (i_gfs rfl (i_aload_n rfl (i_gfs rfl (i_gfr rfl (i_iload_n rfl (i_iald (n := 10) rfl (by omega) (by omega) (by omega) (t_cv2 (Rn_mono mt _ _) 97 rfl (Nat.le_of_ble_eq_true rfl) ?_)))))))))
          | (show Rch _ _ _ _ _ 97 _ _ _; refine Rch.blk' (Rn_mono mt _ _) bl_X3_stand_97 (i_aload_n rfl (i_gfs rfl (i_iconst k_1 (i_aload_n rfl (i_gfs rfl (i_gfr rfl (i_iload_n rfl (i_iald (n := 10) rfl (by omega) (by omega) (by omega) (i_isub (t_cv2 (Rn_mono mt _ _) 115 rfl (Nat.le_of_ble_eq_true rfl) ?_)))))))))))
          | (show Rch _ _ _ _ _ 115 _ _ _; refine Rch.blk' (Rn_mono mt _ _) bl_X3_stand_115 (i_isub (i_istore7 trivial (i_iload rfl (i_bipush k_m4 (t_ic_eq 132 125 rfl rfl (by first | exact hI_R | exact band_R | exact bor_R | exact bshr_R | exact lcm_R | omega) (by first | exact hI_R | exact band_R | exact bor_R | exact bshr_R | exact lcm_R | omega) (fun hc => ?_) (fun hc => ?_)))))) <;> (first | (exfalso; omega) | skip))
          | (show Rch _ _ _ _ _ 125 _ _ _; refine Rch.blk' (Rn_mono mt _ _) bl_X3_stand_125 (i_iload rfl (i_iload rfl (t_ic_le 140 132 rfl rfl (by first | exact hI_R | exact band_R | exact bor_R | exact bshr_R | exact lcm_R | omega) (by first | exact hI_R | exact band_R | exact bor_R | exact bshr_R | exact lcm_R | omega) (fun hc => ?_) (fun hc => ?_)))) <;> (first | (exfalso; omega) | skip))
          | (show Rch _ _ _ _ _ 132 _ _ _; refine Rch.blk' (Rn_mono mt _ _) bl_X3_stand_132 (i_iload rfl (i_istore4 trivial (i_iload rfl (i_istore5 trivial (t_none ?_))))))
          | (show Rch _ _ _ _ _ 140 _ _ _; refine Rch.blk' (Rn_mono mt _ _) bl_X3_stand_140 (i_iinc6 trivial k_1 (t_goto 56 rfl ?_)))
          | (show Rch _ _ _ _ _ 146 _ _ _; refine Rch.blk' (Rn_mono mt _ _) bl_X3_stand_146 (i_iload_n rfl (t_if_ne 155 150 rfl rfl (by first | exact hI_R | exact band_R | exact bor_R | exact bshr_R | exact lcm_R | omega) (fun hc => ?_) (fun hc => ?_))) <;> (first | (exfalso; omega) | skip))
          | (show Rch _ _ _ _ _ 150 _ _ _; refine Rch.blk' (Rn_mono mt _ _) bl_X3_stand_150 (i_iload rfl (t_goto 160 rfl ?_)))
          | (show Rch _ _ _ _ _ 155 _ _ _; refine Rch.blk' (Rn_mono mt _ _) bl_X3_stand_155 (i_iload rfl (i_bipush k_100 (i_iadd (t_none ?_)))))
          | (show Rch _ _ _ _ _ 160 _ _ _; refine Rch.blk' (Rn_mono mt _ _) bl_X3_stand_160 (t_iret ?_)))
    · obtain rfl : k = 36 := by omega
      have hge := st_ge (n := n) hO ha.1.1 ha.1.2 hb
      have ho2 := ho.2 (by omega)
      have kk : ∀ v, v = (if w = 0 then GB (stC G p) (stW G p n) 36 else o + 100) → Q (some (ai (I v))) h' := fun v e => hq _ _ (by
        unfold vStand
        rw [if_pos ha, if_pos hb, e, ho2]) (hF.jx (by omega))
      clear ho ho2 ih
      refine Rch.blk' (Rn_mono mt _ _) bl_X3_stand_56 (i_iload rfl (i_bipush k_36 (t_ic_ge 146 63 rfl rfl (by first | exact hI_R | exact band_R | exact bor_R | exact bshr_R | exact lcm_R | omega) (by first | exact hI_R | exact band_R | exact bor_R | exact bshr_R | exact lcm_R | omega) (fun hc => ?_) (fun hc => ?_)))) <;> (first | (exfalso; omega) | skip)
      repeat' (first
        | ((with_reducible refine kk _ ?_) <;> omega)
        | (show Rn _ _ _ 1 _ _ _; refine c_X0_has (by assumption) (by assumption) (by first | omega | exact hI_R) (fun _ _ => ?_) (fun _ => ?_))
        | (show Rn _ _ _ 2 _ _ _; refine c_X0_isThere (by assumption) (by assumption) (by first | omega | exact hI_R) (fun _ _ _ _ => ?_) (fun _ => ?_))
        | (show Rn _ _ _ 35 _ _ _; refine c_X0_worthOf (by assumption) (by assumption) (by first | omega | exact hI_R) (fun _ _ => ?_))
        | (show Rch _ _ _ _ _ 0 _ _ _; refine Rch.blk' (Rn_mono mt _ _) bl_X3_stand_0 (i_aload_n rfl (i_gfs rfl (i_iload_n rfl (t_cv2 (Rn_mono mt _ _) 8 rfl (Nat.le_of_ble_eq_true rfl) ?_)))))
        | (show Rch _ _ _ _ _ 8 _ _ _; refine Rch.blk' (Rn_mono mt _ _) bl_X3_stand_8 (t_if_eq 30 11 rfl rfl (by first | exact hI_R | exact band_R | exact bor_R | exact bshr_R | exact lcm_R | omega) (fun hc => ?_) (fun hc => ?_)) <;> (first | (exfalso; omega) | skip))
        | (show Rch _ _ _ _ _ 11 _ _ _; refine Rch.blk' (Rn_mono mt _ _) bl_X3_stand_11 (i_iload_n rfl (t_if_lt 30 15 rfl rfl (by first | exact hI_R | exact band_R | exact bor_R | exact bshr_R | exact lcm_R | omega) (fun hc => ?_) (fun hc => ?_))) <;> (first | (exfalso; omega) | skip))
        | (show Rch _ _ _ _ _ 15 _ _ _; refine Rch.blk' (Rn_mono mt _ _) bl_X3_stand_15 (i_iload_n rfl (i_bipush k_20 (t_ic_gt 30 21 rfl rfl (by first | exact hI_R | exact band_R | exact bor_R | exact bshr_R | exact lcm_R | omega) (by first | exact hI_R | exact band_R | exact bor_R | exact bshr_R | exact lcm_R | omega) (fun hc => ?_) (fun hc => ?_)))) <;> (first | (exfalso; omega) | skip))
        | (show Rch _ _ _ _ _ 21 _ _ _; refine Rch.blk' (Rn_mono mt _ _) bl_X3_stand_21 (i_iload_n rfl (t_if_lt 30 25 rfl rfl (by first | exact hI_R | exact band_R | exact bor_R | exact bshr_R | exact lcm_R | omega) (fun hc => ?_) (fun hc => ?_))) <;> (first | (exfalso; omega) | skip))
        | (show Rch _ _ _ _ _ 25 _ _ _; refine Rch.blk' (Rn_mono mt _ _) bl_X3_stand_25 (i_iload_n rfl (i_iconst k_1 (t_ic_le 32 30 rfl rfl (by first | exact hI_R | exact band_R | exact bor_R | exact bshr_R | exact lcm_R | omega) (by first | exact hI_R | exact band_R | exact bor_R | exact bshr_R | exact lcm_R | omega) (fun hc => ?_) (fun hc => ?_)))) <;> (first | (exfalso; omega) | skip))
        | (show Rch _ _ _ _ _ 30 _ _ _; refine Rch.blk' (Rn_mono mt _ _) bl_X3_stand_30 (i_iconst k_m1 (t_iret ?_)))
        | (show Rch _ _ _ _ _ 32 _ _ _; refine Rch.blk' (Rn_mono mt _ _) bl_X3_stand_32 (i_aload_n rfl (i_gfs rfl (i_iload_n rfl (t_cv2 (Rn_mono mt _ _) 40 rfl (Nat.le_of_ble_eq_true rfl) ?_)))))
        | (show Rch _ _ _ _ _ 40 _ _ _; refine Rch.blk' (Rn_mono mt _ _) bl_X3_stand_40 (t_if_ne 46 43 rfl rfl (by first | exact hI_R | exact band_R | exact bor_R | exact bshr_R | exact lcm_R | omega) (fun hc => ?_) (fun hc => ?_)) <;> (first | (exfalso; omega) | skip))
        | (show Rch _ _ _ _ _ 43 _ _ _; refine Rch.blk' (Rn_mono mt _ _) bl_X3_stand_43 (i_bipush k_m3 (t_iret ?_)))
        | (show Rch _ _ _ _ _ 46 _ _ _; refine Rch.blk' (Rn_mono mt _ _) bl_X3_stand_46 (i_bipush k_m4 (i_istore4 trivial (i_iconst k_0 (i_istore5 trivial (i_iconst k_0 (i_istore6 trivial (t_none ?_))))))))
        | (show Rch _ _ _ _ _ 63 _ _ _; refine Rch.blk' (Rn_mono mt _ _) bl_X3_stand_63 (i_aload_n rfl (i_iload_n rfl (i_iload rfl (t_cv3 (Rn_mono mt _ _) 70 rfl (Nat.le_of_ble_eq_true rfl) ?_)))))
        | (show Rch _ _ _ _ _ 70 _ _ _; refine Rch.blk' (Rn_mono mt _ _) bl_X3_stand_70 (t_if_eq 140 73 rfl rfl (by first | exact hI_R | exact band_R | exact bor_R | exact bshr_R | exact lcm_R | omega) (fun hc => ?_) (fun hc => ?_)) <;> (first | (exfalso; omega) | skip))
        | (show Rch _ _ _ _ _ 73 _ _ _; refine Rch.blk' (Rn_mono mt _ _) bl_X3_stand_73 (i_aload_n rfl (i_gfs rfl (i_iload_n rfl (t_cv2 (Rn_mono mt _ _) 81 rfl (Nat.le_of_ble_eq_true rfl) ?_)))))
        | (show Rch _ _ _ _ _ 81 _ _ _; refine Rch.blk' (Rn_mono mt _ _) bl_X3_stand_81 (i_aload_n rfl (i_gfs rfl (i_aload_n rfl (i_gfs rfl (i_gfr rfl (i_iload_n rfl (i_iald (n := 10) rfl (by omega) (by omega) (by omega) (t_cv2 (Rn_mono mt _ _) 97 rfl (Nat.le_of_ble_eq_true rfl) ?_)))))))))
        | (show Rch _ _ _ _ _ 97 _ _ _; refine Rch.blk' (Rn_mono mt _ _) bl_X3_stand_97 (i_aload_n rfl (i_gfs rfl (i_iconst k_1 (i_aload_n rfl (i_gfs rfl (i_gfr rfl (i_iload_n rfl (i_iald (n := 10) rfl (by omega) (by omega) (by omega) (i_isub (t_cv2 (Rn_mono mt _ _) 115 rfl (Nat.le_of_ble_eq_true rfl) ?_)))))))))))
        | (show Rch _ _ _ _ _ 115 _ _ _; refine Rch.blk' (Rn_mono mt _ _) bl_X3_stand_115 (i_isub (i_istore7 trivial (i_iload rfl (i_bipush k_m4 (t_ic_eq 132 125 rfl rfl (by first | exact hI_R | exact band_R | exact bor_R | exact bshr_R | exact lcm_R | omega) (by first | exact hI_R | exact band_R | exact bor_R | exact bshr_R | exact lcm_R | omega) (fun hc => ?_) (fun hc => ?_)))))) <;> (first | (exfalso; omega) | skip))
        | (show Rch _ _ _ _ _ 125 _ _ _; refine Rch.blk' (Rn_mono mt _ _) bl_X3_stand_125 (i_iload rfl (i_iload rfl (t_ic_le 140 132 rfl rfl (by first | exact hI_R | exact band_R | exact bor_R | exact bshr_R | exact lcm_R | omega) (by first | exact hI_R | exact band_R | exact bor_R | exact bshr_R | exact lcm_R | omega) (fun hc => ?_) (fun hc => ?_)))) <;> (first | (exfalso; omega) | skip))
        | (show Rch _ _ _ _ _ 132 _ _ _; refine Rch.blk' (Rn_mono mt _ _) bl_X3_stand_132 (i_iload rfl (i_istore4 trivial (i_iload rfl (i_istore5 trivial (t_none ?_))))))
        | (show Rch _ _ _ _ _ 140 _ _ _; refine Rch.blk' (Rn_mono mt _ _) bl_X3_stand_140 (i_iinc6 trivial k_1 (t_goto 56 rfl ?_)))
        | (show Rch _ _ _ _ _ 146 _ _ _; refine Rch.blk' (Rn_mono mt _ _) bl_X3_stand_146 (i_iload_n rfl (t_if_ne 155 150 rfl rfl (by first | exact hI_R | exact band_R | exact bor_R | exact bshr_R | exact lcm_R | omega) (fun hc => ?_) (fun hc => ?_))) <;> (first | (exfalso; omega) | skip))
        | (show Rch _ _ _ _ _ 150 _ _ _; refine Rch.blk' (Rn_mono mt _ _) bl_X3_stand_150 (i_iload rfl (t_goto 160 rfl ?_)))
        | (show Rch _ _ _ _ _ 155 _ _ _; refine Rch.blk' (Rn_mono mt _ _) bl_X3_stand_155 (i_iload rfl (i_bipush k_100 (i_iadd (t_none ?_)))))
        | (show Rch _ _ _ _ _ 160 _ _ _; refine Rch.blk' (Rn_mono mt _ _) bl_X3_stand_160 (t_iret ?_)))
  have ky := fun a b => key a b 0 (by omega) (by omega) 0 none h ⟨fun _ => rfl, fun z => absurd (show (-4 : Int) < 0 by omega) z⟩ FrC.rf
  clear key hq
  repeat' (first
    | exact ky (by omega) (by omega)
    | ((with_reducible refine k1 _ ?_ ?_) <;> omega)
    | ((with_reducible refine k2 _ ?_ ?_ ?_) <;> omega)
    | (show Rn _ _ _ 1 _ _ _; refine c_X0_has (by assumption) (by assumption) (by first | omega | exact hI_R) (fun _ _ => ?_) (fun _ => ?_))
    | (show Rn _ _ _ 2 _ _ _; refine c_X0_isThere (by assumption) (by assumption) (by first | omega | exact hI_R) (fun _ _ _ _ => ?_) (fun _ => ?_))
    | (show Rn _ _ _ 35 _ _ _; refine c_X0_worthOf (by assumption) (by assumption) (by first | omega | exact hI_R) (fun _ _ => ?_))
    | (show Rch _ _ _ _ _ 0 _ _ _; refine Rch.blk' (Rn_mono mt _ _) bl_X3_stand_0 (i_aload_n rfl (i_gfs rfl (i_iload_n rfl (t_cv2 (Rn_mono mt _ _) 8 rfl (Nat.le_of_ble_eq_true rfl) ?_)))))
    | (show Rch _ _ _ _ _ 8 _ _ _; refine Rch.blk' (Rn_mono mt _ _) bl_X3_stand_8 (t_if_eq 30 11 rfl rfl (by first | exact hI_R | exact band_R | exact bor_R | exact bshr_R | exact lcm_R | omega) (fun hc => ?_) (fun hc => ?_)) <;> (first | (exfalso; omega) | skip))
    | (show Rch _ _ _ _ _ 11 _ _ _; refine Rch.blk' (Rn_mono mt _ _) bl_X3_stand_11 (i_iload_n rfl (t_if_lt 30 15 rfl rfl (by first | exact hI_R | exact band_R | exact bor_R | exact bshr_R | exact lcm_R | omega) (fun hc => ?_) (fun hc => ?_))) <;> (first | (exfalso; omega) | skip))
    | (show Rch _ _ _ _ _ 15 _ _ _; refine Rch.blk' (Rn_mono mt _ _) bl_X3_stand_15 (i_iload_n rfl (i_bipush k_20 (t_ic_gt 30 21 rfl rfl (by first | exact hI_R | exact band_R | exact bor_R | exact bshr_R | exact lcm_R | omega) (by first | exact hI_R | exact band_R | exact bor_R | exact bshr_R | exact lcm_R | omega) (fun hc => ?_) (fun hc => ?_)))) <;> (first | (exfalso; omega) | skip))
    | (show Rch _ _ _ _ _ 21 _ _ _; refine Rch.blk' (Rn_mono mt _ _) bl_X3_stand_21 (i_iload_n rfl (t_if_lt 30 25 rfl rfl (by first | exact hI_R | exact band_R | exact bor_R | exact bshr_R | exact lcm_R | omega) (fun hc => ?_) (fun hc => ?_))) <;> (first | (exfalso; omega) | skip))
    | (show Rch _ _ _ _ _ 25 _ _ _; refine Rch.blk' (Rn_mono mt _ _) bl_X3_stand_25 (i_iload_n rfl (i_iconst k_1 (t_ic_le 32 30 rfl rfl (by first | exact hI_R | exact band_R | exact bor_R | exact bshr_R | exact lcm_R | omega) (by first | exact hI_R | exact band_R | exact bor_R | exact bshr_R | exact lcm_R | omega) (fun hc => ?_) (fun hc => ?_)))) <;> (first | (exfalso; omega) | skip))
    | (show Rch _ _ _ _ _ 30 _ _ _; refine Rch.blk' (Rn_mono mt _ _) bl_X3_stand_30 (i_iconst k_m1 (t_iret ?_)))
    | (show Rch _ _ _ _ _ 32 _ _ _; refine Rch.blk' (Rn_mono mt _ _) bl_X3_stand_32 (i_aload_n rfl (i_gfs rfl (i_iload_n rfl (t_cv2 (Rn_mono mt _ _) 40 rfl (Nat.le_of_ble_eq_true rfl) ?_)))))
    | (show Rch _ _ _ _ _ 40 _ _ _; refine Rch.blk' (Rn_mono mt _ _) bl_X3_stand_40 (t_if_ne 46 43 rfl rfl (by first | exact hI_R | exact band_R | exact bor_R | exact bshr_R | exact lcm_R | omega) (fun hc => ?_) (fun hc => ?_)) <;> (first | (exfalso; omega) | skip))
    | (show Rch _ _ _ _ _ 43 _ _ _; refine Rch.blk' (Rn_mono mt _ _) bl_X3_stand_43 (i_bipush k_m3 (t_iret ?_)))
    | (show Rch _ _ _ _ _ 46 _ _ _; refine Rch.blk' (Rn_mono mt _ _) bl_X3_stand_46 (i_bipush k_m4 (i_istore4 trivial (i_iconst k_0 (i_istore5 trivial (i_iconst k_0 (i_istore6 trivial (t_none ?_))))))))
    | (show Rch _ _ _ _ _ 63 _ _ _; refine Rch.blk' (Rn_mono mt _ _) bl_X3_stand_63 (i_aload_n rfl (i_iload_n rfl (i_iload rfl (t_cv3 (Rn_mono mt _ _) 70 rfl (Nat.le_of_ble_eq_true rfl) ?_)))))
    | (show Rch _ _ _ _ _ 70 _ _ _; refine Rch.blk' (Rn_mono mt _ _) bl_X3_stand_70 (t_if_eq 140 73 rfl rfl (by first | exact hI_R | exact band_R | exact bor_R | exact bshr_R | exact lcm_R | omega) (fun hc => ?_) (fun hc => ?_)) <;> (first | (exfalso; omega) | skip))
    | (show Rch _ _ _ _ _ 73 _ _ _; refine Rch.blk' (Rn_mono mt _ _) bl_X3_stand_73 (i_aload_n rfl (i_gfs rfl (i_iload_n rfl (t_cv2 (Rn_mono mt _ _) 81 rfl (Nat.le_of_ble_eq_true rfl) ?_)))))
    | (show Rch _ _ _ _ _ 81 _ _ _; refine Rch.blk' (Rn_mono mt _ _) bl_X3_stand_81 (i_aload_n rfl (i_gfs rfl (i_aload_n rfl (i_gfs rfl (i_gfr rfl (i_iload_n rfl (i_iald (n := 10) rfl (by omega) (by omega) (by omega) (t_cv2 (Rn_mono mt _ _) 97 rfl (Nat.le_of_ble_eq_true rfl) ?_)))))))))
    | (show Rch _ _ _ _ _ 97 _ _ _; refine Rch.blk' (Rn_mono mt _ _) bl_X3_stand_97 (i_aload_n rfl (i_gfs rfl (i_iconst k_1 (i_aload_n rfl (i_gfs rfl (i_gfr rfl (i_iload_n rfl (i_iald (n := 10) rfl (by omega) (by omega) (by omega) (i_isub (t_cv2 (Rn_mono mt _ _) 115 rfl (Nat.le_of_ble_eq_true rfl) ?_)))))))))))
    | (show Rch _ _ _ _ _ 115 _ _ _; refine Rch.blk' (Rn_mono mt _ _) bl_X3_stand_115 (i_isub (i_istore7 trivial (i_iload rfl (i_bipush k_m4 (t_ic_eq 132 125 rfl rfl (by first | exact hI_R | exact band_R | exact bor_R | exact bshr_R | exact lcm_R | omega) (by first | exact hI_R | exact band_R | exact bor_R | exact bshr_R | exact lcm_R | omega) (fun hc => ?_) (fun hc => ?_)))))) <;> (first | (exfalso; omega) | skip))
    | (show Rch _ _ _ _ _ 125 _ _ _; refine Rch.blk' (Rn_mono mt _ _) bl_X3_stand_125 (i_iload rfl (i_iload rfl (t_ic_le 140 132 rfl rfl (by first | exact hI_R | exact band_R | exact bor_R | exact bshr_R | exact lcm_R | omega) (by first | exact hI_R | exact band_R | exact bor_R | exact bshr_R | exact lcm_R | omega) (fun hc => ?_) (fun hc => ?_)))) <;> (first | (exfalso; omega) | skip))
    | (show Rch _ _ _ _ _ 132 _ _ _; refine Rch.blk' (Rn_mono mt _ _) bl_X3_stand_132 (i_iload rfl (i_istore4 trivial (i_iload rfl (i_istore5 trivial (t_none ?_))))))
    | (show Rch _ _ _ _ _ 140 _ _ _; refine Rch.blk' (Rn_mono mt _ _) bl_X3_stand_140 (i_iinc6 trivial k_1 (t_goto 56 rfl ?_)))
    | (show Rch _ _ _ _ _ 146 _ _ _; refine Rch.blk' (Rn_mono mt _ _) bl_X3_stand_146 (i_iload_n rfl (t_if_ne 155 150 rfl rfl (by first | exact hI_R | exact band_R | exact bor_R | exact bshr_R | exact lcm_R | omega) (fun hc => ?_) (fun hc => ?_))) <;> (first | (exfalso; omega) | skip))
    | (show Rch _ _ _ _ _ 150 _ _ _; refine Rch.blk' (Rn_mono mt _ _) bl_X3_stand_150 (i_iload rfl (t_goto 160 rfl ?_)))
    | (show Rch _ _ _ _ _ 155 _ _ _; refine Rch.blk' (Rn_mono mt _ _) bl_X3_stand_155 (i_iload rfl (i_bipush k_100 (i_iadd (t_none ?_)))))
    | (show Rch _ _ _ _ _ 160 _ _ _; refine Rch.blk' (Rn_mono mt _ _) bl_X3_stand_160 (t_iret ?_)))
end C26


