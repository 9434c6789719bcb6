/-! OFF: both sides -/
noncomputable def ofN (G : Bd) (n p : Int) : Int := WS (DN G no0 n) (fun i => OS (DN G no0 n) (sd G p) i ∧ ¬ i = p)
noncomputable def ofV (G : Bd) (n p : Int) : Int := WO (DN (mov G p 36) no0 n) (sd G p)
def ofC (G : Bd) (n p : Int) : Prop := sq G p < 36 ∧ ofN G n p < ofV G n p
noncomputable def vOff (G : Bd) (n : Int) : Int := if 0 ≤ n ∧ n ≤ 30 then GB (ofC G n) (ofV G n) (nn G) else -1
theorem ww36 {V : Bd} (hO : OKB V) {s p : Int} (h : sq V p = 36) : WS V (fun i => OS V s i ∧ ¬ i = p) = WO V s := by
  rw [← WS_OS hO]
  exact WS_ext hO (fun i i0 i1 => ⟨fun z => z.1, fun z => ⟨z, fun c => by subst c; have := z.2.2; omega⟩⟩)
theorem OKB_off {G : Bd} (hO : OKB G) (p : Int) : OKB (mov G p 36) := OKB_mov hO (by omega) (by omega) (fun z => by omega)
theorem of_36 {G : Bd} (hO : OKB G) {n p : Int} (n0 : 0 ≤ n) (p0 : 0 ≤ p) (p1 : p < nn G) : sq (DN (mov G p 36) no0 n) p = 36 := by
  have := DN_taken (M := no0) (a := 0) (OKB_off hO p) p0 (show p < nn (mov G p 36) from p1) (by omega) (by rw [DN_0, sq_mov, if_pos rfl]) n n0
  rw [Int.zero_add] at this
  exact this
theorem ofN_R {G : Bd} (hO : OKB G) {n p : Int} (n0 : 0 ≤ n) : 0 ≤ ofN G n p ∧ ofN G n p ≤ 90 := WS_R (DN_f (M := no0) hO n n0).1
theorem ofV_R {G : Bd} (hO : OKB G) {n p : Int} (n0 : 0 ≤ n) : 0 ≤ ofV G n p ∧ ofV G n p ≤ 90 := WO_R (DN_f (M := no0) (OKB_off hO p) n n0).1 _
theorem of_w {G : Bd} (hO : OKB G) {n p : Int} (n0 : 0 ≤ n) (p0 : 0 ≤ p) (p1 : p < nn G) : WS (DN (mov G p 36) no0 n) (fun i => OS (DN (mov G p 36) no0 n) (sd (DN (mov G p 36) no0 n) p) i ∧ ¬ i = p) = ofV G n p := by
  have f := DN_f (M := no0) (OKB_off hO p) n n0
  rw [ww36 f.1 (of_36 hO n0 p0 p1), f.2.2.2.2.2]
  rfl
theorem of_n {G : Bd} (hO : OKB G) {n p : Int} (n0 : 0 ≤ n) : WS (DN G no0 n) (fun i => OS (DN G no0 n) (sd (DN G no0 n) p) i ∧ ¬ i = p) = ofN G n p := by
  have f := DN_f (M := no0) hO n n0
  rw [f.2.2.2.2.2]
  rfl
section C27
variable {d L : Nat} {h : Mem} {Q : Option AV → Mem → Prop} {G : Bd}
theorem c_X3_off (hG : RC h 0 G) (hO : OKB G) (hy : dy G ≤ 999) {n : Int} (hn : inR n) (hq : ∀ v h', v = vOff G n → JX h h' → Q (some (ai (I v))) h') : Rn mt L (d + 7) 69 [ar 2 0, ai (I n)] h Q := by
  refine Rn.intro iX3_off rfl rfl ?_
  show Rch bX3_off _ _ _ _ 0 [some (ar 2 0), some (ai (I n)), none, none, none, none] [] _
  have g_n := hO.n
  have k1 : ∀ u, u = -1 → ¬ (0 ≤ n ∧ n ≤ 30) → Q (some (ai (I u))) h := fun u e a => hq _ _ (by unfold vOff; rw [if_neg a]; exact e) JX.rf
  by_cases hn2 : 0 ≤ n ∧ n ≤ 30
  · obtain ⟨n0, n1⟩ := hn2
    have hV := DN_f (M := no0) hO n n0
    have key : ∀ k : Int, k ≤ nn G → 0 ≤ k → ∀ (o : Int) (u : Option AV) (h' : Mem), ((GB (ofC G n) (ofV G n) k < 0 → o = 0) ∧ (¬ GB (ofC G n) (ofV G n) k < 0 → o = ofV G n (GB (ofC G n) (ofV G n) k))) → RC h' 0 G → RC h' 3 (DN G no0 n) → JX h h' → RH L bX3_off (d + 6) Q 39 [some (ar 2 0), some (ai (I n)), some (ai (I (GB (ofC G n) (ofV G n) k))), some (ai (I o)), some (ai (I k)), u] h' := by
      refine up_ind (fun k hk ih hk0 o u h' ho hR hR3 hJ => ?_)
      have g_g := GB_R (C := ofC G n) (w := ofV G n) k hk0
      have g_gr : GB (ofC G n) (ofV G n) k = -4 ∨ (0 ≤ GB (ofC G n) (ofV G n) k ∧ GB (ofC G n) (ofV G n) k < k) := g_g.elim Or.inl (fun z => Or.inr ⟨z.1, z.2.1⟩)
      have g_o : 0 ≤ o ∧ o ≤ 90 := by
        have := @ofV_R G hO n (GB (ofC G n) (ofV G n) k) n0
        by_cases z : GB (ofC G n) (ofV G n) k < 0
        · rw [ho.1 z]; omega
        · rw [ho.2 z]; exact this
      clear g_g
      have e_n := hR.n
      by_cases hk1 : k < nn G
      · have ih := ih hk1 (by omega)
        rw [GB_up hk0] at ih
        have g_N := @ofN_R G hO n k n0
        have g_V := @ofV_R G hO n k n0
        have ih1 : ∀ (u : Option AV) (h2 : Mem), RC h2 0 G → RC h2 3 (DN G no0 n) → JX h h2 → sq G k < 36 → ofN G n k < ofV G n k → o < ofV G n k → RH L bX3_off (d + 6) Q 39 [some (ar 2 0), some (ai (I n)), some (ai (I k)), some (ai (I (ofV G n k))), some (ai (I (k + 1))), u] h2 := by
          intro u h2 a b c hs e f
          have c5 : ofC G n k ∧ (GB (ofC G n) (ofV G n) k < 0 ∨ ofV G n (GB (ofC G n) (ofV G n) k) < ofV G n k) := by
            refine ⟨⟨hs, e⟩, ?_⟩
            by_cases z : GB (ofC G n) (ofV G n) k < 0
            · exact Or.inl z
            · right; have := ho.2 z; omega
          rw [ifp_p c5] at ih
          exact ih _ u h2 ⟨fun z => by omega, fun _ => rfl⟩ a b c
        have ih0 : ∀ (u : Option AV) (h2 : Mem), RC h2 0 G → RC h2 3 (DN G no0 n) → JX h h2 → ¬ (sq G k < 36 ∧ ofN G n k < ofV G n k ∧ o < ofV G n k) → RH L bX3_off (d + 6) Q 39 [some (ar 2 0), some (ai (I n)), some (ai (I (GB (ofC G n) (ofV G n) k))), some (ai (I o)), some (ai (I (k + 1))), u] h2 := by
          intro u h2 a b c e
          have c5 : ¬ (ofC G n k ∧ (GB (ofC G n) (ofV G n) k < 0 ∨ ofV G n (GB (ofC G n) (ofV G n) k) < ofV G n k)) := by
            rintro ⟨⟨a4, a5⟩, a6⟩
            apply e
            refine ⟨a4, a5, ?_⟩
            by_cases z : GB (ofC G n) (ofV G n) k < 0
            · have := ho.1 z; omega
            · have := ho.2 z; omega
          rw [ifp_n c5] at ih
          exact ih o u h2 ho a b c
        clear ih ho
        refine Rch.blk' (Rn_mono mt _ _) bl_X3_off_39 (i_iload rfl (i_aload_n rfl (i_gfs rfl (i_gfi rfl (t_ic_ge 125 51 rfl rfl (by first | exact hI_R | exact band_R | exact bor_R | exact bshr_R | exact lcm_R | omega | (simp (disch := omega) only [e_n]; omega)) (by first | exact hI_R | exact band_R | exact bor_R | exact bshr_R | exact lcm_R | omega | (simp (disch := omega) only [e_n]; omega)) (fun hc => ?_) (fun hc => ?_)))))) <;> (try (simp (disch := omega) only [e_n] at hc ⊢)) <;> (first | (exfalso; omega) | skip)
        refine Rch.blk' (Rn_mono mt _ _) bl_X3_off_51 (i_aload_n rfl (i_gfs rfl (i_aload_n rfl (i_gfs rfl (t_cv2 (Rn_mono mt _ _) 62 rfl (Nat.le_of_ble_eq_true rfl) ?_)))))
        refine c_X0_becomes hR hO (by decide) (fun h2 hG2 hF2 => ?_)
        have hR2 := hR.fr hF2 (by decide)
        have hR32 := hR3.fr hF2 (by decide)
        have hJ2 := hJ.tr (hF2.jx (by omega))
        refine Rch.blk' (Rn_mono mt _ _) bl_X3_off_62 (i_aload_n rfl (i_gfs rfl (i_iload rfl (t_cv2 (Rn_mono mt _ _) 71 rfl (Nat.le_of_ble_eq_true rfl) ?_))))
        refine c_X0_takeOff hG2 hO ⟨by omega, by omega⟩ (fun _ _ hs h3 hG3 hF3 => ?_) (fun hs => ?_)
        · have hO3 := OKB_off hO k
          refine Rch.blk' (Rn_mono mt _ _) bl_X3_off_71 (t_if_eq 119 74 rfl rfl (by first | exact hI_R | exact band_R | exact bor_R | exact bshr_R | exact lcm_R | omega) (fun hc => ?_) (fun hc => ?_)) <;> (first | (exfalso; omega) | skip)
          refine Rch.blk' (Rn_mono mt _ _) bl_X3_off_74 (i_aload_n rfl (i_gfs rfl (i_iload_n rfl (t_cv2 (Rn_mono mt _ _) 82 rfl (Nat.le_of_ble_eq_true rfl) ?_))))
          refine c_X0_passDays hG3 hO3 n0 (by omega) (show dy G < 800000 by omega) (fun h4 hG4 hF4 => ?_)
          have hO4 := DN_f (M := no0) hO3 n n0
          have hFa := hF3.tr hF4
          have hR5 := hR2.fr hFa (by decide)
          have hR35 := hR32.fr hFa (by decide)
          have hJ5 := hJ2.tr (hFa.jx (by omega))
          refine Rch.blk' (Rn_mono mt _ _) bl_X3_off_82 (i_aload_n rfl (i_gfs rfl (i_iload rfl (t_cv2 (Rn_mono mt _ _) 91 rfl (Nat.le_of_ble_eq_true rfl) ?_))))
          refine c_X0_worthWithout hG4 hO4.1 hk0 (by rw [hO4.2.1]; exact hk1) ?_
          rw [of_w hO n0 hk0 hk1]
          refine Rch.blk' (Rn_mono mt _ _) bl_X3_off_91 (i_istore5 trivial (i_iload rfl (i_aload_n rfl (i_gfs rfl (i_iload rfl (t_cv2 (Rn_mono mt _ _) 104 rfl (Nat.le_of_ble_eq_true rfl) ?_))))))
          refine c_X0_worthWithout hR35 hV.1 hk0 (by rw [hV.2.1]; exact hk1) ?_
          rw [of_n hO n0]
          have ih1 := fun u => ih1 u h4 hR5 hR35 hJ5 hs
          have ih0 := fun u => ih0 u h4 hR5 hR35 hJ5
          repeat' (first
            | ((with_reducible refine ih1 _ ?_ ?_) <;> omega)
            | ((with_reducible refine ih0 _ ?_) <;> omega)
            | (show Rn _ _ _ 12 _ _ _; refine c_X0_takeOff (by assumption) (by assumption) (by first | omega | exact hI_R) (fun _ _ _ _ _ _ => ?_) (fun _ => ?_))
            | (show Rn _ _ _ 36 _ _ _; refine c_X0_worthWithout (by assumption) (by assumption) (by omega) (by omega) ?_)
            | (show Rch _ _ _ _ _ 0 _ _ _; refine Rch.blk' (Rn_mono mt _ _) bl_X3_off_0 (i_iload_n rfl (t_if_lt 10 4 rfl rfl (by first | exact hI_R | exact band_R | exact bor_R | exact bshr_R | exact lcm_R | omega) (fun hc => ?_) (fun hc => ?_))) <;> (first | (exfalso; omega) | skip))
            | (show Rch _ _ _ _ _ 4 _ _ _; refine Rch.blk' (Rn_mono mt _ _) bl_X3_off_4 (i_iload_n rfl (i_bipush k_30 (t_ic_le 12 10 rfl rfl (by first | exact hI_R | exact band_R | exact bor_R | exact bshr_R | exact lcm_R | omega) (by first | exact hI_R | exact band_R | exact bor_R | exact bshr_R | exact lcm_R | omega) (fun hc => ?_) (fun hc => ?_)))) <;> (first | (exfalso; omega) | skip))
            | (show Rch _ _ _ _ _ 10 _ _ _; refine Rch.blk' (Rn_mono mt _ _) bl_X3_off_10 (i_iconst k_m1 (t_iret ?_)))
            | (show Rch _ _ _ _ _ 12 _ _ _; refine Rch.blk' (Rn_mono mt _ _) bl_X3_off_12 (i_aload_n rfl (i_gfs rfl (i_aload_n rfl (i_gfs rfl (t_cv2 (Rn_mono mt _ _) 23 rfl (Nat.le_of_ble_eq_true rfl) ?_))))))
            | (show Rch _ _ _ _ _ 23 _ _ _; refine Rch.blk' (Rn_mono mt _ _) bl_X3_off_23 (i_aload_n rfl (i_gfs rfl (i_iload_n rfl (t_cv2 (Rn_mono mt _ _) 31 rfl (Nat.le_of_ble_eq_true rfl) ?_)))))
            | (show Rch _ _ _ _ _ 31 _ _ _; refine Rch.blk' (Rn_mono mt _ _) bl_X3_off_31 (i_bipush k_m4 (i_istore2 trivial (i_iconst k_0 (i_istore3 trivial (i_iconst k_0 (i_istore4 trivial (t_none ?_))))))))
            | (show Rch _ _ _ _ _ 51 _ _ _; refine Rch.blk' (Rn_mono mt _ _) bl_X3_off_51 (i_aload_n rfl (i_gfs rfl (i_aload_n rfl (i_gfs rfl (t_cv2 (Rn_mono mt _ _) 62 rfl (Nat.le_of_ble_eq_true rfl) ?_))))))
            | (show Rch _ _ _ _ _ 62 _ _ _; refine Rch.blk' (Rn_mono mt _ _) bl_X3_off_62 (i_aload_n rfl (i_gfs rfl (i_iload rfl (t_cv2 (Rn_mono mt _ _) 71 rfl (Nat.le_of_ble_eq_true rfl) ?_)))))
            | (show Rch _ _ _ _ _ 71 _ _ _; refine Rch.blk' (Rn_mono mt _ _) bl_X3_off_71 (t_if_eq 119 74 rfl rfl (by first | exact hI_R | exact band_R | exact bor_R | exact bshr_R | exact lcm_R | omega) (fun hc => ?_) (fun hc => ?_)) <;> (first | (exfalso; omega) | skip))
            | (show Rch _ _ _ _ _ 74 _ _ _; refine Rch.blk' (Rn_mono mt _ _) bl_X3_off_74 (i_aload_n rfl (i_gfs rfl (i_iload_n rfl (t_cv2 (Rn_mono mt _ _) 82 rfl (Nat.le_of_ble_eq_true rfl) ?_)))))
            | (show Rch _ _ _ _ _ 82 _ _ _; refine Rch.blk' (Rn_mono mt _ _) bl_X3_off_82 (i_aload_n rfl (i_gfs rfl (i_iload rfl (t_cv2 (Rn_mono mt _ _) 91 rfl (Nat.le_of_ble_eq_true rfl) ?_)))))
            | (show Rch _ _ _ _ _ 91 _ _ _; refine Rch.blk' (Rn_mono mt _ _) bl_X3_off_91 (i_istore5 trivial (i_iload rfl (i_aload_n rfl (i_gfs rfl (i_iload rfl (t_cv2 (Rn_mono mt _ _) 104 rfl (Nat.le_of_ble_eq_true rfl) ?_)))))))
            | (show Rch _ _ _ _ _ 104 _ _ _; refine Rch.blk' (Rn_mono mt _ _) bl_X3_off_104 (t_ic_le 119 107 rfl rfl (by first | exact hI_R | exact band_R | exact bor_R | exact bshr_R | exact lcm_R | omega) (by first | exact hI_R | exact band_R | exact bor_R | exact bshr_R | exact lcm_R | omega) (fun hc => ?_) (fun hc => ?_)) <;> (first | (exfalso; omega) | skip))
            | (show Rch _ _ _ _ _ 107 _ _ _; refine Rch.blk' (Rn_mono mt _ _) bl_X3_off_107 (i_iload rfl (i_iload_n rfl (t_ic_le 119 113 rfl rfl (by first | exact hI_R | exact band_R | exact bor_R | exact bshr_R | exact lcm_R | omega) (by first | exact hI_R | exact band_R | exact bor_R | exact bshr_R | exact lcm_R | omega) (fun hc => ?_) (fun hc => ?_)))) <;> (first | (exfalso; omega) | skip))
            | (show Rch _ _ _ _ _ 113 _ _ _; refine Rch.blk' (Rn_mono mt _ _) bl_X3_off_113 (i_iload rfl (i_istore2 trivial (i_iload rfl (i_istore3 trivial (t_none ?_))))))
            | (show Rch _ _ _ _ _ 119 _ _ _; refine Rch.blk' (Rn_mono mt _ _) bl_X3_off_119 (i_iinc4 trivial k_1 (t_goto 39 rfl ?_)))
            | (show Rch _ _ _ _ _ 125 _ _ _; refine Rch.blk' (Rn_mono mt _ _) bl_X3_off_125 (i_iload_n rfl (t_iret ?_))))
        · have ih0 := fun u => ih0 u h2 hR2 hR32 hJ2 (fun z => hs ⟨hk0, hk1, z.1⟩)
          repeat' (first
            | exact ih0 _
            | (show Rn _ _ _ 12 _ _ _; refine c_X0_takeOff (by assumption) (by assumption) (by first | omega | exact hI_R) (fun _ _ _ _ _ _ => ?_) (fun _ => ?_))
            | (show Rn _ _ _ 36 _ _ _; refine c_X0_worthWithout (by assumption) (by assumption) (by omega) (by omega) ?_)
            | (show Rch _ _ _ _ _ 0 _ _ _; refine Rch.blk' (Rn_mono mt _ _) bl_X3_off_0 (i_iload_n rfl (t_if_lt 10 4 rfl rfl (by first | exact hI_R | exact band_R | exact bor_R | exact bshr_R | exact lcm_R | omega) (fun hc => ?_) (fun hc => ?_))) <;> (first | (exfalso; omega) | skip))
            | (show Rch _ _ _ _ _ 4 _ _ _; refine Rch.blk' (Rn_mono mt _ _) bl_X3_off_4 (i_iload_n rfl (i_bipush k_30 (t_ic_le 12 10 rfl rfl (by first | exact hI_R | exact band_R | exact bor_R | exact bshr_R | exact lcm_R | omega) (by first | exact hI_R | exact band_R | exact bor_R | exact bshr_R | exact lcm_R | omega) (fun hc => ?_) (fun hc => ?_)))) <;> (first | (exfalso; omega) | skip))
            | (show Rch _ _ _ _ _ 10 _ _ _; refine Rch.blk' (Rn_mono mt _ _) bl_X3_off_10 (i_iconst k_m1 (t_iret ?_)))
            | (show Rch _ _ _ _ _ 12 _ _ _; refine Rch.blk' (Rn_mono mt _ _) bl_X3_off_12 (i_aload_n rfl (i_gfs rfl (i_aload_n rfl (i_gfs rfl (t_cv2 (Rn_mono mt _ _) 23 rfl (Nat.le_of_ble_eq_true rfl) ?_))))))
            | (show Rch _ _ _ _ _ 23 _ _ _; refine Rch.blk' (Rn_mono mt _ _) bl_X3_off_23 (i_aload_n rfl (i_gfs rfl (i_iload_n rfl (t_cv2 (Rn_mono mt _ _) 31 rfl (Nat.le_of_ble_eq_true rfl) ?_)))))
            | (show Rch _ _ _ _ _ 31 _ _ _; refine Rch.blk' (Rn_mono mt _ _) bl_X3_off_31 (i_bipush k_m4 (i_istore2 trivial (i_iconst k_0 (i_istore3 trivial (i_iconst k_0 (i_istore4 trivial (t_none ?_))))))))
            | (show Rch _ _ _ _ _ 51 _ _ _; refine Rch.blk' (Rn_mono mt _ _) bl_X3_off_51 (i_aload_n rfl (i_gfs rfl (i_aload_n rfl (i_gfs rfl (t_cv2 (Rn_mono mt _ _) 62 rfl (Nat.le_of_ble_eq_true rfl) ?_))))))
            | (show Rch _ _ _ _ _ 62 _ _ _; refine Rch.blk' (Rn_mono mt _ _) bl_X3_off_62 (i_aload_n rfl (i_gfs rfl (i_iload rfl (t_cv2 (Rn_mono mt _ _) 71 rfl (Nat.le_of_ble_eq_true rfl) ?_)))))
            | (show Rch _ _ _ _ _ 71 _ _ _; refine Rch.blk' (Rn_mono mt _ _) bl_X3_off_71 (t_if_eq 119 74 rfl rfl (by first | exact hI_R | exact band_R | exact bor_R | exact bshr_R | exact lcm_R | omega) (fun hc => ?_) (fun hc => ?_)) <;> (first | (exfalso; omega) | skip))
            | (show Rch _ _ _ _ _ 74 _ _ _; refine Rch.blk' (Rn_mono mt _ _) bl_X3_off_74 (i_aload_n rfl (i_gfs rfl (i_iload_n rfl (t_cv2 (Rn_mono mt _ _) 82 rfl (Nat.le_of_ble_eq_true rfl) ?_)))))
            | (show Rch _ _ _ _ _ 82 _ _ _; refine Rch.blk' (Rn_mono mt _ _) bl_X3_off_82 (i_aload_n rfl (i_gfs rfl (i_iload rfl (t_cv2 (Rn_mono mt _ _) 91 rfl (Nat.le_of_ble_eq_true rfl) ?_)))))
            | (show Rch _ _ _ _ _ 91 _ _ _; refine Rch.blk' (Rn_mono mt _ _) bl_X3_off_91 (i_istore5 trivial (i_iload rfl (i_aload_n rfl (i_gfs rfl (i_iload rfl (t_cv2 (Rn_mono mt _ _) 104 rfl (Nat.le_of_ble_eq_true rfl) ?_)))))))
            | (show Rch _ _ _ _ _ 104 _ _ _; refine Rch.blk' (Rn_mono mt _ _) bl_X3_off_104 (t_ic_le 119 107 rfl rfl (by first | exact hI_R | exact band_R | exact bor_R | exact bshr_R | exact lcm_R | omega) (by first | exact hI_R | exact band_R | exact bor_R | exact bshr_R | exact lcm_R | omega) (fun hc => ?_) (fun hc => ?_)) <;> (first | (exfalso; omega) | skip))
            | (show Rch _ _ _ _ _ 107 _ _ _; refine Rch.blk' (Rn_mono mt _ _) bl_X3_off_107 (i_iload rfl (i_iload_n rfl (t_ic_le 119 113 rfl rfl (by first | exact hI_R | exact band_R | exact bor_R | exact bshr_R | exact lcm_R | omega) (by first | exact hI_R | exact band_R | exact bor_R | exact bshr_R | exact lcm_R | omega) (fun hc => ?_) (fun hc => ?_)))) <;> (first | (exfalso; omega) | skip))
            | (show Rch _ _ _ _ _ 113 _ _ _; refine Rch.blk' (Rn_mono mt _ _) bl_X3_off_113 (i_iload rfl (i_istore2 trivial (i_iload rfl (i_istore3 trivial (t_none ?_))))))
            | (show Rch _ _ _ _ _ 119 _ _ _; refine Rch.blk' (Rn_mono mt _ _) bl_X3_off_119 (i_iinc4 trivial k_1 (t_goto 39 rfl ?_)))
            | (show Rch _ _ _ _ _ 125 _ _ _; refine Rch.blk' (Rn_mono mt _ _) bl_X3_off_125 (i_iload_n rfl (t_iret ?_))))
      · obtain rfl : k = nn G := by omega
        have kk : Q (some (ai (I (GB (ofC G n) (ofV G n) (nn G))))) h' := hq _ _ (by unfold vOff; rw [if_pos ⟨n0, n1⟩]) hJ
        clear ih ho
        refine Rch.blk' (Rn_mono mt _ _) bl_X3_off_39 (i_iload rfl (i_aload_n rfl (i_gfs rfl (i_gfi rfl (t_ic_ge 125 51 rfl rfl (by first | exact hI_R | exact band_R | exact bor_R | exact bshr_R | exact lcm_R | omega | (simp (disch := omega) only [e_n]; omega)) (by first | exact hI_R | exact band_R | exact bor_R | exact bshr_R | exact lcm_R | omega | (simp (disch := omega) only [e_n]; omega)) (fun hc => ?_) (fun hc => ?_)))))) <;> (try (simp (disch := omega) only [e_n] at hc ⊢)) <;> (first | (exfalso; omega) | skip)
        repeat' (first
          | exact kk
          | (show Rn _ _ _ 12 _ _ _; refine c_X0_takeOff (by assumption) (by assumption) (by first | omega | exact hI_R) (fun _ _ _ _ _ _ => ?_) (fun _ => ?_))
          | (show Rn _ _ _ 36 _ _ _; refine c_X0_worthWithout (by assumption) (by assumption) (by omega) (by omega) ?_)
          | (show Rch _ _ _ _ _ 0 _ _ _; refine Rch.blk' (Rn_mono mt _ _) bl_X3_off_0 (i_iload_n rfl (t_if_lt 10 4 rfl rfl (by first | exact hI_R | exact band_R | exact bor_R | exact bshr_R | exact lcm_R | omega) (fun hc => ?_) (fun hc => ?_))) <;> (first | (exfalso; omega) | skip))
          | (show Rch _ _ _ _ _ 4 _ _ _; refine Rch.blk' (Rn_mono mt _ _) bl_X3_off_4 (i_iload_n rfl (i_bipush k_30 (t_ic_le 12 10 rfl rfl (by first | exact hI_R | exact band_R | exact bor_R | exact bshr_R | exact lcm_R | omega) (by first | exact hI_R | exact band_R | exact bor_R | exact bshr_R | exact lcm_R | omega) (fun hc => ?_) (fun hc => ?_)))) <;> (first | (exfalso; omega) | skip))
          | (show Rch _ _ _ _ _ 10 _ _ _; refine Rch.blk' (Rn_mono mt _ _) bl_X3_off_10 (i_iconst k_m1 (t_iret ?_)))
          | (show Rch _ _ _ _ _ 12 _ _ _; refine Rch.blk' (Rn_mono mt _ _) bl_X3_off_12 (i_aload_n rfl (i_gfs rfl (i_aload_n rfl (i_gfs rfl (t_cv2 (Rn_mono mt _ _) 23 rfl (Nat.le_of_ble_eq_true rfl) ?_))))))
          | (show Rch _ _ _ _ _ 23 _ _ _; refine Rch.blk' (Rn_mono mt _ _) bl_X3_off_23 (i_aload_n rfl (i_gfs rfl (i_iload_n rfl (t_cv2 (Rn_mono mt _ _) 31 rfl (Nat.le_of_ble_eq_true rfl) ?_)))))
          | (show Rch _ _ _ _ _ 31 _ _ _; refine Rch.blk' (Rn_mono mt _ _) bl_X3_off_31 (i_bipush k_m4 (i_istore2 trivial (i_iconst k_0 (i_istore3 trivial (i_iconst k_0 (i_istore4 trivial (t_none ?_))))))))
          | (show Rch _ _ _ _ _ 51 _ _ _; refine Rch.blk' (Rn_mono mt _ _) bl_X3_off_51 (i_aload_n rfl (i_gfs rfl (i_aload_n rfl (i_gfs rfl (t_cv2 (Rn_mono mt _ _) 62 rfl (Nat.le_of_ble_eq_true rfl) ?_))))))
          | (show Rch _ _ _ _ _ 62 _ _ _; refine Rch.blk' (Rn_mono mt _ _) bl_X3_off_62 (i_aload_n rfl (i_gfs rfl (i_iload rfl (t_cv2 (Rn_mono mt _ _) 71 rfl (Nat.le_of_ble_eq_true rfl) ?_)))))
          | (show Rch _ _ _ _ _ 71 _ _ _; refine Rch.blk' (Rn_mono mt _ _) bl_X3_off_71 (t_if_eq 119 74 rfl rfl (by first | exact hI_R | exact band_R | exact bor_R | exact bshr_R | exact lcm_R | omega) (fun hc => ?_) (fun hc => ?_)) <;> (first | (exfalso; omega) | skip))
          | (show Rch _ _ _ _ _ 74 _ _ _; refine Rch.blk' (Rn_mono mt _ _) bl_X3_off_74 (i_aload_n rfl (i_gfs rfl (i_iload_n rfl (t_cv2 (Rn_mono mt _ _) 82 rfl (Nat.le_of_ble_eq_true rfl) ?_)))))
          | (show Rch _ _ _ _ _ 82 _ _ _; refine Rch.blk' (Rn_mono mt _ _) bl_X3_off_82 (i_aload_n rfl (i_gfs rfl (i_iload rfl (t_cv2 (Rn_mono mt _ _) 91 rfl (Nat.le_of_ble_eq_true rfl) ?_)))))
          | (show Rch _ _ _ _ _ 91 _ _ _; refine Rch.blk' (Rn_mono mt _ _) bl_X3_off_91 (i_istore5 trivial (i_iload rfl (i_aload_n rfl (i_gfs rfl (i_iload rfl (t_cv2 (Rn_mono mt _ _) 104 rfl (Nat.le_of_ble_eq_true rfl) ?_)))))))
          | (show Rch _ _ _ _ _ 104 _ _ _; refine Rch.blk' (Rn_mono mt _ _) bl_X3_off_104 (t_ic_le 119 107 rfl rfl (by first | exact hI_R | exact band_R | exact bor_R | exact bshr_R | exact lcm_R | omega) (by first | exact hI_R | exact band_R | exact bor_R | exact bshr_R | exact lcm_R | omega) (fun hc => ?_) (fun hc => ?_)) <;> (first | (exfalso; omega) | skip))
          | (show Rch _ _ _ _ _ 107 _ _ _; refine Rch.blk' (Rn_mono mt _ _) bl_X3_off_107 (i_iload rfl (i_iload_n rfl (t_ic_le 119 113 rfl rfl (by first | exact hI_R | exact band_R | exact bor_R | exact bshr_R | exact lcm_R | omega) (by first | exact hI_R | exact band_R | exact bor_R | exact bshr_R | exact lcm_R | omega) (fun hc => ?_) (fun hc => ?_)))) <;> (first | (exfalso; omega) | skip))
          | (show Rch _ _ _ _ _ 113 _ _ _; refine Rch.blk' (Rn_mono mt _ _) bl_X3_off_113 (i_iload rfl (i_istore2 trivial (i_iload rfl (i_istore3 trivial (t_none ?_))))))
          | (show Rch _ _ _ _ _ 119 _ _ _; refine Rch.blk' (Rn_mono mt _ _) bl_X3_off_119 (i_iinc4 trivial k_1 (t_goto 39 rfl ?_)))
          | (show Rch _ _ _ _ _ 125 _ _ _; refine Rch.blk' (Rn_mono mt _ _) bl_X3_off_125 (i_iload_n rfl (t_iret ?_))))
    refine Rch.blk' (Rn_mono mt _ _) bl_X3_off_0 (i_iload_n rfl (t_if_lt 10 4 rfl rfl (by first | exact hI_R | exact band_R | exact bor_R | exact bshr_R | exact lcm_R | omega) (fun hc => ?_) (fun hc => ?_))) <;> (first | (exfalso; omega) | skip)
    refine Rch.blk' (Rn_mono mt _ _) bl_X3_off_4 (i_iload_n rfl (i_bipush k_30 (t_ic_le 12 10 rfl rfl (by first | exact hI_R | exact band_R | exact bor_R | exact bshr_R | exact lcm_R | omega) (by first | exact hI_R | exact band_R | exact bor_R | exact bshr_R | exact lcm_R | omega) (fun hc => ?_) (fun hc => ?_)))) <;> (first | (exfalso; omega) | skip)
    refine Rch.blk' (Rn_mono mt _ _) bl_X3_off_12 (i_aload_n rfl (i_gfs rfl (i_aload_n rfl (i_gfs rfl (t_cv2 (Rn_mono mt _ _) 23 rfl (Nat.le_of_ble_eq_true rfl) ?_)))))
    refine c_X0_becomes hG hO (by decide) (fun h2 hG2 hF2 => ?_)
    have hR2 := hG.fr hF2 (by decide)
    refine Rch.blk' (Rn_mono mt _ _) bl_X3_off_23 (i_aload_n rfl (i_gfs rfl (i_iload_n rfl (t_cv2 (Rn_mono mt _ _) 31 rfl (Nat.le_of_ble_eq_true rfl) ?_))))
    refine c_X0_passDays hG2 hO n0 (by omega) (by omega) (fun h3 hG3 hF3 => ?_)
    have kz := key 0 (by omega) (by omega) 0 none h3 ⟨fun _ => rfl, fun z => absurd (show (-4 : Int) < 0 by omega) z⟩ (hR2.fr hF3 (by decide)) hG3 ((hF2.tr hF3).jx (by omega))
    repeat' (first
      | exact kz
      | (show Rn _ _ _ 12 _ _ _; refine c_X0_takeOff (by assumption) (by assumption) (by first | omega | exact hI_R) (fun _ _ _ _ _ _ => ?_) (fun _ => ?_))
      | (show Rn _ _ _ 36 _ _ _; refine c_X0_worthWithout (by assumption) (by assumption) (by omega) (by omega) ?_)
      | (show Rch _ _ _ _ _ 0 _ _ _; refine Rch.blk' (Rn_mono mt _ _) bl_X3_off_0 (i_iload_n rfl (t_if_lt 10 4 rfl rfl (by first | exact hI_R | exact band_R | exact bor_R | exact bshr_R | exact lcm_R | omega) (fun hc => ?_) (fun hc => ?_))) <;> (first | (exfalso; omega) | skip))
      | (show Rch _ _ _ _ _ 4 _ _ _; refine Rch.blk' (Rn_mono mt _ _) bl_X3_off_4 (i_iload_n rfl (i_bipush k_30 (t_ic_le 12 10 rfl rfl (by first | exact hI_R | exact band_R | exact bor_R | exact bshr_R | exact lcm_R | omega) (by first | exact hI_R | exact band_R | exact bor_R | exact bshr_R | exact lcm_R | omega) (fun hc => ?_) (fun hc => ?_)))) <;> (first | (exfalso; omega) | skip))
      | (show Rch _ _ _ _ _ 10 _ _ _; refine Rch.blk' (Rn_mono mt _ _) bl_X3_off_10 (i_iconst k_m1 (t_iret ?_)))
      | (show Rch _ _ _ _ _ 12 _ _ _; refine Rch.blk' (Rn_mono mt _ _) bl_X3_off_12 (i_aload_n rfl (i_gfs rfl (i_aload_n rfl (i_gfs rfl (t_cv2 (Rn_mono mt _ _) 23 rfl (Nat.le_of_ble_eq_true rfl) ?_))))))
      | (show Rch _ _ _ _ _ 23 _ _ _; refine Rch.blk' (Rn_mono mt _ _) bl_X3_off_23 (i_aload_n rfl (i_gfs rfl (i_iload_n rfl (t_cv2 (Rn_mono mt _ _) 31 rfl (Nat.le_of_ble_eq_true rfl) ?_)))))
      | (show Rch _ _ _ _ _ 31 _ _ _; refine Rch.blk' (Rn_mono mt _ _) bl_X3_off_31 (i_bipush k_m4 (i_istore2 trivial (i_iconst k_0 (i_istore3 trivial (i_iconst k_0 (i_istore4 trivial (t_none ?_))))))))
      | (show Rch _ _ _ _ _ 51 _ _ _; refine Rch.blk' (Rn_mono mt _ _) bl_X3_off_51 (i_aload_n rfl (i_gfs rfl (i_aload_n rfl (i_gfs rfl (t_cv2 (Rn_mono mt _ _) 62 rfl (Nat.le_of_ble_eq_true rfl) ?_))))))
      | (show Rch _ _ _ _ _ 62 _ _ _; refine Rch.blk' (Rn_mono mt _ _) bl_X3_off_62 (i_aload_n rfl (i_gfs rfl (i_iload rfl (t_cv2 (Rn_mono mt _ _) 71 rfl (Nat.le_of_ble_eq_true rfl) ?_)))))
      | (show Rch _ _ _ _ _ 71 _ _ _; refine Rch.blk' (Rn_mono mt _ _) bl_X3_off_71 (t_if_eq 119 74 rfl rfl (by first | exact hI_R | exact band_R | exact bor_R | exact bshr_R | exact lcm_R | omega) (fun hc => ?_) (fun hc => ?_)) <;> (first | (exfalso; omega) | skip))
      | (show Rch _ _ _ _ _ 74 _ _ _; refine Rch.blk' (Rn_mono mt _ _) bl_X3_off_74 (i_aload_n rfl (i_gfs rfl (i_iload_n rfl (t_cv2 (Rn_mono mt _ _) 82 rfl (Nat.le_of_ble_eq_true rfl) ?_)))))
      | (show Rch _ _ _ _ _ 82 _ _ _; refine Rch.blk' (Rn_mono mt _ _) bl_X3_off_82 (i_aload_n rfl (i_gfs rfl (i_iload rfl (t_cv2 (Rn_mono mt _ _) 91 rfl (Nat.le_of_ble_eq_true rfl) ?_)))))
      | (show Rch _ _ _ _ _ 91 _ _ _; refine Rch.blk' (Rn_mono mt _ _) bl_X3_off_91 (i_istore5 trivial (i_iload rfl (i_aload_n rfl (i_gfs rfl (i_iload rfl (t_cv2 (Rn_mono mt _ _) 104 rfl (Nat.le_of_ble_eq_true rfl) ?_)))))))
      | (show Rch _ _ _ _ _ 104 _ _ _; refine Rch.blk' (Rn_mono mt _ _) bl_X3_off_104 (t_ic_le 119 107 rfl rfl (by first | exact hI_R | exact band_R | exact bor_R | exact bshr_R | exact lcm_R | omega) (by first | exact hI_R | exact band_R | exact bor_R | exact bshr_R | exact lcm_R | omega) (fun hc => ?_) (fun hc => ?_)) <;> (first | (exfalso; omega) | skip))
      | (show Rch _ _ _ _ _ 107 _ _ _; refine Rch.blk' (Rn_mono mt _ _) bl_X3_off_107 (i_iload rfl (i_iload_n rfl (t_ic_le 119 113 rfl rfl (by first | exact hI_R | exact band_R | exact bor_R | exact bshr_R | exact lcm_R | omega) (by first | exact hI_R | exact band_R | exact bor_R | exact bshr_R | exact lcm_R | omega) (fun hc => ?_) (fun hc => ?_)))) <;> (first | (exfalso; omega) | skip))
      | (show Rch _ _ _ _ _ 113 _ _ _; refine Rch.blk' (Rn_mono mt _ _) bl_X3_off_113 (i_iload rfl (i_istore2 trivial (i_iload rfl (i_istore3 trivial (t_none ?_))))))
      | (show Rch _ _ _ _ _ 119 _ _ _; refine Rch.blk' (Rn_mono mt _ _) bl_X3_off_119 (i_iinc4 trivial k_1 (t_goto 39 rfl ?_)))
      | (show Rch _ _ _ _ _ 125 _ _ _; refine Rch.blk' (Rn_mono mt _ _) bl_X3_off_125 (i_iload_n rfl (t_iret ?_))))
  · clear hq
    repeat' (first
      | ((with_reducible refine k1 _ ?_ ?_) <;> omega)
      | (show Rn _ _ _ 12 _ _ _; refine c_X0_takeOff (by assumption) (by assumption) (by first | omega | exact hI_R) (fun _ _ _ _ _ _ => ?_) (fun _ => ?_))
      | (show Rn _ _ _ 36 _ _ _; refine c_X0_worthWithout (by assumption) (by assumption) (by omega) (by omega) ?_)
      | (show Rch _ _ _ _ _ 0 _ _ _; refine Rch.blk' (Rn_mono mt _ _) bl_X3_off_0 (i_iload_n rfl (t_if_lt 10 4 rfl rfl (by first | exact hI_R | exact band_R | exact bor_R | exact bshr_R | exact lcm_R | omega) (fun hc => ?_) (fun hc => ?_))) <;> (first | (exfalso; omega) | skip))
      | (show Rch _ _ _ _ _ 4 _ _ _; refine Rch.blk' (Rn_mono mt _ _) bl_X3_off_4 (i_iload_n rfl (i_bipush k_30 (t_ic_le 12 10 rfl rfl (by first | exact hI_R | exact band_R | exact bor_R | exact bshr_R | exact lcm_R | omega) (by first | exact hI_R | exact band_R | exact bor_R | exact bshr_R | exact lcm_R | omega) (fun hc => ?_) (fun hc => ?_)))) <;> (first | (exfalso; omega) | skip))
      | (show Rch _ _ _ _ _ 10 _ _ _; refine Rch.blk' (Rn_mono mt _ _) bl_X3_off_10 (i_iconst k_m1 (t_iret ?_)))
      | (show Rch _ _ _ _ _ 23 _ _ _; refine Rch.blk' (Rn_mono mt _ _) bl_X3_off_23 (i_aload_n rfl (i_gfs rfl (i_iload_n rfl (t_cv2 (Rn_mono mt _ _) 31 rfl (Nat.le_of_ble_eq_true rfl) ?_)))))
      | (show Rch _ _ _ _ _ 31 _ _ _; refine Rch.blk' (Rn_mono mt _ _) bl_X3_off_31 (i_bipush k_m4 (i_istore2 trivial (i_iconst k_0 (i_istore3 trivial (i_iconst k_0 (i_istore4 trivial (t_none ?_))))))))
      | (show Rch _ _ _ _ _ 39 _ _ _; refine Rch.blk' (Rn_mono mt _ _) bl_X3_off_39 (i_iload rfl (i_aload_n rfl (i_gfs rfl (i_gfi rfl (t_ic_ge 125 51 rfl rfl (by first | exact hI_R | exact band_R | exact bor_R | exact bshr_R | exact lcm_R | omega) (by first | exact hI_R | exact band_R | exact bor_R | exact bshr_R | exact lcm_R | omega) (fun hc => ?_) (fun hc => ?_)))))) <;> (first | (exfalso; omega) | skip))
      | (show Rch _ _ _ _ _ 51 _ _ _; refine Rch.blk' (Rn_mono mt _ _) bl_X3_off_51 (i_aload_n rfl (i_gfs rfl (i_aload_n rfl (i_gfs rfl (t_cv2 (Rn_mono mt _ _) 62 rfl (Nat.le_of_ble_eq_true rfl) ?_))))))
      | (show Rch _ _ _ _ _ 62 _ _ _; refine Rch.blk' (Rn_mono mt _ _) bl_X3_off_62 (i_aload_n rfl (i_gfs rfl (i_iload rfl (t_cv2 (Rn_mono mt _ _) 71 rfl (Nat.le_of_ble_eq_true rfl) ?_)))))
      | (show Rch _ _ _ _ _ 71 _ _ _; refine Rch.blk' (Rn_mono mt _ _) bl_X3_off_71 (t_if_eq 119 74 rfl rfl (by first | exact hI_R | exact band_R | exact bor_R | exact bshr_R | exact lcm_R | omega) (fun hc => ?_) (fun hc => ?_)) <;> (first | (exfalso; omega) | skip))
      | (show Rch _ _ _ _ _ 74 _ _ _; refine Rch.blk' (Rn_mono mt _ _) bl_X3_off_74 (i_aload_n rfl (i_gfs rfl (i_iload_n rfl (t_cv2 (Rn_mono mt _ _) 82 rfl (Nat.le_of_ble_eq_true rfl) ?_)))))
      | (show Rch _ _ _ _ _ 82 _ _ _; refine Rch.blk' (Rn_mono mt _ _) bl_X3_off_82 (i_aload_n rfl (i_gfs rfl (i_iload rfl (t_cv2 (Rn_mono mt _ _) 91 rfl (Nat.le_of_ble_eq_true rfl) ?_)))))
      | (show Rch _ _ _ _ _ 91 _ _ _; refine Rch.blk' (Rn_mono mt _ _) bl_X3_off_91 (i_istore5 trivial (i_iload rfl (i_aload_n rfl (i_gfs rfl (i_iload rfl (t_cv2 (Rn_mono mt _ _) 104 rfl (Nat.le_of_ble_eq_true rfl) ?_)))))))
      | (show Rch _ _ _ _ _ 104 _ _ _; refine Rch.blk' (Rn_mono mt _ _) bl_X3_off_104 (t_ic_le 119 107 rfl rfl (by first | exact hI_R | exact band_R | exact bor_R | exact bshr_R | exact lcm_R | omega) (by first | exact hI_R | exact band_R | exact bor_R | exact bshr_R | exact lcm_R | omega) (fun hc => ?_) (fun hc => ?_)) <;> (first | (exfalso; omega) | skip))
      | (show Rch _ _ _ _ _ 107 _ _ _; refine Rch.blk' (Rn_mono mt _ _) bl_X3_off_107 (i_iload rfl (i_iload_n rfl (t_ic_le 119 113 rfl rfl (by first | exact hI_R | exact band_R | exact bor_R | exact bshr_R | exact lcm_R | omega) (by first | exact hI_R | exact band_R | exact bor_R | exact bshr_R | exact lcm_R | omega) (fun hc => ?_) (fun hc => ?_)))) <;> (first | (exfalso; omega) | skip))
      | (show Rch _ _ _ _ _ 113 _ _ _; refine Rch.blk' (Rn_mono mt _ _) bl_X3_off_113 (i_iload rfl (i_istore2 trivial (i_iload rfl (i_istore3 trivial (t_none ?_))))))
      | (show Rch _ _ _ _ _ 119 _ _ _; refine Rch.blk' (Rn_mono mt _ _) bl_X3_off_119 (i_iinc4 trivial k_1 (t_goto 39 rfl ?_)))
      | (show Rch _ _ _ _ _ 125 _ _ _; refine Rch.blk' (Rn_mono mt _ _) bl_X3_off_125 (i_iload_n rfl (t_iret ?_))))
end C27


