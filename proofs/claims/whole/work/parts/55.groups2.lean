/-! GROUPS, SIDE: the reference -/
section C30
variable {d : Nat} {h : Mem} {Q : Option AV → Mem → Prop} {G : Bd}
theorem c_X4_groupsOf (hG : RR h 0 G no0 0) (hO : OKB G) {s : Int} (hs : s = 0 ∨ s = 1) (hq : Q (some (ai (I (GNs G s (nn G))))) h) : Rn mt (d + 6) 173 [ar 3 0, ai (I s)] h Q := by
  refine Rn.intro iX4_groupsOf rfl rfl ?_
  show Rch bX4_groupsOf _ _ _ _ 0 [some (ar 3 0), some (ai (I s)), none, none, none, none, none, none, none] [] _
  have e_n := hG.n
  have g_n := hO.n
  have key : ∀ k : Int, k ≤ nn G → 0 ≤ k → ∀ u5 u6 u7 u8 : Option AV, RH bX4_groupsOf (d + 5) Q 14 [some (ar 3 0), some (ai (I s)), some (ai (I (BT (fun i => OS G s i ∧ ¬ GSs G s k i)))), some (ai (I (GNs G s k))), some (ai (I k)), u5, u6, u7, u8] h := by
    refine up_ind (fun k hk ih hk0 u5 u6 u7 u8 => ?_)
    by_cases hk1 : k < nn G
    · have ih := ih hk1 (by omega)
      rw [GNs_up hk0] at ih
      by_cases hP : OC G s k ∧ ¬ GSs G s k k
      · have e_g : BT (fun i => OS G s i ∧ ¬ GSs G s (k + 1) i) = BT (fun i => (OS G s i ∧ ¬ GSs G s k i) ∧ ¬ CLs G s k i) := by
          rw [GSs_up hk0]
          exact BT_ext (fun i _ _ => ⟨fun z => ⟨⟨z.1, fun w => z.2 (Or.inl w)⟩, fun w => z.2 (Or.inr ⟨hP, w⟩)⟩, fun z => ⟨z.1.1, fun w => w.elim z.1.2 (fun w => z.2 w.2)⟩⟩)
        rw [ifp_p hP, e_g, ← b_notS] at ih
        have lr : ∀ r : Int, r ≤ 10 → 0 ≤ r → ∀ (S : Int → Prop) (u7 u8 : Option AV), gInv G s k S (r + 1) → RH bX4_groupsOf (d + 5) Q 46 [some (ar 3 0), some (ai (I s)), some (ai (I (BT (fun i => OS G s i ∧ ¬ GSs G s k i)))), some (ai (I (GNs G s k))), some (ai (I k)), some (ai (I (BT S))), some (ai (I r)), u7, u8] h := by
          refine up_ind (fun r hr ir hr0 S u7 u8 hS => ?_)
          by_cases hr1 : r < 10
          · have ir := ir hr1 (by omega)
            have la : ∀ a : Int, a ≤ nn G → 0 ≤ a → ∀ (P : Int → Prop) (u8 : Option AV), (∀ i, S i → P i) → (∀ i, P i → CLs G s k i) → (∀ i, P i → 0 ≤ i ∧ i < nn G) → (∀ x y, S x → HE G s x y → x < a → P y) → RH bX4_groupsOf (d + 5) Q 56 [some (ar 3 0), some (ai (I s)), some (ai (I (BT (fun i => OS G s i ∧ ¬ GSs G s k i)))), some (ai (I (GNs G s k))), some (ai (I k)), some (ai (I (BT P))), some (ai (I r)), some (ai (I a)), u8] h := by
              refine up_ind (fun a ha ja a0 P0 u8 f1 f2 f3 f4 => ?_)
              by_cases a1 : a < nn G
              · have ja := ja a1 (by omega)
                have g_a := hO.pc a a0 a1
                have lb : ∀ y : Int, y ≤ nn G → 0 ≤ y → ∀ (P : Int → Prop), (∀ i, S i → P i) → (∀ i, P i → CLs G s k i) → (∀ i, P i → 0 ≤ i ∧ i < nn G) → (∀ x z, S x → HE G s x z → x < a → P z) → (∀ z, S a → HE G s a z → z < y → P z) → RH bX4_groupsOf (d + 5) Q 70 [some (ar 3 0), some (ai (I s)), some (ai (I (BT (fun i => OS G s i ∧ ¬ GSs G s k i)))), some (ai (I (GNs G s k))), some (ai (I k)), some (ai (I (BT P))), some (ai (I r)), some (ai (I a)), some (ai (I y))] h := by
                  refine up_ind (fun y hy jb y0 P h1 h2 h3 h4 h5 => ?_)
                  by_cases y1 : y < nn G
                  · have jb := jb y1 (by omega)
                    have g_y := hO.pc y y0 y1
                    by_cases hPa : P a
                    · have hCa := CLs_r hk0 hk1 hP.1 (h2 a hPa)
                      have kA : HE G s a y ∨ a = y → RH bX4_groupsOf (d + 5) Q 70 [some (ar 3 0), some (ai (I s)), some (ai (I (BT (fun i => OS G s i ∧ ¬ GSs G s k i)))), some (ai (I (GNs G s k))), some (ai (I k)), some (ai (I (bor (BT P) (bshl 1 y)))), some (ai (I r)), some (ai (I a)), some (ai (I (y + 1)))] h := by
                        intro c
                        rw [b_or1 y0 (by omega)]
                        exact jb (fun i => P i ∨ i = y) (fun i z => Or.inl (h1 i z)) (fun i z => z.elim (h2 i) (fun w => by rw [w]; exact c.elim (fun c => CLs_s (h2 a hPa) c) (fun c => by rw [← c]; exact h2 a hPa))) (fun i z => z.elim (h3 i) (fun w => by rw [w]; exact ⟨y0, y1⟩)) (fun x z a1 a2 a3 => Or.inl (h4 x z a1 a2 a3)) (fun z a1 a2 a3 => by
                          by_cases e : z = y
                          · exact Or.inr e
                          · exact Or.inl (h5 z a1 a2 (by omega)))
                      have kB : ¬ HE G s a y → RH bX4_groupsOf (d + 5) Q 70 [some (ar 3 0), some (ai (I s)), some (ai (I (BT (fun i => OS G s i ∧ ¬ GSs G s k i)))), some (ai (I (GNs G s k))), some (ai (I k)), some (ai (I (BT P))), some (ai (I r)), some (ai (I a)), some (ai (I (y + 1)))] h := by
                        intro c
                        exact jb P h1 h2 h3 h4 (fun z a1 a2 a3 => by
                          by_cases e : z = y
                          · subst e; exact absurd a2 c
                          · exact h5 z a1 a2 (by omega))
                      clear jb ja ir ih
                      refine Rch.blk' (Rn_mono mt _) bl_X4_groupsOf_70 (i_iload rfl (i_aload_n rfl (i_gfs rfl (i_iconst k_0 (i_iald (n := 46) rfl (by first | omega | (simp (disch := omega) only [e_n]; omega)) (by first | omega | (simp (disch := omega) only [e_n]; omega)) (by first | omega | (simp (disch := omega) only [e_n]; omega)) (t_ic_ge 134 81 rfl rfl (by first | exact hI_R | exact band_R | exact bor_R | exact bshr_R | exact lcm_R | omega | (simp (disch := omega) only [e_n]; omega)) (by first | exact hI_R | exact band_R | exact bor_R | exact bshr_R | exact lcm_R | omega | (simp (disch := omega) only [e_n]; omega)) (fun hc => ?_) (fun hc => ?_))))))) <;> (try (simp (disch := omega) only [e_n] at hc ⊢)) <;> (first | (exfalso; omega) | skip)
                      refine Rch.blk' (Rn_mono mt _) bl_X4_groupsOf_81 (i_iload rfl (i_iload rfl (t_cs2 (Rn_mono mt _) 88 rfl (Nat.le_of_ble_eq_true rfl) ?_)))
                      refine c_X4_has a0 (by omega) (fun _ => ?_) (fun z => absurd hPa z)
                      refine Rch.blk' (Rn_mono mt _) bl_X4_groupsOf_88 (t_if_eq 128 91 rfl rfl (by first | exact hI_R | exact band_R | exact bor_R | exact bshr_R | exact lcm_R | omega) (fun hc => ?_) (fun hc => ?_)) <;> (first | (exfalso; omega) | skip)
                      refine Rch.blk' (Rn_mono mt _) bl_X4_groupsOf_91 (i_aload_n rfl (i_gfs rfl (i_iload rfl (i_iload rfl (t_cs3 (Rn_mono mt _) 102 rfl (Nat.le_of_ble_eq_true rfl) ?_)))))
                      refine c_X4_doesHear hG hO (Or.inl rfl) a0 a1 y0 y1 (fun c => ?_) (fun c => ?_)
                      · have kA := kA (by
                          rcases c with c | ⟨c1, c2, c3, c4⟩
                          · exact Or.inr c
                          · exact Or.inl ⟨hCa, ⟨y0, y1, c2.symm.trans hCa.2.2.1, c1⟩, Or.inl ⟨c2, c3, c4⟩⟩)
                        repeat' (first
                          | exact kA
                          | (show Rn _ _ 134 _ _ _; refine c_X4_ofSide (by assumption) (by assumption) (by first | omega | exact hI_R) ?_)
                          | (show Rn _ _ 115 _ _ _; refine c_X4_has (by omega) (by omega) (fun _ => ?_) (fun _ => ?_))
                          | (show Rn _ _ 131 _ _ _; refine c_X4_doesHear (by assumption) (by assumption) (by omega) (by omega) (by omega) (by omega) (by omega) (fun _ => ?_) (fun _ => ?_))
                          | (show Rch _ _ _ _ _ 0 _ _ _; refine Rch.blk' (Rn_mono mt _) bl_X4_groupsOf_0 (i_aload_n rfl (i_gfs rfl (i_iload_n rfl (t_cs2 (Rn_mono mt _) 8 rfl (Nat.le_of_ble_eq_true rfl) ?_)))))
                          | (show Rch _ _ _ _ _ 8 _ _ _; refine Rch.blk' (Rn_mono mt _) bl_X4_groupsOf_8 (i_istore2 trivial (i_iconst k_0 (i_istore3 trivial (i_iconst k_0 (i_istore4 trivial (t_none ?_)))))))
                          | (show Rch _ _ _ _ _ 14 _ _ _; refine Rch.blk' (Rn_mono mt _) bl_X4_groupsOf_14 (i_iload rfl (i_aload_n rfl (i_gfs rfl (i_iconst k_0 (i_iald (n := 46) rfl (by omega) (by omega) (by omega) (t_ic_ge 162 25 rfl rfl (by first | exact hI_R | exact band_R | exact bor_R | exact bshr_R | exact lcm_R | omega) (by first | exact hI_R | exact band_R | exact bor_R | exact bshr_R | exact lcm_R | omega) (fun hc => ?_) (fun hc => ?_))))))) <;> (first | (exfalso; omega) | skip))
                          | (show Rch _ _ _ _ _ 25 _ _ _; refine Rch.blk' (Rn_mono mt _) bl_X4_groupsOf_25 (i_iload_n rfl (i_iload rfl (t_cs2 (Rn_mono mt _) 31 rfl (Nat.le_of_ble_eq_true rfl) ?_))))
                          | (show Rch _ _ _ _ _ 31 _ _ _; refine Rch.blk' (Rn_mono mt _) bl_X4_groupsOf_31 (t_if_ne 37 34 rfl rfl (by first | exact hI_R | exact band_R | exact bor_R | exact bshr_R | exact lcm_R | omega) (fun hc => ?_) (fun hc => ?_)) <;> (first | (exfalso; omega) | skip))
                          | (show Rch _ _ _ _ _ 34 _ _ _; refine Rch.blk' (Rn_mono mt _) bl_X4_groupsOf_34 (t_goto 156 rfl ?_))
                          | (show Rch _ _ _ _ _ 37 _ _ _; refine Rch.blk' (Rn_mono mt _) bl_X4_groupsOf_37 (i_iconst k_1 (i_iload rfl (i_ishl (i_istore5 trivial (i_iconst k_0 (i_istore6 trivial (t_none ?_))))))))
                          | (show Rch _ _ _ _ _ 46 _ _ _; refine Rch.blk' (Rn_mono mt _) bl_X4_groupsOf_46 (i_iload rfl (i_bipush k_10 (t_ic_ge 146 53 rfl rfl (by first | exact hI_R | exact band_R | exact bor_R | exact bshr_R | exact lcm_R | omega) (by first | exact hI_R | exact band_R | exact bor_R | exact bshr_R | exact lcm_R | omega) (fun hc => ?_) (fun hc => ?_)))) <;> (first | (exfalso; omega) | skip))
                          | (show Rch _ _ _ _ _ 53 _ _ _; refine Rch.blk' (Rn_mono mt _) bl_X4_groupsOf_53 (i_iconst k_0 (i_istore7 trivial (t_none ?_))))
                          | (show Rch _ _ _ _ _ 56 _ _ _; refine Rch.blk' (Rn_mono mt _) bl_X4_groupsOf_56 (i_iload rfl (i_aload_n rfl (i_gfs rfl (i_iconst k_0 (i_iald (n := 46) rfl (by omega) (by omega) (by omega) (t_ic_ge 140 67 rfl rfl (by first | exact hI_R | exact band_R | exact bor_R | exact bshr_R | exact lcm_R | omega) (by first | exact hI_R | exact band_R | exact bor_R | exact bshr_R | exact lcm_R | omega) (fun hc => ?_) (fun hc => ?_))))))) <;> (first | (exfalso; omega) | skip))
                          | (show Rch _ _ _ _ _ 67 _ _ _; refine Rch.blk' (Rn_mono mt _) bl_X4_groupsOf_67 (i_iconst k_0 (i_istore8 trivial (t_none ?_))))
                          | (show Rch _ _ _ _ _ 81 _ _ _; refine Rch.blk' (Rn_mono mt _) bl_X4_groupsOf_81 (i_iload rfl (i_iload rfl (t_cs2 (Rn_mono mt _) 88 rfl (Nat.le_of_ble_eq_true rfl) ?_))))
                          | (show Rch _ _ _ _ _ 88 _ _ _; refine Rch.blk' (Rn_mono mt _) bl_X4_groupsOf_88 (t_if_eq 128 91 rfl rfl (by first | exact hI_R | exact band_R | exact bor_R | exact bshr_R | exact lcm_R | omega) (fun hc => ?_) (fun hc => ?_)) <;> (first | (exfalso; omega) | skip))
                          | (show Rch _ _ _ _ _ 91 _ _ _; refine Rch.blk' (Rn_mono mt _) bl_X4_groupsOf_91 (i_aload_n rfl (i_gfs rfl (i_iload rfl (i_iload rfl (t_cs3 (Rn_mono mt _) 102 rfl (Nat.le_of_ble_eq_true rfl) ?_))))))
                          | (show Rch _ _ _ _ _ 102 _ _ _; refine Rch.blk' (Rn_mono mt _) bl_X4_groupsOf_102 (t_if_ne 119 105 rfl rfl (by first | exact hI_R | exact band_R | exact bor_R | exact bshr_R | exact lcm_R | omega) (fun hc => ?_) (fun hc => ?_)) <;> (first | (exfalso; omega) | skip))
                          | (show Rch _ _ _ _ _ 105 _ _ _; refine Rch.blk' (Rn_mono mt _) bl_X4_groupsOf_105 (i_aload_n rfl (i_gfs rfl (i_iload rfl (i_iload rfl (t_cs3 (Rn_mono mt _) 116 rfl (Nat.le_of_ble_eq_true rfl) ?_))))))
                          | (show Rch _ _ _ _ _ 116 _ _ _; refine Rch.blk' (Rn_mono mt _) bl_X4_groupsOf_116 (t_if_eq 128 119 rfl rfl (by first | exact hI_R | exact band_R | exact bor_R | exact bshr_R | exact lcm_R | omega) (fun hc => ?_) (fun hc => ?_)) <;> (first | (exfalso; omega) | skip))
                          | (show Rch _ _ _ _ _ 119 _ _ _; refine Rch.blk' (Rn_mono mt _) bl_X4_groupsOf_119 (i_iload rfl (i_iconst k_1 (i_iload rfl (i_ishl (i_ior (i_istore5 trivial (t_none ?_))))))))
                          | (show Rch _ _ _ _ _ 128 _ _ _; refine Rch.blk' (Rn_mono mt _) bl_X4_groupsOf_128 (i_iinc8 trivial k_1 (t_goto 70 rfl ?_)))
                          | (show Rch _ _ _ _ _ 134 _ _ _; refine Rch.blk' (Rn_mono mt _) bl_X4_groupsOf_134 (i_iinc7 trivial k_1 (t_goto 56 rfl ?_)))
                          | (show Rch _ _ _ _ _ 140 _ _ _; refine Rch.blk' (Rn_mono mt _) bl_X4_groupsOf_140 (i_iinc6 trivial k_1 (t_goto 46 rfl ?_)))
                          | (show Rch _ _ _ _ _ 146 _ _ _; refine Rch.blk' (Rn_mono mt _) bl_X4_groupsOf_146 (i_iload_n rfl (i_iload rfl (i_iconst k_m1 (i_ixor (i_iand (i_istore2 trivial (i_iinc3 trivial k_1 (t_none ?_)))))))))
                          | (show Rch _ _ _ _ _ 156 _ _ _; refine Rch.blk' (Rn_mono mt _) bl_X4_groupsOf_156 (i_iinc4 trivial k_1 (t_goto 14 rfl ?_)))
                          | (show Rch _ _ _ _ _ 162 _ _ _; refine Rch.blk' (Rn_mono mt _) bl_X4_groupsOf_162 (i_iload_n rfl (t_iret ?_))))
                      · skip
                        refine Rch.blk' (Rn_mono mt _) bl_X4_groupsOf_102 (t_if_ne 119 105 rfl rfl (by first | exact hI_R | exact band_R | exact bor_R | exact bshr_R | exact lcm_R | omega) (fun hc => ?_) (fun hc => ?_)) <;> (first | (exfalso; omega) | skip)
                        refine Rch.blk' (Rn_mono mt _) bl_X4_groupsOf_105 (i_aload_n rfl (i_gfs rfl (i_iload rfl (i_iload rfl (t_cs3 (Rn_mono mt _) 116 rfl (Nat.le_of_ble_eq_true rfl) ?_)))))
                        refine c_X4_doesHear hG hO (Or.inl rfl) y0 y1 a0 a1 (fun c' => ?_) (fun c' => ?_)
                        · have kA := kA (by
                            rcases c' with c' | ⟨c1, c2, c3, c4⟩
                            · exact Or.inr c'.symm
                            · exact Or.inl ⟨hCa, ⟨y0, y1, c2.trans hCa.2.2.1, c3⟩, Or.inr ⟨c2, c3, c4⟩⟩)
                          repeat' (first
                            | exact kA
                            | (show Rn _ _ 134 _ _ _; refine c_X4_ofSide (by assumption) (by assumption) (by first | omega | exact hI_R) ?_)
                            | (show Rn _ _ 115 _ _ _; refine c_X4_has (by omega) (by omega) (fun _ => ?_) (fun _ => ?_))
                            | (show Rn _ _ 131 _ _ _; refine c_X4_doesHear (by assumption) (by assumption) (by omega) (by omega) (by omega) (by omega) (by omega) (fun _ => ?_) (fun _ => ?_))
                            | (show Rch _ _ _ _ _ 0 _ _ _; refine Rch.blk' (Rn_mono mt _) bl_X4_groupsOf_0 (i_aload_n rfl (i_gfs rfl (i_iload_n rfl (t_cs2 (Rn_mono mt _) 8 rfl (Nat.le_of_ble_eq_true rfl) ?_)))))
                            | (show Rch _ _ _ _ _ 8 _ _ _; refine Rch.blk' (Rn_mono mt _) bl_X4_groupsOf_8 (i_istore2 trivial (i_iconst k_0 (i_istore3 trivial (i_iconst k_0 (i_istore4 trivial (t_none ?_)))))))
                            | (show Rch _ _ _ _ _ 14 _ _ _; refine Rch.blk' (Rn_mono mt _) bl_X4_groupsOf_14 (i_iload rfl (i_aload_n rfl (i_gfs rfl (i_iconst k_0 (i_iald (n := 46) rfl (by omega) (by omega) (by omega) (t_ic_ge 162 25 rfl rfl (by first | exact hI_R | exact band_R | exact bor_R | exact bshr_R | exact lcm_R | omega) (by first | exact hI_R | exact band_R | exact bor_R | exact bshr_R | exact lcm_R | omega) (fun hc => ?_) (fun hc => ?_))))))) <;> (first | (exfalso; omega) | skip))
                            | (show Rch _ _ _ _ _ 25 _ _ _; refine Rch.blk' (Rn_mono mt _) bl_X4_groupsOf_25 (i_iload_n rfl (i_iload rfl (t_cs2 (Rn_mono mt _) 31 rfl (Nat.le_of_ble_eq_true rfl) ?_))))
                            | (show Rch _ _ _ _ _ 31 _ _ _; refine Rch.blk' (Rn_mono mt _) bl_X4_groupsOf_31 (t_if_ne 37 34 rfl rfl (by first | exact hI_R | exact band_R | exact bor_R | exact bshr_R | exact lcm_R | omega) (fun hc => ?_) (fun hc => ?_)) <;> (first | (exfalso; omega) | skip))
                            | (show Rch _ _ _ _ _ 34 _ _ _; refine Rch.blk' (Rn_mono mt _) bl_X4_groupsOf_34 (t_goto 156 rfl ?_))
                            | (show Rch _ _ _ _ _ 37 _ _ _; refine Rch.blk' (Rn_mono mt _) bl_X4_groupsOf_37 (i_iconst k_1 (i_iload rfl (i_ishl (i_istore5 trivial (i_iconst k_0 (i_istore6 trivial (t_none ?_))))))))
                            | (show Rch _ _ _ _ _ 46 _ _ _; refine Rch.blk' (Rn_mono mt _) bl_X4_groupsOf_46 (i_iload rfl (i_bipush k_10 (t_ic_ge 146 53 rfl rfl (by first | exact hI_R | exact band_R | exact bor_R | exact bshr_R | exact lcm_R | omega) (by first | exact hI_R | exact band_R | exact bor_R | exact bshr_R | exact lcm_R | omega) (fun hc => ?_) (fun hc => ?_)))) <;> (first | (exfalso; omega) | skip))
                            | (show Rch _ _ _ _ _ 53 _ _ _; refine Rch.blk' (Rn_mono mt _) bl_X4_groupsOf_53 (i_iconst k_0 (i_istore7 trivial (t_none ?_))))
                            | (show Rch _ _ _ _ _ 56 _ _ _; refine Rch.blk' (Rn_mono mt _) bl_X4_groupsOf_56 (i_iload rfl (i_aload_n rfl (i_gfs rfl (i_iconst k_0 (i_iald (n := 46) rfl (by omega) (by omega) (by omega) (t_ic_ge 140 67 rfl rfl (by first | exact hI_R | exact band_R | exact bor_R | exact bshr_R | exact lcm_R | omega) (by first | exact hI_R | exact band_R | exact bor_R | exact bshr_R | exact lcm_R | omega) (fun hc => ?_) (fun hc => ?_))))))) <;> (first | (exfalso; omega) | skip))
                            | (show Rch _ _ _ _ _ 67 _ _ _; refine Rch.blk' (Rn_mono mt _) bl_X4_groupsOf_67 (i_iconst k_0 (i_istore8 trivial (t_none ?_))))
                            | (show Rch _ _ _ _ _ 81 _ _ _; refine Rch.blk' (Rn_mono mt _) bl_X4_groupsOf_81 (i_iload rfl (i_iload rfl (t_cs2 (Rn_mono mt _) 88 rfl (Nat.le_of_ble_eq_true rfl) ?_))))
                            | (show Rch _ _ _ _ _ 88 _ _ _; refine Rch.blk' (Rn_mono mt _) bl_X4_groupsOf_88 (t_if_eq 128 91 rfl rfl (by first | exact hI_R | exact band_R | exact bor_R | exact bshr_R | exact lcm_R | omega) (fun hc => ?_) (fun hc => ?_)) <;> (first | (exfalso; omega) | skip))
                            | (show Rch _ _ _ _ _ 91 _ _ _; refine Rch.blk' (Rn_mono mt _) bl_X4_groupsOf_91 (i_aload_n rfl (i_gfs rfl (i_iload rfl (i_iload rfl (t_cs3 (Rn_mono mt _) 102 rfl (Nat.le_of_ble_eq_true rfl) ?_))))))
                            | (show Rch _ _ _ _ _ 102 _ _ _; refine Rch.blk' (Rn_mono mt _) bl_X4_groupsOf_102 (t_if_ne 119 105 rfl rfl (by first | exact hI_R | exact band_R | exact bor_R | exact bshr_R | exact lcm_R | omega) (fun hc => ?_) (fun hc => ?_)) <;> (first | (exfalso; omega) | skip))
                            | (show Rch _ _ _ _ _ 105 _ _ _; refine Rch.blk' (Rn_mono mt _) bl_X4_groupsOf_105 (i_aload_n rfl (i_gfs rfl (i_iload rfl (i_iload rfl (t_cs3 (Rn_mono mt _) 116 rfl (Nat.le_of_ble_eq_true rfl) ?_))))))
                            | (show Rch _ _ _ _ _ 116 _ _ _; refine Rch.blk' (Rn_mono mt _) bl_X4_groupsOf_116 (t_if_eq 128 119 rfl rfl (by first | exact hI_R | exact band_R | exact bor_R | exact bshr_R | exact lcm_R | omega) (fun hc => ?_) (fun hc => ?_)) <;> (first | (exfalso; omega) | skip))
                            | (show Rch _ _ _ _ _ 119 _ _ _; refine Rch.blk' (Rn_mono mt _) bl_X4_groupsOf_119 (i_iload rfl (i_iconst k_1 (i_iload rfl (i_ishl (i_ior (i_istore5 trivial (t_none ?_))))))))
                            | (show Rch _ _ _ _ _ 128 _ _ _; refine Rch.blk' (Rn_mono mt _) bl_X4_groupsOf_128 (i_iinc8 trivial k_1 (t_goto 70 rfl ?_)))
                            | (show Rch _ _ _ _ _ 134 _ _ _; refine Rch.blk' (Rn_mono mt _) bl_X4_groupsOf_134 (i_iinc7 trivial k_1 (t_goto 56 rfl ?_)))
                            | (show Rch _ _ _ _ _ 140 _ _ _; refine Rch.blk' (Rn_mono mt _) bl_X4_groupsOf_140 (i_iinc6 trivial k_1 (t_goto 46 rfl ?_)))
                            | (show Rch _ _ _ _ _ 146 _ _ _; refine Rch.blk' (Rn_mono mt _) bl_X4_groupsOf_146 (i_iload_n rfl (i_iload rfl (i_iconst k_m1 (i_ixor (i_iand (i_istore2 trivial (i_iinc3 trivial k_1 (t_none ?_)))))))))
                            | (show Rch _ _ _ _ _ 156 _ _ _; refine Rch.blk' (Rn_mono mt _) bl_X4_groupsOf_156 (i_iinc4 trivial k_1 (t_goto 14 rfl ?_)))
                            | (show Rch _ _ _ _ _ 162 _ _ _; refine Rch.blk' (Rn_mono mt _) bl_X4_groupsOf_162 (i_iload_n rfl (t_iret ?_))))
                        · have kB := kB (fun z => by
                            rcases z.2.2 with w | w
                            · exact c (Or.inr ⟨z.2.1.2.2.2, w.1, w.2.1, w.2.2⟩)
                            · exact c' (Or.inr ⟨z.1.2.2.2, w.1, w.2.1, w.2.2⟩))
                          repeat' (first
                            | exact kB
                            | (show Rn _ _ 134 _ _ _; refine c_X4_ofSide (by assumption) (by assumption) (by first | omega | exact hI_R) ?_)
                            | (show Rn _ _ 115 _ _ _; refine c_X4_has (by omega) (by omega) (fun _ => ?_) (fun _ => ?_))
                            | (show Rn _ _ 131 _ _ _; refine c_X4_doesHear (by assumption) (by assumption) (by omega) (by omega) (by omega) (by omega) (by omega) (fun _ => ?_) (fun _ => ?_))
                            | (show Rch _ _ _ _ _ 0 _ _ _; refine Rch.blk' (Rn_mono mt _) bl_X4_groupsOf_0 (i_aload_n rfl (i_gfs rfl (i_iload_n rfl (t_cs2 (Rn_mono mt _) 8 rfl (Nat.le_of_ble_eq_true rfl) ?_)))))
                            | (show Rch _ _ _ _ _ 8 _ _ _; refine Rch.blk' (Rn_mono mt _) bl_X4_groupsOf_8 (i_istore2 trivial (i_iconst k_0 (i_istore3 trivial (i_iconst k_0 (i_istore4 trivial (t_none ?_)))))))
                            | (show Rch _ _ _ _ _ 14 _ _ _; refine Rch.blk' (Rn_mono mt _) bl_X4_groupsOf_14 (i_iload rfl (i_aload_n rfl (i_gfs rfl (i_iconst k_0 (i_iald (n := 46) rfl (by omega) (by omega) (by omega) (t_ic_ge 162 25 rfl rfl (by first | exact hI_R | exact band_R | exact bor_R | exact bshr_R | exact lcm_R | omega) (by first | exact hI_R | exact band_R | exact bor_R | exact bshr_R | exact lcm_R | omega) (fun hc => ?_) (fun hc => ?_))))))) <;> (first | (exfalso; omega) | skip))
                            | (show Rch _ _ _ _ _ 25 _ _ _; refine Rch.blk' (Rn_mono mt _) bl_X4_groupsOf_25 (i_iload_n rfl (i_iload rfl (t_cs2 (Rn_mono mt _) 31 rfl (Nat.le_of_ble_eq_true rfl) ?_))))
                            | (show Rch _ _ _ _ _ 31 _ _ _; refine Rch.blk' (Rn_mono mt _) bl_X4_groupsOf_31 (t_if_ne 37 34 rfl rfl (by first | exact hI_R | exact band_R | exact bor_R | exact bshr_R | exact lcm_R | omega) (fun hc => ?_) (fun hc => ?_)) <;> (first | (exfalso; omega) | skip))
                            | (show Rch _ _ _ _ _ 34 _ _ _; refine Rch.blk' (Rn_mono mt _) bl_X4_groupsOf_34 (t_goto 156 rfl ?_))
                            | (show Rch _ _ _ _ _ 37 _ _ _; refine Rch.blk' (Rn_mono mt _) bl_X4_groupsOf_37 (i_iconst k_1 (i_iload rfl (i_ishl (i_istore5 trivial (i_iconst k_0 (i_istore6 trivial (t_none ?_))))))))
                            | (show Rch _ _ _ _ _ 46 _ _ _; refine Rch.blk' (Rn_mono mt _) bl_X4_groupsOf_46 (i_iload rfl (i_bipush k_10 (t_ic_ge 146 53 rfl rfl (by first | exact hI_R | exact band_R | exact bor_R | exact bshr_R | exact lcm_R | omega) (by first | exact hI_R | exact band_R | exact bor_R | exact bshr_R | exact lcm_R | omega) (fun hc => ?_) (fun hc => ?_)))) <;> (first | (exfalso; omega) | skip))
                            | (show Rch _ _ _ _ _ 53 _ _ _; refine Rch.blk' (Rn_mono mt _) bl_X4_groupsOf_53 (i_iconst k_0 (i_istore7 trivial (t_none ?_))))
                            | (show Rch _ _ _ _ _ 56 _ _ _; refine Rch.blk' (Rn_mono mt _) bl_X4_groupsOf_56 (i_iload rfl (i_aload_n rfl (i_gfs rfl (i_iconst k_0 (i_iald (n := 46) rfl (by omega) (by omega) (by omega) (t_ic_ge 140 67 rfl rfl (by first | exact hI_R | exact band_R | exact bor_R | exact bshr_R | exact lcm_R | omega) (by first | exact hI_R | exact band_R | exact bor_R | exact bshr_R | exact lcm_R | omega) (fun hc => ?_) (fun hc => ?_))))))) <;> (first | (exfalso; omega) | skip))
                            | (show Rch _ _ _ _ _ 67 _ _ _; refine Rch.blk' (Rn_mono mt _) bl_X4_groupsOf_67 (i_iconst k_0 (i_istore8 trivial (t_none ?_))))
                            | (show Rch _ _ _ _ _ 81 _ _ _; refine Rch.blk' (Rn_mono mt _) bl_X4_groupsOf_81 (i_iload rfl (i_iload rfl (t_cs2 (Rn_mono mt _) 88 rfl (Nat.le_of_ble_eq_true rfl) ?_))))
                            | (show Rch _ _ _ _ _ 88 _ _ _; refine Rch.blk' (Rn_mono mt _) bl_X4_groupsOf_88 (t_if_eq 128 91 rfl rfl (by first | exact hI_R | exact band_R | exact bor_R | exact bshr_R | exact lcm_R | omega) (fun hc => ?_) (fun hc => ?_)) <;> (first | (exfalso; omega) | skip))
                            | (show Rch _ _ _ _ _ 91 _ _ _; refine Rch.blk' (Rn_mono mt _) bl_X4_groupsOf_91 (i_aload_n rfl (i_gfs rfl (i_iload rfl (i_iload rfl (t_cs3 (Rn_mono mt _) 102 rfl (Nat.le_of_ble_eq_true rfl) ?_))))))
                            | (show Rch _ _ _ _ _ 102 _ _ _; refine Rch.blk' (Rn_mono mt _) bl_X4_groupsOf_102 (t_if_ne 119 105 rfl rfl (by first | exact hI_R | exact band_R | exact bor_R | exact bshr_R | exact lcm_R | omega) (fun hc => ?_) (fun hc => ?_)) <;> (first | (exfalso; omega) | skip))
                            | (show Rch _ _ _ _ _ 105 _ _ _; refine Rch.blk' (Rn_mono mt _) bl_X4_groupsOf_105 (i_aload_n rfl (i_gfs rfl (i_iload rfl (i_iload rfl (t_cs3 (Rn_mono mt _) 116 rfl (Nat.le_of_ble_eq_true rfl) ?_))))))
                            | (show Rch _ _ _ _ _ 116 _ _ _; refine Rch.blk' (Rn_mono mt _) bl_X4_groupsOf_116 (t_if_eq 128 119 rfl rfl (by first | exact hI_R | exact band_R | exact bor_R | exact bshr_R | exact lcm_R | omega) (fun hc => ?_) (fun hc => ?_)) <;> (first | (exfalso; omega) | skip))
                            | (show Rch _ _ _ _ _ 119 _ _ _; refine Rch.blk' (Rn_mono mt _) bl_X4_groupsOf_119 (i_iload rfl (i_iconst k_1 (i_iload rfl (i_ishl (i_ior (i_istore5 trivial (t_none ?_))))))))
                            | (show Rch _ _ _ _ _ 128 _ _ _; refine Rch.blk' (Rn_mono mt _) bl_X4_groupsOf_128 (i_iinc8 trivial k_1 (t_goto 70 rfl ?_)))
                            | (show Rch _ _ _ _ _ 134 _ _ _; refine Rch.blk' (Rn_mono mt _) bl_X4_groupsOf_134 (i_iinc7 trivial k_1 (t_goto 56 rfl ?_)))
                            | (show Rch _ _ _ _ _ 140 _ _ _; refine Rch.blk' (Rn_mono mt _) bl_X4_groupsOf_140 (i_iinc6 trivial k_1 (t_goto 46 rfl ?_)))
                            | (show Rch _ _ _ _ _ 146 _ _ _; refine Rch.blk' (Rn_mono mt _) bl_X4_groupsOf_146 (i_iload_n rfl (i_iload rfl (i_iconst k_m1 (i_ixor (i_iand (i_istore2 trivial (i_iinc3 trivial k_1 (t_none ?_)))))))))
                            | (show Rch _ _ _ _ _ 156 _ _ _; refine Rch.blk' (Rn_mono mt _) bl_X4_groupsOf_156 (i_iinc4 trivial k_1 (t_goto 14 rfl ?_)))
                            | (show Rch _ _ _ _ _ 162 _ _ _; refine Rch.blk' (Rn_mono mt _) bl_X4_groupsOf_162 (i_iload_n rfl (t_iret ?_))))
                    · have kB := jb P h1 h2 h3 h4 (fun z c _ _ => absurd (h1 a c) hPa)
                      clear jb ja ir ih
                      refine Rch.blk' (Rn_mono mt _) bl_X4_groupsOf_70 (i_iload rfl (i_aload_n rfl (i_gfs rfl (i_iconst k_0 (i_iald (n := 46) rfl (by first | omega | (simp (disch := omega) only [e_n]; omega)) (by first | omega | (simp (disch := omega) only [e_n]; omega)) (by first | omega | (simp (disch := omega) only [e_n]; omega)) (t_ic_ge 134 81 rfl rfl (by first | exact hI_R | exact band_R | exact bor_R | exact bshr_R | exact lcm_R | omega | (simp (disch := omega) only [e_n]; omega)) (by first | exact hI_R | exact band_R | exact bor_R | exact bshr_R | exact lcm_R | omega | (simp (disch := omega) only [e_n]; omega)) (fun hc => ?_) (fun hc => ?_))))))) <;> (try (simp (disch := omega) only [e_n] at hc ⊢)) <;> (first | (exfalso; omega) | skip)
                      refine Rch.blk' (Rn_mono mt _) bl_X4_groupsOf_81 (i_iload rfl (i_iload rfl (t_cs2 (Rn_mono mt _) 88 rfl (Nat.le_of_ble_eq_true rfl) ?_)))
                      refine c_X4_has a0 (by omega) (fun z => absurd z hPa) (fun _ => ?_)
                      repeat' (first
                        | exact kB
                        | (show Rn _ _ 134 _ _ _; refine c_X4_ofSide (by assumption) (by assumption) (by first | omega | exact hI_R) ?_)
                        | (show Rn _ _ 115 _ _ _; refine c_X4_has (by omega) (by omega) (fun _ => ?_) (fun _ => ?_))
                        | (show Rn _ _ 131 _ _ _; refine c_X4_doesHear (by assumption) (by assumption) (by omega) (by omega) (by omega) (by omega) (by omega) (fun _ => ?_) (fun _ => ?_))
                        | (show Rch _ _ _ _ _ 0 _ _ _; refine Rch.blk' (Rn_mono mt _) bl_X4_groupsOf_0 (i_aload_n rfl (i_gfs rfl (i_iload_n rfl (t_cs2 (Rn_mono mt _) 8 rfl (Nat.le_of_ble_eq_true rfl) ?_)))))
                        | (show Rch _ _ _ _ _ 8 _ _ _; refine Rch.blk' (Rn_mono mt _) bl_X4_groupsOf_8 (i_istore2 trivial (i_iconst k_0 (i_istore3 trivial (i_iconst k_0 (i_istore4 trivial (t_none ?_)))))))
                        | (show Rch _ _ _ _ _ 14 _ _ _; refine Rch.blk' (Rn_mono mt _) bl_X4_groupsOf_14 (i_iload rfl (i_aload_n rfl (i_gfs rfl (i_iconst k_0 (i_iald (n := 46) rfl (by omega) (by omega) (by omega) (t_ic_ge 162 25 rfl rfl (by first | exact hI_R | exact band_R | exact bor_R | exact bshr_R | exact lcm_R | omega) (by first | exact hI_R | exact band_R | exact bor_R | exact bshr_R | exact lcm_R | omega) (fun hc => ?_) (fun hc => ?_))))))) <;> (first | (exfalso; omega) | skip))
                        | (show Rch _ _ _ _ _ 25 _ _ _; refine Rch.blk' (Rn_mono mt _) bl_X4_groupsOf_25 (i_iload_n rfl (i_iload rfl (t_cs2 (Rn_mono mt _) 31 rfl (Nat.le_of_ble_eq_true rfl) ?_))))
                        | (show Rch _ _ _ _ _ 31 _ _ _; refine Rch.blk' (Rn_mono mt _) bl_X4_groupsOf_31 (t_if_ne 37 34 rfl rfl (by first | exact hI_R | exact band_R | exact bor_R | exact bshr_R | exact lcm_R | omega) (fun hc => ?_) (fun hc => ?_)) <;> (first | (exfalso; omega) | skip))
                        | (show Rch _ _ _ _ _ 34 _ _ _; refine Rch.blk' (Rn_mono mt _) bl_X4_groupsOf_34 (t_goto 156 rfl ?_))
                        | (show Rch _ _ _ _ _ 37 _ _ _; refine Rch.blk' (Rn_mono mt _) bl_X4_groupsOf_37 (i_iconst k_1 (i_iload rfl (i_ishl (i_istore5 trivial (i_iconst k_0 (i_istore6 trivial (t_none ?_))))))))
                        | (show Rch _ _ _ _ _ 46 _ _ _; refine Rch.blk' (Rn_mono mt _) bl_X4_groupsOf_46 (i_iload rfl (i_bipush k_10 (t_ic_ge 146 53 rfl rfl (by first | exact hI_R | exact band_R | exact bor_R | exact bshr_R | exact lcm_R | omega) (by first | exact hI_R | exact band_R | exact bor_R | exact bshr_R | exact lcm_R | omega) (fun hc => ?_) (fun hc => ?_)))) <;> (first | (exfalso; omega) | skip))
                        | (show Rch _ _ _ _ _ 53 _ _ _; refine Rch.blk' (Rn_mono mt _) bl_X4_groupsOf_53 (i_iconst k_0 (i_istore7 trivial (t_none ?_))))
                        | (show Rch _ _ _ _ _ 56 _ _ _; refine Rch.blk' (Rn_mono mt _) bl_X4_groupsOf_56 (i_iload rfl (i_aload_n rfl (i_gfs rfl (i_iconst k_0 (i_iald (n := 46) rfl (by omega) (by omega) (by omega) (t_ic_ge 140 67 rfl rfl (by first | exact hI_R | exact band_R | exact bor_R | exact bshr_R | exact lcm_R | omega) (by first | exact hI_R | exact band_R | exact bor_R | exact bshr_R | exact lcm_R | omega) (fun hc => ?_) (fun hc => ?_))))))) <;> (first | (exfalso; omega) | skip))
                        | (show Rch _ _ _ _ _ 67 _ _ _; refine Rch.blk' (Rn_mono mt _) bl_X4_groupsOf_67 (i_iconst k_0 (i_istore8 trivial (t_none ?_))))
                        | (show Rch _ _ _ _ _ 81 _ _ _; refine Rch.blk' (Rn_mono mt _) bl_X4_groupsOf_81 (i_iload rfl (i_iload rfl (t_cs2 (Rn_mono mt _) 88 rfl (Nat.le_of_ble_eq_true rfl) ?_))))
                        | (show Rch _ _ _ _ _ 88 _ _ _; refine Rch.blk' (Rn_mono mt _) bl_X4_groupsOf_88 (t_if_eq 128 91 rfl rfl (by first | exact hI_R | exact band_R | exact bor_R | exact bshr_R | exact lcm_R | omega) (fun hc => ?_) (fun hc => ?_)) <;> (first | (exfalso; omega) | skip))
                        | (show Rch _ _ _ _ _ 91 _ _ _; refine Rch.blk' (Rn_mono mt _) bl_X4_groupsOf_91 (i_aload_n rfl (i_gfs rfl (i_iload rfl (i_iload rfl (t_cs3 (Rn_mono mt _) 102 rfl (Nat.le_of_ble_eq_true rfl) ?_))))))
                        | (show Rch _ _ _ _ _ 102 _ _ _; refine Rch.blk' (Rn_mono mt _) bl_X4_groupsOf_102 (t_if_ne 119 105 rfl rfl (by first | exact hI_R | exact band_R | exact bor_R | exact bshr_R | exact lcm_R | omega) (fun hc => ?_) (fun hc => ?_)) <;> (first | (exfalso; omega) | skip))
                        | (show Rch _ _ _ _ _ 105 _ _ _; refine Rch.blk' (Rn_mono mt _) bl_X4_groupsOf_105 (i_aload_n rfl (i_gfs rfl (i_iload rfl (i_iload rfl (t_cs3 (Rn_mono mt _) 116 rfl (Nat.le_of_ble_eq_true rfl) ?_))))))
                        | (show Rch _ _ _ _ _ 116 _ _ _; refine Rch.blk' (Rn_mono mt _) bl_X4_groupsOf_116 (t_if_eq 128 119 rfl rfl (by first | exact hI_R | exact band_R | exact bor_R | exact bshr_R | exact lcm_R | omega) (fun hc => ?_) (fun hc => ?_)) <;> (first | (exfalso; omega) | skip))
                        | (show Rch _ _ _ _ _ 119 _ _ _; refine Rch.blk' (Rn_mono mt _) bl_X4_groupsOf_119 (i_iload rfl (i_iconst k_1 (i_iload rfl (i_ishl (i_ior (i_istore5 trivial (t_none ?_))))))))
                        | (show Rch _ _ _ _ _ 128 _ _ _; refine Rch.blk' (Rn_mono mt _) bl_X4_groupsOf_128 (i_iinc8 trivial k_1 (t_goto 70 rfl ?_)))
                        | (show Rch _ _ _ _ _ 134 _ _ _; refine Rch.blk' (Rn_mono mt _) bl_X4_groupsOf_134 (i_iinc7 trivial k_1 (t_goto 56 rfl ?_)))
                        | (show Rch _ _ _ _ _ 140 _ _ _; refine Rch.blk' (Rn_mono mt _) bl_X4_groupsOf_140 (i_iinc6 trivial k_1 (t_goto 46 rfl ?_)))
                        | (show Rch _ _ _ _ _ 146 _ _ _; refine Rch.blk' (Rn_mono mt _) bl_X4_groupsOf_146 (i_iload_n rfl (i_iload rfl (i_iconst k_m1 (i_ixor (i_iand (i_istore2 trivial (i_iinc3 trivial k_1 (t_none ?_)))))))))
                        | (show Rch _ _ _ _ _ 156 _ _ _; refine Rch.blk' (Rn_mono mt _) bl_X4_groupsOf_156 (i_iinc4 trivial k_1 (t_goto 14 rfl ?_)))
                        | (show Rch _ _ _ _ _ 162 _ _ _; refine Rch.blk' (Rn_mono mt _) bl_X4_groupsOf_162 (i_iload_n rfl (t_iret ?_))))
                  · obtain rfl : y = nn G := by omega
                    have kk := ja P (some (ai (I (nn G)))) h1 h2 h3 (fun x z a2 a3 a4 => by
                      by_cases e : x = a
                      · subst e; exact h5 z a2 a3 a3.2.1.2.1
                      · exact h4 x z a2 a3 (by omega))
                    clear jb ja ir ih
                    refine Rch.blk' (Rn_mono mt _) bl_X4_groupsOf_70 (i_iload rfl (i_aload_n rfl (i_gfs rfl (i_iconst k_0 (i_iald (n := 46) rfl (by first | omega | (simp (disch := omega) only [e_n]; omega)) (by first | omega | (simp (disch := omega) only [e_n]; omega)) (by first | omega | (simp (disch := omega) only [e_n]; omega)) (t_ic_ge 134 81 rfl rfl (by first | exact hI_R | exact band_R | exact bor_R | exact bshr_R | exact lcm_R | omega | (simp (disch := omega) only [e_n]; omega)) (by first | exact hI_R | exact band_R | exact bor_R | exact bshr_R | exact lcm_R | omega | (simp (disch := omega) only [e_n]; omega)) (fun hc => ?_) (fun hc => ?_))))))) <;> (try (simp (disch := omega) only [e_n] at hc ⊢)) <;> (first | (exfalso; omega) | skip)
                    repeat' (first
                      | exact kk
                      | (show Rn _ _ 134 _ _ _; refine c_X4_ofSide (by assumption) (by assumption) (by first | omega | exact hI_R) ?_)
                      | (show Rn _ _ 115 _ _ _; refine c_X4_has (by omega) (by omega) (fun _ => ?_) (fun _ => ?_))
                      | (show Rn _ _ 131 _ _ _; refine c_X4_doesHear (by assumption) (by assumption) (by omega) (by omega) (by omega) (by omega) (by omega) (fun _ => ?_) (fun _ => ?_))
                      | (show Rch _ _ _ _ _ 0 _ _ _; refine Rch.blk' (Rn_mono mt _) bl_X4_groupsOf_0 (i_aload_n rfl (i_gfs rfl (i_iload_n rfl (t_cs2 (Rn_mono mt _) 8 rfl (Nat.le_of_ble_eq_true rfl) ?_)))))
                      | (show Rch _ _ _ _ _ 8 _ _ _; refine Rch.blk' (Rn_mono mt _) bl_X4_groupsOf_8 (i_istore2 trivial (i_iconst k_0 (i_istore3 trivial (i_iconst k_0 (i_istore4 trivial (t_none ?_)))))))
                      | (show Rch _ _ _ _ _ 14 _ _ _; refine Rch.blk' (Rn_mono mt _) bl_X4_groupsOf_14 (i_iload rfl (i_aload_n rfl (i_gfs rfl (i_iconst k_0 (i_iald (n := 46) rfl (by omega) (by omega) (by omega) (t_ic_ge 162 25 rfl rfl (by first | exact hI_R | exact band_R | exact bor_R | exact bshr_R | exact lcm_R | omega) (by first | exact hI_R | exact band_R | exact bor_R | exact bshr_R | exact lcm_R | omega) (fun hc => ?_) (fun hc => ?_))))))) <;> (first | (exfalso; omega) | skip))
                      | (show Rch _ _ _ _ _ 25 _ _ _; refine Rch.blk' (Rn_mono mt _) bl_X4_groupsOf_25 (i_iload_n rfl (i_iload rfl (t_cs2 (Rn_mono mt _) 31 rfl (Nat.le_of_ble_eq_true rfl) ?_))))
                      | (show Rch _ _ _ _ _ 31 _ _ _; refine Rch.blk' (Rn_mono mt _) bl_X4_groupsOf_31 (t_if_ne 37 34 rfl rfl (by first | exact hI_R | exact band_R | exact bor_R | exact bshr_R | exact lcm_R | omega) (fun hc => ?_) (fun hc => ?_)) <;> (first | (exfalso; omega) | skip))
                      | (show Rch _ _ _ _ _ 34 _ _ _; refine Rch.blk' (Rn_mono mt _) bl_X4_groupsOf_34 (t_goto 156 rfl ?_))
                      | (show Rch _ _ _ _ _ 37 _ _ _; refine Rch.blk' (Rn_mono mt _) bl_X4_groupsOf_37 (i_iconst k_1 (i_iload rfl (i_ishl (i_istore5 trivial (i_iconst k_0 (i_istore6 trivial (t_none ?_))))))))
                      | (show Rch _ _ _ _ _ 46 _ _ _; refine Rch.blk' (Rn_mono mt _) bl_X4_groupsOf_46 (i_iload rfl (i_bipush k_10 (t_ic_ge 146 53 rfl rfl (by first | exact hI_R | exact band_R | exact bor_R | exact bshr_R | exact lcm_R | omega) (by first | exact hI_R | exact band_R | exact bor_R | exact bshr_R | exact lcm_R | omega) (fun hc => ?_) (fun hc => ?_)))) <;> (first | (exfalso; omega) | skip))
                      | (show Rch _ _ _ _ _ 53 _ _ _; refine Rch.blk' (Rn_mono mt _) bl_X4_groupsOf_53 (i_iconst k_0 (i_istore7 trivial (t_none ?_))))
                      | (show Rch _ _ _ _ _ 67 _ _ _; refine Rch.blk' (Rn_mono mt _) bl_X4_groupsOf_67 (i_iconst k_0 (i_istore8 trivial (t_none ?_))))
                      | (show Rch _ _ _ _ _ 81 _ _ _; refine Rch.blk' (Rn_mono mt _) bl_X4_groupsOf_81 (i_iload rfl (i_iload rfl (t_cs2 (Rn_mono mt _) 88 rfl (Nat.le_of_ble_eq_true rfl) ?_))))
                      | (show Rch _ _ _ _ _ 88 _ _ _; refine Rch.blk' (Rn_mono mt _) bl_X4_groupsOf_88 (t_if_eq 128 91 rfl rfl (by first | exact hI_R | exact band_R | exact bor_R | exact bshr_R | exact lcm_R | omega) (fun hc => ?_) (fun hc => ?_)) <;> (first | (exfalso; omega) | skip))
                      | (show Rch _ _ _ _ _ 91 _ _ _; refine Rch.blk' (Rn_mono mt _) bl_X4_groupsOf_91 (i_aload_n rfl (i_gfs rfl (i_iload rfl (i_iload rfl (t_cs3 (Rn_mono mt _) 102 rfl (Nat.le_of_ble_eq_true rfl) ?_))))))
                      | (show Rch _ _ _ _ _ 102 _ _ _; refine Rch.blk' (Rn_mono mt _) bl_X4_groupsOf_102 (t_if_ne 119 105 rfl rfl (by first | exact hI_R | exact band_R | exact bor_R | exact bshr_R | exact lcm_R | omega) (fun hc => ?_) (fun hc => ?_)) <;> (first | (exfalso; omega) | skip))
                      | (show Rch _ _ _ _ _ 105 _ _ _; refine Rch.blk' (Rn_mono mt _) bl_X4_groupsOf_105 (i_aload_n rfl (i_gfs rfl (i_iload rfl (i_iload rfl (t_cs3 (Rn_mono mt _) 116 rfl (Nat.le_of_ble_eq_true rfl) ?_))))))
                      | (show Rch _ _ _ _ _ 116 _ _ _; refine Rch.blk' (Rn_mono mt _) bl_X4_groupsOf_116 (t_if_eq 128 119 rfl rfl (by first | exact hI_R | exact band_R | exact bor_R | exact bshr_R | exact lcm_R | omega) (fun hc => ?_) (fun hc => ?_)) <;> (first | (exfalso; omega) | skip))
                      | (show Rch _ _ _ _ _ 119 _ _ _; refine Rch.blk' (Rn_mono mt _) bl_X4_groupsOf_119 (i_iload rfl (i_iconst k_1 (i_iload rfl (i_ishl (i_ior (i_istore5 trivial (t_none ?_))))))))
                      | (show Rch _ _ _ _ _ 128 _ _ _; refine Rch.blk' (Rn_mono mt _) bl_X4_groupsOf_128 (i_iinc8 trivial k_1 (t_goto 70 rfl ?_)))
                      | (show Rch _ _ _ _ _ 134 _ _ _; refine Rch.blk' (Rn_mono mt _) bl_X4_groupsOf_134 (i_iinc7 trivial k_1 (t_goto 56 rfl ?_)))
                      | (show Rch _ _ _ _ _ 140 _ _ _; refine Rch.blk' (Rn_mono mt _) bl_X4_groupsOf_140 (i_iinc6 trivial k_1 (t_goto 46 rfl ?_)))
                      | (show Rch _ _ _ _ _ 146 _ _ _; refine Rch.blk' (Rn_mono mt _) bl_X4_groupsOf_146 (i_iload_n rfl (i_iload rfl (i_iconst k_m1 (i_ixor (i_iand (i_istore2 trivial (i_iinc3 trivial k_1 (t_none ?_)))))))))
                      | (show Rch _ _ _ _ _ 156 _ _ _; refine Rch.blk' (Rn_mono mt _) bl_X4_groupsOf_156 (i_iinc4 trivial k_1 (t_goto 14 rfl ?_)))
                      | (show Rch _ _ _ _ _ 162 _ _ _; refine Rch.blk' (Rn_mono mt _) bl_X4_groupsOf_162 (i_iload_n rfl (t_iret ?_))))
                have l0 := lb 0 (by omega) (by omega) P0 f1 f2 f3 f4 (fun z _ c e => by have := c.2.1.1; omega)
                clear lb ja ir ih
                refine Rch.blk' (Rn_mono mt _) bl_X4_groupsOf_56 (i_iload rfl (i_aload_n rfl (i_gfs rfl (i_iconst k_0 (i_iald (n := 46) rfl (by first | omega | (simp (disch := omega) only [e_n]; omega)) (by first | omega | (simp (disch := omega) only [e_n]; omega)) (by first | omega | (simp (disch := omega) only [e_n]; omega)) (t_ic_ge 140 67 rfl rfl (by first | exact hI_R | exact band_R | exact bor_R | exact bshr_R | exact lcm_R | omega | (simp (disch := omega) only [e_n]; omega)) (by first | exact hI_R | exact band_R | exact bor_R | exact bshr_R | exact lcm_R | omega | (simp (disch := omega) only [e_n]; omega)) (fun hc => ?_) (fun hc => ?_))))))) <;> (try (simp (disch := omega) only [e_n] at hc ⊢)) <;> (first | (exfalso; omega) | skip)
                repeat' (first
                  | exact l0
                  | (show Rn _ _ 134 _ _ _; refine c_X4_ofSide (by assumption) (by assumption) (by first | omega | exact hI_R) ?_)
                  | (show Rn _ _ 115 _ _ _; refine c_X4_has (by omega) (by omega) (fun _ => ?_) (fun _ => ?_))
                  | (show Rn _ _ 131 _ _ _; refine c_X4_doesHear (by assumption) (by assumption) (by omega) (by omega) (by omega) (by omega) (by omega) (fun _ => ?_) (fun _ => ?_))
                  | (show Rch _ _ _ _ _ 0 _ _ _; refine Rch.blk' (Rn_mono mt _) bl_X4_groupsOf_0 (i_aload_n rfl (i_gfs rfl (i_iload_n rfl (t_cs2 (Rn_mono mt _) 8 rfl (Nat.le_of_ble_eq_true rfl) ?_)))))
                  | (show Rch _ _ _ _ _ 8 _ _ _; refine Rch.blk' (Rn_mono mt _) bl_X4_groupsOf_8 (i_istore2 trivial (i_iconst k_0 (i_istore3 trivial (i_iconst k_0 (i_istore4 trivial (t_none ?_)))))))
                  | (show Rch _ _ _ _ _ 14 _ _ _; refine Rch.blk' (Rn_mono mt _) bl_X4_groupsOf_14 (i_iload rfl (i_aload_n rfl (i_gfs rfl (i_iconst k_0 (i_iald (n := 46) rfl (by omega) (by omega) (by omega) (t_ic_ge 162 25 rfl rfl (by first | exact hI_R | exact band_R | exact bor_R | exact bshr_R | exact lcm_R | omega) (by first | exact hI_R | exact band_R | exact bor_R | exact bshr_R | exact lcm_R | omega) (fun hc => ?_) (fun hc => ?_))))))) <;> (first | (exfalso; omega) | skip))
                  | (show Rch _ _ _ _ _ 25 _ _ _; refine Rch.blk' (Rn_mono mt _) bl_X4_groupsOf_25 (i_iload_n rfl (i_iload rfl (t_cs2 (Rn_mono mt _) 31 rfl (Nat.le_of_ble_eq_true rfl) ?_))))
                  | (show Rch _ _ _ _ _ 31 _ _ _; refine Rch.blk' (Rn_mono mt _) bl_X4_groupsOf_31 (t_if_ne 37 34 rfl rfl (by first | exact hI_R | exact band_R | exact bor_R | exact bshr_R | exact lcm_R | omega) (fun hc => ?_) (fun hc => ?_)) <;> (first | (exfalso; omega) | skip))
                  | (show Rch _ _ _ _ _ 34 _ _ _; refine Rch.blk' (Rn_mono mt _) bl_X4_groupsOf_34 (t_goto 156 rfl ?_))
                  | (show Rch _ _ _ _ _ 37 _ _ _; refine Rch.blk' (Rn_mono mt _) bl_X4_groupsOf_37 (i_iconst k_1 (i_iload rfl (i_ishl (i_istore5 trivial (i_iconst k_0 (i_istore6 trivial (t_none ?_))))))))
                  | (show Rch _ _ _ _ _ 46 _ _ _; refine Rch.blk' (Rn_mono mt _) bl_X4_groupsOf_46 (i_iload rfl (i_bipush k_10 (t_ic_ge 146 53 rfl rfl (by first | exact hI_R | exact band_R | exact bor_R | exact bshr_R | exact lcm_R | omega) (by first | exact hI_R | exact band_R | exact bor_R | exact bshr_R | exact lcm_R | omega) (fun hc => ?_) (fun hc => ?_)))) <;> (first | (exfalso; omega) | skip))
                  | (show Rch _ _ _ _ _ 53 _ _ _; refine Rch.blk' (Rn_mono mt _) bl_X4_groupsOf_53 (i_iconst k_0 (i_istore7 trivial (t_none ?_))))
                  | (show Rch _ _ _ _ _ 67 _ _ _; refine Rch.blk' (Rn_mono mt _) bl_X4_groupsOf_67 (i_iconst k_0 (i_istore8 trivial (t_none ?_))))
                  | (show Rch _ _ _ _ _ 81 _ _ _; refine Rch.blk' (Rn_mono mt _) bl_X4_groupsOf_81 (i_iload rfl (i_iload rfl (t_cs2 (Rn_mono mt _) 88 rfl (Nat.le_of_ble_eq_true rfl) ?_))))
                  | (show Rch _ _ _ _ _ 88 _ _ _; refine Rch.blk' (Rn_mono mt _) bl_X4_groupsOf_88 (t_if_eq 128 91 rfl rfl (by first | exact hI_R | exact band_R | exact bor_R | exact bshr_R | exact lcm_R | omega) (fun hc => ?_) (fun hc => ?_)) <;> (first | (exfalso; omega) | skip))
                  | (show Rch _ _ _ _ _ 91 _ _ _; refine Rch.blk' (Rn_mono mt _) bl_X4_groupsOf_91 (i_aload_n rfl (i_gfs rfl (i_iload rfl (i_iload rfl (t_cs3 (Rn_mono mt _) 102 rfl (Nat.le_of_ble_eq_true rfl) ?_))))))
                  | (show Rch _ _ _ _ _ 102 _ _ _; refine Rch.blk' (Rn_mono mt _) bl_X4_groupsOf_102 (t_if_ne 119 105 rfl rfl (by first | exact hI_R | exact band_R | exact bor_R | exact bshr_R | exact lcm_R | omega) (fun hc => ?_) (fun hc => ?_)) <;> (first | (exfalso; omega) | skip))
                  | (show Rch _ _ _ _ _ 105 _ _ _; refine Rch.blk' (Rn_mono mt _) bl_X4_groupsOf_105 (i_aload_n rfl (i_gfs rfl (i_iload rfl (i_iload rfl (t_cs3 (Rn_mono mt _) 116 rfl (Nat.le_of_ble_eq_true rfl) ?_))))))
                  | (show Rch _ _ _ _ _ 116 _ _ _; refine Rch.blk' (Rn_mono mt _) bl_X4_groupsOf_116 (t_if_eq 128 119 rfl rfl (by first | exact hI_R | exact band_R | exact bor_R | exact bshr_R | exact lcm_R | omega) (fun hc => ?_) (fun hc => ?_)) <;> (first | (exfalso; omega) | skip))
                  | (show Rch _ _ _ _ _ 119 _ _ _; refine Rch.blk' (Rn_mono mt _) bl_X4_groupsOf_119 (i_iload rfl (i_iconst k_1 (i_iload rfl (i_ishl (i_ior (i_istore5 trivial (t_none ?_))))))))
                  | (show Rch _ _ _ _ _ 128 _ _ _; refine Rch.blk' (Rn_mono mt _) bl_X4_groupsOf_128 (i_iinc8 trivial k_1 (t_goto 70 rfl ?_)))
                  | (show Rch _ _ _ _ _ 134 _ _ _; refine Rch.blk' (Rn_mono mt _) bl_X4_groupsOf_134 (i_iinc7 trivial k_1 (t_goto 56 rfl ?_)))
                  | (show Rch _ _ _ _ _ 140 _ _ _; refine Rch.blk' (Rn_mono mt _) bl_X4_groupsOf_140 (i_iinc6 trivial k_1 (t_goto 46 rfl ?_)))
                  | (show Rch _ _ _ _ _ 146 _ _ _; refine Rch.blk' (Rn_mono mt _) bl_X4_groupsOf_146 (i_iload_n rfl (i_iload rfl (i_iconst k_m1 (i_ixor (i_iand (i_istore2 trivial (i_iinc3 trivial k_1 (t_none ?_)))))))))
                  | (show Rch _ _ _ _ _ 156 _ _ _; refine Rch.blk' (Rn_mono mt _) bl_X4_groupsOf_156 (i_iinc4 trivial k_1 (t_goto 14 rfl ?_)))
                  | (show Rch _ _ _ _ _ 162 _ _ _; refine Rch.blk' (Rn_mono mt _) bl_X4_groupsOf_162 (i_iload_n rfl (t_iret ?_))))
              · obtain rfl : a = nn G := by omega
                have kk := ir P0 (some (ai (I (nn G)))) u8 (gInv_up g_n.1 hS f1 f2 f3 (fun x y c e => f4 x y c e e.1.2.1))
                clear ja ir ih
                refine Rch.blk' (Rn_mono mt _) bl_X4_groupsOf_56 (i_iload rfl (i_aload_n rfl (i_gfs rfl (i_iconst k_0 (i_iald (n := 46) rfl (by first | omega | (simp (disch := omega) only [e_n]; omega)) (by first | omega | (simp (disch := omega) only [e_n]; omega)) (by first | omega | (simp (disch := omega) only [e_n]; omega)) (t_ic_ge 140 67 rfl rfl (by first | exact hI_R | exact band_R | exact bor_R | exact bshr_R | exact lcm_R | omega | (simp (disch := omega) only [e_n]; omega)) (by first | exact hI_R | exact band_R | exact bor_R | exact bshr_R | exact lcm_R | omega | (simp (disch := omega) only [e_n]; omega)) (fun hc => ?_) (fun hc => ?_))))))) <;> (try (simp (disch := omega) only [e_n] at hc ⊢)) <;> (first | (exfalso; omega) | skip)
                repeat' (first
                  | exact kk
                  | (show Rn _ _ 134 _ _ _; refine c_X4_ofSide (by assumption) (by assumption) (by first | omega | exact hI_R) ?_)
                  | (show Rn _ _ 115 _ _ _; refine c_X4_has (by omega) (by omega) (fun _ => ?_) (fun _ => ?_))
                  | (show Rn _ _ 131 _ _ _; refine c_X4_doesHear (by assumption) (by assumption) (by omega) (by omega) (by omega) (by omega) (by omega) (fun _ => ?_) (fun _ => ?_))
                  | (show Rch _ _ _ _ _ 0 _ _ _; refine Rch.blk' (Rn_mono mt _) bl_X4_groupsOf_0 (i_aload_n rfl (i_gfs rfl (i_iload_n rfl (t_cs2 (Rn_mono mt _) 8 rfl (Nat.le_of_ble_eq_true rfl) ?_)))))
                  | (show Rch _ _ _ _ _ 8 _ _ _; refine Rch.blk' (Rn_mono mt _) bl_X4_groupsOf_8 (i_istore2 trivial (i_iconst k_0 (i_istore3 trivial (i_iconst k_0 (i_istore4 trivial (t_none ?_)))))))
                  | (show Rch _ _ _ _ _ 14 _ _ _; refine Rch.blk' (Rn_mono mt _) bl_X4_groupsOf_14 (i_iload rfl (i_aload_n rfl (i_gfs rfl (i_iconst k_0 (i_iald (n := 46) rfl (by omega) (by omega) (by omega) (t_ic_ge 162 25 rfl rfl (by first | exact hI_R | exact band_R | exact bor_R | exact bshr_R | exact lcm_R | omega) (by first | exact hI_R | exact band_R | exact bor_R | exact bshr_R | exact lcm_R | omega) (fun hc => ?_) (fun hc => ?_))))))) <;> (first | (exfalso; omega) | skip))
                  | (show Rch _ _ _ _ _ 25 _ _ _; refine Rch.blk' (Rn_mono mt _) bl_X4_groupsOf_25 (i_iload_n rfl (i_iload rfl (t_cs2 (Rn_mono mt _) 31 rfl (Nat.le_of_ble_eq_true rfl) ?_))))
                  | (show Rch _ _ _ _ _ 31 _ _ _; refine Rch.blk' (Rn_mono mt _) bl_X4_groupsOf_31 (t_if_ne 37 34 rfl rfl (by first | exact hI_R | exact band_R | exact bor_R | exact bshr_R | exact lcm_R | omega) (fun hc => ?_) (fun hc => ?_)) <;> (first | (exfalso; omega) | skip))
                  | (show Rch _ _ _ _ _ 34 _ _ _; refine Rch.blk' (Rn_mono mt _) bl_X4_groupsOf_34 (t_goto 156 rfl ?_))
                  | (show Rch _ _ _ _ _ 37 _ _ _; refine Rch.blk' (Rn_mono mt _) bl_X4_groupsOf_37 (i_iconst k_1 (i_iload rfl (i_ishl (i_istore5 trivial (i_iconst k_0 (i_istore6 trivial (t_none ?_))))))))
                  | (show Rch _ _ _ _ _ 53 _ _ _; refine Rch.blk' (Rn_mono mt _) bl_X4_groupsOf_53 (i_iconst k_0 (i_istore7 trivial (t_none ?_))))
                  | (show Rch _ _ _ _ _ 67 _ _ _; refine Rch.blk' (Rn_mono mt _) bl_X4_groupsOf_67 (i_iconst k_0 (i_istore8 trivial (t_none ?_))))
                  | (show Rch _ _ _ _ _ 70 _ _ _; refine Rch.blk' (Rn_mono mt _) bl_X4_groupsOf_70 (i_iload rfl (i_aload_n rfl (i_gfs rfl (i_iconst k_0 (i_iald (n := 46) rfl (by omega) (by omega) (by omega) (t_ic_ge 134 81 rfl rfl (by first | exact hI_R | exact band_R | exact bor_R | exact bshr_R | exact lcm_R | omega) (by first | exact hI_R | exact band_R | exact bor_R | exact bshr_R | exact lcm_R | omega) (fun hc => ?_) (fun hc => ?_))))))) <;> (first | (exfalso; omega) | skip))
                  | (show Rch _ _ _ _ _ 81 _ _ _; refine Rch.blk' (Rn_mono mt _) bl_X4_groupsOf_81 (i_iload rfl (i_iload rfl (t_cs2 (Rn_mono mt _) 88 rfl (Nat.le_of_ble_eq_true rfl) ?_))))
                  | (show Rch _ _ _ _ _ 88 _ _ _; refine Rch.blk' (Rn_mono mt _) bl_X4_groupsOf_88 (t_if_eq 128 91 rfl rfl (by first | exact hI_R | exact band_R | exact bor_R | exact bshr_R | exact lcm_R | omega) (fun hc => ?_) (fun hc => ?_)) <;> (first | (exfalso; omega) | skip))
                  | (show Rch _ _ _ _ _ 91 _ _ _; refine Rch.blk' (Rn_mono mt _) bl_X4_groupsOf_91 (i_aload_n rfl (i_gfs rfl (i_iload rfl (i_iload rfl (t_cs3 (Rn_mono mt _) 102 rfl (Nat.le_of_ble_eq_true rfl) ?_))))))
                  | (show Rch _ _ _ _ _ 102 _ _ _; refine Rch.blk' (Rn_mono mt _) bl_X4_groupsOf_102 (t_if_ne 119 105 rfl rfl (by first | exact hI_R | exact band_R | exact bor_R | exact bshr_R | exact lcm_R | omega) (fun hc => ?_) (fun hc => ?_)) <;> (first | (exfalso; omega) | skip))
                  | (show Rch _ _ _ _ _ 105 _ _ _; refine Rch.blk' (Rn_mono mt _) bl_X4_groupsOf_105 (i_aload_n rfl (i_gfs rfl (i_iload rfl (i_iload rfl (t_cs3 (Rn_mono mt _) 116 rfl (Nat.le_of_ble_eq_true rfl) ?_))))))
                  | (show Rch _ _ _ _ _ 116 _ _ _; refine Rch.blk' (Rn_mono mt _) bl_X4_groupsOf_116 (t_if_eq 128 119 rfl rfl (by first | exact hI_R | exact band_R | exact bor_R | exact bshr_R | exact lcm_R | omega) (fun hc => ?_) (fun hc => ?_)) <;> (first | (exfalso; omega) | skip))
                  | (show Rch _ _ _ _ _ 119 _ _ _; refine Rch.blk' (Rn_mono mt _) bl_X4_groupsOf_119 (i_iload rfl (i_iconst k_1 (i_iload rfl (i_ishl (i_ior (i_istore5 trivial (t_none ?_))))))))
                  | (show Rch _ _ _ _ _ 128 _ _ _; refine Rch.blk' (Rn_mono mt _) bl_X4_groupsOf_128 (i_iinc8 trivial k_1 (t_goto 70 rfl ?_)))
                  | (show Rch _ _ _ _ _ 134 _ _ _; refine Rch.blk' (Rn_mono mt _) bl_X4_groupsOf_134 (i_iinc7 trivial k_1 (t_goto 56 rfl ?_)))
                  | (show Rch _ _ _ _ _ 140 _ _ _; refine Rch.blk' (Rn_mono mt _) bl_X4_groupsOf_140 (i_iinc6 trivial k_1 (t_goto 46 rfl ?_)))
                  | (show Rch _ _ _ _ _ 146 _ _ _; refine Rch.blk' (Rn_mono mt _) bl_X4_groupsOf_146 (i_iload_n rfl (i_iload rfl (i_iconst k_m1 (i_ixor (i_iand (i_istore2 trivial (i_iinc3 trivial k_1 (t_none ?_)))))))))
                  | (show Rch _ _ _ _ _ 156 _ _ _; refine Rch.blk' (Rn_mono mt _) bl_X4_groupsOf_156 (i_iinc4 trivial k_1 (t_goto 14 rfl ?_)))
                  | (show Rch _ _ _ _ _ 162 _ _ _; refine Rch.blk' (Rn_mono mt _) bl_X4_groupsOf_162 (i_iload_n rfl (t_iret ?_))))
            have l0 := la 0 (by omega) (by omega) S u8 (fun _ z => z) hS.2.1 hS.2.2.1 (fun x y _ c e => by have := c.1.1; omega)
            clear la ir ih
            refine Rch.blk' (Rn_mono mt _) bl_X4_groupsOf_46 (i_iload rfl (i_bipush k_10 (t_ic_ge 146 53 rfl rfl (by first | exact hI_R | exact band_R | exact bor_R | exact bshr_R | exact lcm_R | omega) (by first | exact hI_R | exact band_R | exact bor_R | exact bshr_R | exact lcm_R | omega) (fun hc => ?_) (fun hc => ?_)))) <;> (first | (exfalso; omega) | skip)
            repeat' (first
              | exact l0
              | (show Rn _ _ 134 _ _ _; refine c_X4_ofSide (by assumption) (by assumption) (by first | omega | exact hI_R) ?_)
              | (show Rn _ _ 115 _ _ _; refine c_X4_has (by omega) (by omega) (fun _ => ?_) (fun _ => ?_))
              | (show Rn _ _ 131 _ _ _; refine c_X4_doesHear (by assumption) (by assumption) (by omega) (by omega) (by omega) (by omega) (by omega) (fun _ => ?_) (fun _ => ?_))
              | (show Rch _ _ _ _ _ 0 _ _ _; refine Rch.blk' (Rn_mono mt _) bl_X4_groupsOf_0 (i_aload_n rfl (i_gfs rfl (i_iload_n rfl (t_cs2 (Rn_mono mt _) 8 rfl (Nat.le_of_ble_eq_true rfl) ?_)))))
              | (show Rch _ _ _ _ _ 8 _ _ _; refine Rch.blk' (Rn_mono mt _) bl_X4_groupsOf_8 (i_istore2 trivial (i_iconst k_0 (i_istore3 trivial (i_iconst k_0 (i_istore4 trivial (t_none ?_)))))))
              | (show Rch _ _ _ _ _ 14 _ _ _; refine Rch.blk' (Rn_mono mt _) bl_X4_groupsOf_14 (i_iload rfl (i_aload_n rfl (i_gfs rfl (i_iconst k_0 (i_iald (n := 46) rfl (by omega) (by omega) (by omega) (t_ic_ge 162 25 rfl rfl (by first | exact hI_R | exact band_R | exact bor_R | exact bshr_R | exact lcm_R | omega) (by first | exact hI_R | exact band_R | exact bor_R | exact bshr_R | exact lcm_R | omega) (fun hc => ?_) (fun hc => ?_))))))) <;> (first | (exfalso; omega) | skip))
              | (show Rch _ _ _ _ _ 25 _ _ _; refine Rch.blk' (Rn_mono mt _) bl_X4_groupsOf_25 (i_iload_n rfl (i_iload rfl (t_cs2 (Rn_mono mt _) 31 rfl (Nat.le_of_ble_eq_true rfl) ?_))))
              | (show Rch _ _ _ _ _ 31 _ _ _; refine Rch.blk' (Rn_mono mt _) bl_X4_groupsOf_31 (t_if_ne 37 34 rfl rfl (by first | exact hI_R | exact band_R | exact bor_R | exact bshr_R | exact lcm_R | omega) (fun hc => ?_) (fun hc => ?_)) <;> (first | (exfalso; omega) | skip))
              | (show Rch _ _ _ _ _ 34 _ _ _; refine Rch.blk' (Rn_mono mt _) bl_X4_groupsOf_34 (t_goto 156 rfl ?_))
              | (show Rch _ _ _ _ _ 37 _ _ _; refine Rch.blk' (Rn_mono mt _) bl_X4_groupsOf_37 (i_iconst k_1 (i_iload rfl (i_ishl (i_istore5 trivial (i_iconst k_0 (i_istore6 trivial (t_none ?_))))))))
              | (show Rch _ _ _ _ _ 53 _ _ _; refine Rch.blk' (Rn_mono mt _) bl_X4_groupsOf_53 (i_iconst k_0 (i_istore7 trivial (t_none ?_))))
              | (show Rch _ _ _ _ _ 67 _ _ _; refine Rch.blk' (Rn_mono mt _) bl_X4_groupsOf_67 (i_iconst k_0 (i_istore8 trivial (t_none ?_))))
              | (show Rch _ _ _ _ _ 70 _ _ _; refine Rch.blk' (Rn_mono mt _) bl_X4_groupsOf_70 (i_iload rfl (i_aload_n rfl (i_gfs rfl (i_iconst k_0 (i_iald (n := 46) rfl (by omega) (by omega) (by omega) (t_ic_ge 134 81 rfl rfl (by first | exact hI_R | exact band_R | exact bor_R | exact bshr_R | exact lcm_R | omega) (by first | exact hI_R | exact band_R | exact bor_R | exact bshr_R | exact lcm_R | omega) (fun hc => ?_) (fun hc => ?_))))))) <;> (first | (exfalso; omega) | skip))
              | (show Rch _ _ _ _ _ 81 _ _ _; refine Rch.blk' (Rn_mono mt _) bl_X4_groupsOf_81 (i_iload rfl (i_iload rfl (t_cs2 (Rn_mono mt _) 88 rfl (Nat.le_of_ble_eq_true rfl) ?_))))
              | (show Rch _ _ _ _ _ 88 _ _ _; refine Rch.blk' (Rn_mono mt _) bl_X4_groupsOf_88 (t_if_eq 128 91 rfl rfl (by first | exact hI_R | exact band_R | exact bor_R | exact bshr_R | exact lcm_R | omega) (fun hc => ?_) (fun hc => ?_)) <;> (first | (exfalso; omega) | skip))
              | (show Rch _ _ _ _ _ 91 _ _ _; refine Rch.blk' (Rn_mono mt _) bl_X4_groupsOf_91 (i_aload_n rfl (i_gfs rfl (i_iload rfl (i_iload rfl (t_cs3 (Rn_mono mt _) 102 rfl (Nat.le_of_ble_eq_true rfl) ?_))))))
              | (show Rch _ _ _ _ _ 102 _ _ _; refine Rch.blk' (Rn_mono mt _) bl_X4_groupsOf_102 (t_if_ne 119 105 rfl rfl (by first | exact hI_R | exact band_R | exact bor_R | exact bshr_R | exact lcm_R | omega) (fun hc => ?_) (fun hc => ?_)) <;> (first | (exfalso; omega) | skip))
              | (show Rch _ _ _ _ _ 105 _ _ _; refine Rch.blk' (Rn_mono mt _) bl_X4_groupsOf_105 (i_aload_n rfl (i_gfs rfl (i_iload rfl (i_iload rfl (t_cs3 (Rn_mono mt _) 116 rfl (Nat.le_of_ble_eq_true rfl) ?_))))))
              | (show Rch _ _ _ _ _ 116 _ _ _; refine Rch.blk' (Rn_mono mt _) bl_X4_groupsOf_116 (t_if_eq 128 119 rfl rfl (by first | exact hI_R | exact band_R | exact bor_R | exact bshr_R | exact lcm_R | omega) (fun hc => ?_) (fun hc => ?_)) <;> (first | (exfalso; omega) | skip))
              | (show Rch _ _ _ _ _ 119 _ _ _; refine Rch.blk' (Rn_mono mt _) bl_X4_groupsOf_119 (i_iload rfl (i_iconst k_1 (i_iload rfl (i_ishl (i_ior (i_istore5 trivial (t_none ?_))))))))
              | (show Rch _ _ _ _ _ 128 _ _ _; refine Rch.blk' (Rn_mono mt _) bl_X4_groupsOf_128 (i_iinc8 trivial k_1 (t_goto 70 rfl ?_)))
              | (show Rch _ _ _ _ _ 134 _ _ _; refine Rch.blk' (Rn_mono mt _) bl_X4_groupsOf_134 (i_iinc7 trivial k_1 (t_goto 56 rfl ?_)))
              | (show Rch _ _ _ _ _ 140 _ _ _; refine Rch.blk' (Rn_mono mt _) bl_X4_groupsOf_140 (i_iinc6 trivial k_1 (t_goto 46 rfl ?_)))
              | (show Rch _ _ _ _ _ 146 _ _ _; refine Rch.blk' (Rn_mono mt _) bl_X4_groupsOf_146 (i_iload_n rfl (i_iload rfl (i_iconst k_m1 (i_ixor (i_iand (i_istore2 trivial (i_iinc3 trivial k_1 (t_none ?_)))))))))
              | (show Rch _ _ _ _ _ 156 _ _ _; refine Rch.blk' (Rn_mono mt _) bl_X4_groupsOf_156 (i_iinc4 trivial k_1 (t_goto 14 rfl ?_)))
              | (show Rch _ _ _ _ _ 162 _ _ _; refine Rch.blk' (Rn_mono mt _) bl_X4_groupsOf_162 (i_iload_n rfl (t_iret ?_))))
          · obtain rfl : r = 10 := by omega
            have e := gInv_end hS g_n.1 (by omega)
            rw [← e] at ih
            have ih := fun u5 u6 u7 u8 => ih u5 u6 u7 u8
            clear ir
            refine Rch.blk' (Rn_mono mt _) bl_X4_groupsOf_46 (i_iload rfl (i_bipush k_10 (t_ic_ge 146 53 rfl rfl (by first | exact hI_R | exact band_R | exact bor_R | exact bshr_R | exact lcm_R | omega) (by first | exact hI_R | exact band_R | exact bor_R | exact bshr_R | exact lcm_R | omega) (fun hc => ?_) (fun hc => ?_)))) <;> (first | (exfalso; omega) | skip)
            repeat' (first
              | exact ih _ _ _ _
              | (show Rn _ _ 134 _ _ _; refine c_X4_ofSide (by assumption) (by assumption) (by first | omega | exact hI_R) ?_)
              | (show Rn _ _ 115 _ _ _; refine c_X4_has (by omega) (by omega) (fun _ => ?_) (fun _ => ?_))
              | (show Rn _ _ 131 _ _ _; refine c_X4_doesHear (by assumption) (by assumption) (by omega) (by omega) (by omega) (by omega) (by omega) (fun _ => ?_) (fun _ => ?_))
              | (show Rch _ _ _ _ _ 0 _ _ _; refine Rch.blk' (Rn_mono mt _) bl_X4_groupsOf_0 (i_aload_n rfl (i_gfs rfl (i_iload_n rfl (t_cs2 (Rn_mono mt _) 8 rfl (Nat.le_of_ble_eq_true rfl) ?_)))))
              | (show Rch _ _ _ _ _ 8 _ _ _; refine Rch.blk' (Rn_mono mt _) bl_X4_groupsOf_8 (i_istore2 trivial (i_iconst k_0 (i_istore3 trivial (i_iconst k_0 (i_istore4 trivial (t_none ?_)))))))
              | (show Rch _ _ _ _ _ 25 _ _ _; refine Rch.blk' (Rn_mono mt _) bl_X4_groupsOf_25 (i_iload_n rfl (i_iload rfl (t_cs2 (Rn_mono mt _) 31 rfl (Nat.le_of_ble_eq_true rfl) ?_))))
              | (show Rch _ _ _ _ _ 31 _ _ _; refine Rch.blk' (Rn_mono mt _) bl_X4_groupsOf_31 (t_if_ne 37 34 rfl rfl (by first | exact hI_R | exact band_R | exact bor_R | exact bshr_R | exact lcm_R | omega) (fun hc => ?_) (fun hc => ?_)) <;> (first | (exfalso; omega) | skip))
              | (show Rch _ _ _ _ _ 34 _ _ _; refine Rch.blk' (Rn_mono mt _) bl_X4_groupsOf_34 (t_goto 156 rfl ?_))
              | (show Rch _ _ _ _ _ 37 _ _ _; refine Rch.blk' (Rn_mono mt _) bl_X4_groupsOf_37 (i_iconst k_1 (i_iload rfl (i_ishl (i_istore5 trivial (i_iconst k_0 (i_istore6 trivial (t_none ?_))))))))
              | (show Rch _ _ _ _ _ 53 _ _ _; refine Rch.blk' (Rn_mono mt _) bl_X4_groupsOf_53 (i_iconst k_0 (i_istore7 trivial (t_none ?_))))
              | (show Rch _ _ _ _ _ 56 _ _ _; refine Rch.blk' (Rn_mono mt _) bl_X4_groupsOf_56 (i_iload rfl (i_aload_n rfl (i_gfs rfl (i_iconst k_0 (i_iald (n := 46) rfl (by omega) (by omega) (by omega) (t_ic_ge 140 67 rfl rfl (by first | exact hI_R | exact band_R | exact bor_R | exact bshr_R | exact lcm_R | omega) (by first | exact hI_R | exact band_R | exact bor_R | exact bshr_R | exact lcm_R | omega) (fun hc => ?_) (fun hc => ?_))))))) <;> (first | (exfalso; omega) | skip))
              | (show Rch _ _ _ _ _ 67 _ _ _; refine Rch.blk' (Rn_mono mt _) bl_X4_groupsOf_67 (i_iconst k_0 (i_istore8 trivial (t_none ?_))))
              | (show Rch _ _ _ _ _ 70 _ _ _; refine Rch.blk' (Rn_mono mt _) bl_X4_groupsOf_70 (i_iload rfl (i_aload_n rfl (i_gfs rfl (i_iconst k_0 (i_iald (n := 46) rfl (by omega) (by omega) (by omega) (t_ic_ge 134 81 rfl rfl (by first | exact hI_R | exact band_R | exact bor_R | exact bshr_R | exact lcm_R | omega) (by first | exact hI_R | exact band_R | exact bor_R | exact bshr_R | exact lcm_R | omega) (fun hc => ?_) (fun hc => ?_))))))) <;> (first | (exfalso; omega) | skip))
              | (show Rch _ _ _ _ _ 81 _ _ _; refine Rch.blk' (Rn_mono mt _) bl_X4_groupsOf_81 (i_iload rfl (i_iload rfl (t_cs2 (Rn_mono mt _) 88 rfl (Nat.le_of_ble_eq_true rfl) ?_))))
              | (show Rch _ _ _ _ _ 88 _ _ _; refine Rch.blk' (Rn_mono mt _) bl_X4_groupsOf_88 (t_if_eq 128 91 rfl rfl (by first | exact hI_R | exact band_R | exact bor_R | exact bshr_R | exact lcm_R | omega) (fun hc => ?_) (fun hc => ?_)) <;> (first | (exfalso; omega) | skip))
              | (show Rch _ _ _ _ _ 91 _ _ _; refine Rch.blk' (Rn_mono mt _) bl_X4_groupsOf_91 (i_aload_n rfl (i_gfs rfl (i_iload rfl (i_iload rfl (t_cs3 (Rn_mono mt _) 102 rfl (Nat.le_of_ble_eq_true rfl) ?_))))))
              | (show Rch _ _ _ _ _ 102 _ _ _; refine Rch.blk' (Rn_mono mt _) bl_X4_groupsOf_102 (t_if_ne 119 105 rfl rfl (by first | exact hI_R | exact band_R | exact bor_R | exact bshr_R | exact lcm_R | omega) (fun hc => ?_) (fun hc => ?_)) <;> (first | (exfalso; omega) | skip))
              | (show Rch _ _ _ _ _ 105 _ _ _; refine Rch.blk' (Rn_mono mt _) bl_X4_groupsOf_105 (i_aload_n rfl (i_gfs rfl (i_iload rfl (i_iload rfl (t_cs3 (Rn_mono mt _) 116 rfl (Nat.le_of_ble_eq_true rfl) ?_))))))
              | (show Rch _ _ _ _ _ 116 _ _ _; refine Rch.blk' (Rn_mono mt _) bl_X4_groupsOf_116 (t_if_eq 128 119 rfl rfl (by first | exact hI_R | exact band_R | exact bor_R | exact bshr_R | exact lcm_R | omega) (fun hc => ?_) (fun hc => ?_)) <;> (first | (exfalso; omega) | skip))
              | (show Rch _ _ _ _ _ 119 _ _ _; refine Rch.blk' (Rn_mono mt _) bl_X4_groupsOf_119 (i_iload rfl (i_iconst k_1 (i_iload rfl (i_ishl (i_ior (i_istore5 trivial (t_none ?_))))))))
              | (show Rch _ _ _ _ _ 128 _ _ _; refine Rch.blk' (Rn_mono mt _) bl_X4_groupsOf_128 (i_iinc8 trivial k_1 (t_goto 70 rfl ?_)))
              | (show Rch _ _ _ _ _ 134 _ _ _; refine Rch.blk' (Rn_mono mt _) bl_X4_groupsOf_134 (i_iinc7 trivial k_1 (t_goto 56 rfl ?_)))
              | (show Rch _ _ _ _ _ 140 _ _ _; refine Rch.blk' (Rn_mono mt _) bl_X4_groupsOf_140 (i_iinc6 trivial k_1 (t_goto 46 rfl ?_)))
              | (show Rch _ _ _ _ _ 146 _ _ _; refine Rch.blk' (Rn_mono mt _) bl_X4_groupsOf_146 (i_iload_n rfl (i_iload rfl (i_iconst k_m1 (i_ixor (i_iand (i_istore2 trivial (i_iinc3 trivial k_1 (t_none ?_)))))))))
              | (show Rch _ _ _ _ _ 156 _ _ _; refine Rch.blk' (Rn_mono mt _) bl_X4_groupsOf_156 (i_iinc4 trivial k_1 (t_goto 14 rfl ?_)))
              | (show Rch _ _ _ _ _ 162 _ _ _; refine Rch.blk' (Rn_mono mt _) bl_X4_groupsOf_162 (i_iload_n rfl (t_iret ?_))))
        have l0 := lr 0 (by omega) (by omega) (fun i => i = k) u7 u8 (gInv_0 hk0 hk1)
        rw [← b_one hk0 (by omega)] at l0
        clear lr ih
        refine Rch.blk' (Rn_mono mt _) bl_X4_groupsOf_14 (i_iload rfl (i_aload_n rfl (i_gfs rfl (i_iconst k_0 (i_iald (n := 46) rfl (by first | omega | (simp (disch := omega) only [e_n]; omega)) (by first | omega | (simp (disch := omega) only [e_n]; omega)) (by first | omega | (simp (disch := omega) only [e_n]; omega)) (t_ic_ge 162 25 rfl rfl (by first | exact hI_R | exact band_R | exact bor_R | exact bshr_R | exact lcm_R | omega | (simp (disch := omega) only [e_n]; omega)) (by first | exact hI_R | exact band_R | exact bor_R | exact bshr_R | exact lcm_R | omega | (simp (disch := omega) only [e_n]; omega)) (fun hc => ?_) (fun hc => ?_))))))) <;> (try (simp (disch := omega) only [e_n] at hc ⊢)) <;> (first | (exfalso; omega) | skip)
        refine Rch.blk' (Rn_mono mt _) bl_X4_groupsOf_25 (i_iload_n rfl (i_iload rfl (t_cs2 (Rn_mono mt _) 31 rfl (Nat.le_of_ble_eq_true rfl) ?_)))
        refine c_X4_has hk0 (by omega) (fun _ => ?_) (fun z => absurd ⟨⟨hk1, hP.1⟩, hP.2⟩ z)
        repeat' (first
          | exact l0
          | (show Rn _ _ 134 _ _ _; refine c_X4_ofSide (by assumption) (by assumption) (by first | omega | exact hI_R) ?_)
          | (show Rn _ _ 115 _ _ _; refine c_X4_has (by omega) (by omega) (fun _ => ?_) (fun _ => ?_))
          | (show Rn _ _ 131 _ _ _; refine c_X4_doesHear (by assumption) (by assumption) (by omega) (by omega) (by omega) (by omega) (by omega) (fun _ => ?_) (fun _ => ?_))
          | (show Rch _ _ _ _ _ 0 _ _ _; refine Rch.blk' (Rn_mono mt _) bl_X4_groupsOf_0 (i_aload_n rfl (i_gfs rfl (i_iload_n rfl (t_cs2 (Rn_mono mt _) 8 rfl (Nat.le_of_ble_eq_true rfl) ?_)))))
          | (show Rch _ _ _ _ _ 8 _ _ _; refine Rch.blk' (Rn_mono mt _) bl_X4_groupsOf_8 (i_istore2 trivial (i_iconst k_0 (i_istore3 trivial (i_iconst k_0 (i_istore4 trivial (t_none ?_)))))))
          | (show Rch _ _ _ _ _ 14 _ _ _; refine Rch.blk' (Rn_mono mt _) bl_X4_groupsOf_14 (i_iload rfl (i_aload_n rfl (i_gfs rfl (i_iconst k_0 (i_iald (n := 46) rfl (by omega) (by omega) (by omega) (t_ic_ge 162 25 rfl rfl (by first | exact hI_R | exact band_R | exact bor_R | exact bshr_R | exact lcm_R | omega) (by first | exact hI_R | exact band_R | exact bor_R | exact bshr_R | exact lcm_R | omega) (fun hc => ?_) (fun hc => ?_))))))) <;> (first | (exfalso; omega) | skip))
          | (show Rch _ _ _ _ _ 25 _ _ _; refine Rch.blk' (Rn_mono mt _) bl_X4_groupsOf_25 (i_iload_n rfl (i_iload rfl (t_cs2 (Rn_mono mt _) 31 rfl (Nat.le_of_ble_eq_true rfl) ?_))))
          | (show Rch _ _ _ _ _ 31 _ _ _; refine Rch.blk' (Rn_mono mt _) bl_X4_groupsOf_31 (t_if_ne 37 34 rfl rfl (by first | exact hI_R | exact band_R | exact bor_R | exact bshr_R | exact lcm_R | omega) (fun hc => ?_) (fun hc => ?_)) <;> (first | (exfalso; omega) | skip))
          | (show Rch _ _ _ _ _ 34 _ _ _; refine Rch.blk' (Rn_mono mt _) bl_X4_groupsOf_34 (t_goto 156 rfl ?_))
          | (show Rch _ _ _ _ _ 37 _ _ _; refine Rch.blk' (Rn_mono mt _) bl_X4_groupsOf_37 (i_iconst k_1 (i_iload rfl (i_ishl (i_istore5 trivial (i_iconst k_0 (i_istore6 trivial (t_none ?_))))))))
          | (show Rch _ _ _ _ _ 53 _ _ _; refine Rch.blk' (Rn_mono mt _) bl_X4_groupsOf_53 (i_iconst k_0 (i_istore7 trivial (t_none ?_))))
          | (show Rch _ _ _ _ _ 56 _ _ _; refine Rch.blk' (Rn_mono mt _) bl_X4_groupsOf_56 (i_iload rfl (i_aload_n rfl (i_gfs rfl (i_iconst k_0 (i_iald (n := 46) rfl (by omega) (by omega) (by omega) (t_ic_ge 140 67 rfl rfl (by first | exact hI_R | exact band_R | exact bor_R | exact bshr_R | exact lcm_R | omega) (by first | exact hI_R | exact band_R | exact bor_R | exact bshr_R | exact lcm_R | omega) (fun hc => ?_) (fun hc => ?_))))))) <;> (first | (exfalso; omega) | skip))
          | (show Rch _ _ _ _ _ 67 _ _ _; refine Rch.blk' (Rn_mono mt _) bl_X4_groupsOf_67 (i_iconst k_0 (i_istore8 trivial (t_none ?_))))
          | (show Rch _ _ _ _ _ 70 _ _ _; refine Rch.blk' (Rn_mono mt _) bl_X4_groupsOf_70 (i_iload rfl (i_aload_n rfl (i_gfs rfl (i_iconst k_0 (i_iald (n := 46) rfl (by omega) (by omega) (by omega) (t_ic_ge 134 81 rfl rfl (by first | exact hI_R | exact band_R | exact bor_R | exact bshr_R | exact lcm_R | omega) (by first | exact hI_R | exact band_R | exact bor_R | exact bshr_R | exact lcm_R | omega) (fun hc => ?_) (fun hc => ?_))))))) <;> (first | (exfalso; omega) | skip))
          | (show Rch _ _ _ _ _ 81 _ _ _; refine Rch.blk' (Rn_mono mt _) bl_X4_groupsOf_81 (i_iload rfl (i_iload rfl (t_cs2 (Rn_mono mt _) 88 rfl (Nat.le_of_ble_eq_true rfl) ?_))))
          | (show Rch _ _ _ _ _ 88 _ _ _; refine Rch.blk' (Rn_mono mt _) bl_X4_groupsOf_88 (t_if_eq 128 91 rfl rfl (by first | exact hI_R | exact band_R | exact bor_R | exact bshr_R | exact lcm_R | omega) (fun hc => ?_) (fun hc => ?_)) <;> (first | (exfalso; omega) | skip))
          | (show Rch _ _ _ _ _ 91 _ _ _; refine Rch.blk' (Rn_mono mt _) bl_X4_groupsOf_91 (i_aload_n rfl (i_gfs rfl (i_iload rfl (i_iload rfl (t_cs3 (Rn_mono mt _) 102 rfl (Nat.le_of_ble_eq_true rfl) ?_))))))
          | (show Rch _ _ _ _ _ 102 _ _ _; refine Rch.blk' (Rn_mono mt _) bl_X4_groupsOf_102 (t_if_ne 119 105 rfl rfl (by first | exact hI_R | exact band_R | exact bor_R | exact bshr_R | exact lcm_R | omega) (fun hc => ?_) (fun hc => ?_)) <;> (first | (exfalso; omega) | skip))
          | (show Rch _ _ _ _ _ 105 _ _ _; refine Rch.blk' (Rn_mono mt _) bl_X4_groupsOf_105 (i_aload_n rfl (i_gfs rfl (i_iload rfl (i_iload rfl (t_cs3 (Rn_mono mt _) 116 rfl (Nat.le_of_ble_eq_true rfl) ?_))))))
          | (show Rch _ _ _ _ _ 116 _ _ _; refine Rch.blk' (Rn_mono mt _) bl_X4_groupsOf_116 (t_if_eq 128 119 rfl rfl (by first | exact hI_R | exact band_R | exact bor_R | exact bshr_R | exact lcm_R | omega) (fun hc => ?_) (fun hc => ?_)) <;> (first | (exfalso; omega) | skip))
          | (show Rch _ _ _ _ _ 119 _ _ _; refine Rch.blk' (Rn_mono mt _) bl_X4_groupsOf_119 (i_iload rfl (i_iconst k_1 (i_iload rfl (i_ishl (i_ior (i_istore5 trivial (t_none ?_))))))))
          | (show Rch _ _ _ _ _ 128 _ _ _; refine Rch.blk' (Rn_mono mt _) bl_X4_groupsOf_128 (i_iinc8 trivial k_1 (t_goto 70 rfl ?_)))
          | (show Rch _ _ _ _ _ 134 _ _ _; refine Rch.blk' (Rn_mono mt _) bl_X4_groupsOf_134 (i_iinc7 trivial k_1 (t_goto 56 rfl ?_)))
          | (show Rch _ _ _ _ _ 140 _ _ _; refine Rch.blk' (Rn_mono mt _) bl_X4_groupsOf_140 (i_iinc6 trivial k_1 (t_goto 46 rfl ?_)))
          | (show Rch _ _ _ _ _ 146 _ _ _; refine Rch.blk' (Rn_mono mt _) bl_X4_groupsOf_146 (i_iload_n rfl (i_iload rfl (i_iconst k_m1 (i_ixor (i_iand (i_istore2 trivial (i_iinc3 trivial k_1 (t_none ?_)))))))))
          | (show Rch _ _ _ _ _ 156 _ _ _; refine Rch.blk' (Rn_mono mt _) bl_X4_groupsOf_156 (i_iinc4 trivial k_1 (t_goto 14 rfl ?_)))
          | (show Rch _ _ _ _ _ 162 _ _ _; refine Rch.blk' (Rn_mono mt _) bl_X4_groupsOf_162 (i_iload_n rfl (t_iret ?_))))
      · rw [ifp_n hP, GSs_0 hk0 hP, Int.add_zero] at ih
        refine Rch.blk' (Rn_mono mt _) bl_X4_groupsOf_14 (i_iload rfl (i_aload_n rfl (i_gfs rfl (i_iconst k_0 (i_iald (n := 46) rfl (by first | omega | (simp (disch := omega) only [e_n]; omega)) (by first | omega | (simp (disch := omega) only [e_n]; omega)) (by first | omega | (simp (disch := omega) only [e_n]; omega)) (t_ic_ge 162 25 rfl rfl (by first | exact hI_R | exact band_R | exact bor_R | exact bshr_R | exact lcm_R | omega | (simp (disch := omega) only [e_n]; omega)) (by first | exact hI_R | exact band_R | exact bor_R | exact bshr_R | exact lcm_R | omega | (simp (disch := omega) only [e_n]; omega)) (fun hc => ?_) (fun hc => ?_))))))) <;> (try (simp (disch := omega) only [e_n] at hc ⊢)) <;> (first | (exfalso; omega) | skip)
        refine Rch.blk' (Rn_mono mt _) bl_X4_groupsOf_25 (i_iload_n rfl (i_iload rfl (t_cs2 (Rn_mono mt _) 31 rfl (Nat.le_of_ble_eq_true rfl) ?_)))
        refine c_X4_has hk0 (by omega) (fun z => absurd ⟨z.1.2, z.2⟩ hP) (fun _ => ?_)
        repeat' (first
          | exact ih _ _ _ _
          | (show Rn _ _ 134 _ _ _; refine c_X4_ofSide (by assumption) (by assumption) (by first | omega | exact hI_R) ?_)
          | (show Rn _ _ 115 _ _ _; refine c_X4_has (by omega) (by omega) (fun _ => ?_) (fun _ => ?_))
          | (show Rn _ _ 131 _ _ _; refine c_X4_doesHear (by assumption) (by assumption) (by omega) (by omega) (by omega) (by omega) (by omega) (fun _ => ?_) (fun _ => ?_))
          | (show Rch _ _ _ _ _ 0 _ _ _; refine Rch.blk' (Rn_mono mt _) bl_X4_groupsOf_0 (i_aload_n rfl (i_gfs rfl (i_iload_n rfl (t_cs2 (Rn_mono mt _) 8 rfl (Nat.le_of_ble_eq_true rfl) ?_)))))
          | (show Rch _ _ _ _ _ 8 _ _ _; refine Rch.blk' (Rn_mono mt _) bl_X4_groupsOf_8 (i_istore2 trivial (i_iconst k_0 (i_istore3 trivial (i_iconst k_0 (i_istore4 trivial (t_none ?_)))))))
          | (show Rch _ _ _ _ _ 25 _ _ _; refine Rch.blk' (Rn_mono mt _) bl_X4_groupsOf_25 (i_iload_n rfl (i_iload rfl (t_cs2 (Rn_mono mt _) 31 rfl (Nat.le_of_ble_eq_true rfl) ?_))))
          | (show Rch _ _ _ _ _ 31 _ _ _; refine Rch.blk' (Rn_mono mt _) bl_X4_groupsOf_31 (t_if_ne 37 34 rfl rfl (by first | exact hI_R | exact band_R | exact bor_R | exact bshr_R | exact lcm_R | omega) (fun hc => ?_) (fun hc => ?_)) <;> (first | (exfalso; omega) | skip))
          | (show Rch _ _ _ _ _ 34 _ _ _; refine Rch.blk' (Rn_mono mt _) bl_X4_groupsOf_34 (t_goto 156 rfl ?_))
          | (show Rch _ _ _ _ _ 37 _ _ _; refine Rch.blk' (Rn_mono mt _) bl_X4_groupsOf_37 (i_iconst k_1 (i_iload rfl (i_ishl (i_istore5 trivial (i_iconst k_0 (i_istore6 trivial (t_none ?_))))))))
          | (show Rch _ _ _ _ _ 46 _ _ _; refine Rch.blk' (Rn_mono mt _) bl_X4_groupsOf_46 (i_iload rfl (i_bipush k_10 (t_ic_ge 146 53 rfl rfl (by first | exact hI_R | exact band_R | exact bor_R | exact bshr_R | exact lcm_R | omega) (by first | exact hI_R | exact band_R | exact bor_R | exact bshr_R | exact lcm_R | omega) (fun hc => ?_) (fun hc => ?_)))) <;> (first | (exfalso; omega) | skip))
          | (show Rch _ _ _ _ _ 53 _ _ _; refine Rch.blk' (Rn_mono mt _) bl_X4_groupsOf_53 (i_iconst k_0 (i_istore7 trivial (t_none ?_))))
          | (show Rch _ _ _ _ _ 56 _ _ _; refine Rch.blk' (Rn_mono mt _) bl_X4_groupsOf_56 (i_iload rfl (i_aload_n rfl (i_gfs rfl (i_iconst k_0 (i_iald (n := 46) rfl (by omega) (by omega) (by omega) (t_ic_ge 140 67 rfl rfl (by first | exact hI_R | exact band_R | exact bor_R | exact bshr_R | exact lcm_R | omega) (by first | exact hI_R | exact band_R | exact bor_R | exact bshr_R | exact lcm_R | omega) (fun hc => ?_) (fun hc => ?_))))))) <;> (first | (exfalso; omega) | skip))
          | (show Rch _ _ _ _ _ 67 _ _ _; refine Rch.blk' (Rn_mono mt _) bl_X4_groupsOf_67 (i_iconst k_0 (i_istore8 trivial (t_none ?_))))
          | (show Rch _ _ _ _ _ 70 _ _ _; refine Rch.blk' (Rn_mono mt _) bl_X4_groupsOf_70 (i_iload rfl (i_aload_n rfl (i_gfs rfl (i_iconst k_0 (i_iald (n := 46) rfl (by omega) (by omega) (by omega) (t_ic_ge 134 81 rfl rfl (by first | exact hI_R | exact band_R | exact bor_R | exact bshr_R | exact lcm_R | omega) (by first | exact hI_R | exact band_R | exact bor_R | exact bshr_R | exact lcm_R | omega) (fun hc => ?_) (fun hc => ?_))))))) <;> (first | (exfalso; omega) | skip))
          | (show Rch _ _ _ _ _ 81 _ _ _; refine Rch.blk' (Rn_mono mt _) bl_X4_groupsOf_81 (i_iload rfl (i_iload rfl (t_cs2 (Rn_mono mt _) 88 rfl (Nat.le_of_ble_eq_true rfl) ?_))))
          | (show Rch _ _ _ _ _ 88 _ _ _; refine Rch.blk' (Rn_mono mt _) bl_X4_groupsOf_88 (t_if_eq 128 91 rfl rfl (by first | exact hI_R | exact band_R | exact bor_R | exact bshr_R | exact lcm_R | omega) (fun hc => ?_) (fun hc => ?_)) <;> (first | (exfalso; omega) | skip))
          | (show Rch _ _ _ _ _ 91 _ _ _; refine Rch.blk' (Rn_mono mt _) bl_X4_groupsOf_91 (i_aload_n rfl (i_gfs rfl (i_iload rfl (i_iload rfl (t_cs3 (Rn_mono mt _) 102 rfl (Nat.le_of_ble_eq_true rfl) ?_))))))
          | (show Rch _ _ _ _ _ 102 _ _ _; refine Rch.blk' (Rn_mono mt _) bl_X4_groupsOf_102 (t_if_ne 119 105 rfl rfl (by first | exact hI_R | exact band_R | exact bor_R | exact bshr_R | exact lcm_R | omega) (fun hc => ?_) (fun hc => ?_)) <;> (first | (exfalso; omega) | skip))
          | (show Rch _ _ _ _ _ 105 _ _ _; refine Rch.blk' (Rn_mono mt _) bl_X4_groupsOf_105 (i_aload_n rfl (i_gfs rfl (i_iload rfl (i_iload rfl (t_cs3 (Rn_mono mt _) 116 rfl (Nat.le_of_ble_eq_true rfl) ?_))))))
          | (show Rch _ _ _ _ _ 116 _ _ _; refine Rch.blk' (Rn_mono mt _) bl_X4_groupsOf_116 (t_if_eq 128 119 rfl rfl (by first | exact hI_R | exact band_R | exact bor_R | exact bshr_R | exact lcm_R | omega) (fun hc => ?_) (fun hc => ?_)) <;> (first | (exfalso; omega) | skip))
          | (show Rch _ _ _ _ _ 119 _ _ _; refine Rch.blk' (Rn_mono mt _) bl_X4_groupsOf_119 (i_iload rfl (i_iconst k_1 (i_iload rfl (i_ishl (i_ior (i_istore5 trivial (t_none ?_))))))))
          | (show Rch _ _ _ _ _ 128 _ _ _; refine Rch.blk' (Rn_mono mt _) bl_X4_groupsOf_128 (i_iinc8 trivial k_1 (t_goto 70 rfl ?_)))
          | (show Rch _ _ _ _ _ 134 _ _ _; refine Rch.blk' (Rn_mono mt _) bl_X4_groupsOf_134 (i_iinc7 trivial k_1 (t_goto 56 rfl ?_)))
          | (show Rch _ _ _ _ _ 140 _ _ _; refine Rch.blk' (Rn_mono mt _) bl_X4_groupsOf_140 (i_iinc6 trivial k_1 (t_goto 46 rfl ?_)))
          | (show Rch _ _ _ _ _ 146 _ _ _; refine Rch.blk' (Rn_mono mt _) bl_X4_groupsOf_146 (i_iload_n rfl (i_iload rfl (i_iconst k_m1 (i_ixor (i_iand (i_istore2 trivial (i_iinc3 trivial k_1 (t_none ?_)))))))))
          | (show Rch _ _ _ _ _ 156 _ _ _; refine Rch.blk' (Rn_mono mt _) bl_X4_groupsOf_156 (i_iinc4 trivial k_1 (t_goto 14 rfl ?_)))
          | (show Rch _ _ _ _ _ 162 _ _ _; refine Rch.blk' (Rn_mono mt _) bl_X4_groupsOf_162 (i_iload_n rfl (t_iret ?_))))
    · obtain rfl : k = nn G := by omega
      clear ih
      refine Rch.blk' (Rn_mono mt _) bl_X4_groupsOf_14 (i_iload rfl (i_aload_n rfl (i_gfs rfl (i_iconst k_0 (i_iald (n := 46) rfl (by first | omega | (simp (disch := omega) only [e_n]; omega)) (by first | omega | (simp (disch := omega) only [e_n]; omega)) (by first | omega | (simp (disch := omega) only [e_n]; omega)) (t_ic_ge 162 25 rfl rfl (by first | exact hI_R | exact band_R | exact bor_R | exact bshr_R | exact lcm_R | omega | (simp (disch := omega) only [e_n]; omega)) (by first | exact hI_R | exact band_R | exact bor_R | exact bshr_R | exact lcm_R | omega | (simp (disch := omega) only [e_n]; omega)) (fun hc => ?_) (fun hc => ?_))))))) <;> (try (simp (disch := omega) only [e_n] at hc ⊢)) <;> (first | (exfalso; omega) | skip)
      repeat' (first
        | exact hq
        | (show Rn _ _ 134 _ _ _; refine c_X4_ofSide (by assumption) (by assumption) (by first | omega | exact hI_R) ?_)
        | (show Rn _ _ 115 _ _ _; refine c_X4_has (by omega) (by omega) (fun _ => ?_) (fun _ => ?_))
        | (show Rn _ _ 131 _ _ _; refine c_X4_doesHear (by assumption) (by assumption) (by omega) (by omega) (by omega) (by omega) (by omega) (fun _ => ?_) (fun _ => ?_))
        | (show Rch _ _ _ _ _ 0 _ _ _; refine Rch.blk' (Rn_mono mt _) bl_X4_groupsOf_0 (i_aload_n rfl (i_gfs rfl (i_iload_n rfl (t_cs2 (Rn_mono mt _) 8 rfl (Nat.le_of_ble_eq_true rfl) ?_)))))
        | (show Rch _ _ _ _ _ 8 _ _ _; refine Rch.blk' (Rn_mono mt _) bl_X4_groupsOf_8 (i_istore2 trivial (i_iconst k_0 (i_istore3 trivial (i_iconst k_0 (i_istore4 trivial (t_none ?_)))))))
        | (show Rch _ _ _ _ _ 25 _ _ _; refine Rch.blk' (Rn_mono mt _) bl_X4_groupsOf_25 (i_iload_n rfl (i_iload rfl (t_cs2 (Rn_mono mt _) 31 rfl (Nat.le_of_ble_eq_true rfl) ?_))))
        | (show Rch _ _ _ _ _ 31 _ _ _; refine Rch.blk' (Rn_mono mt _) bl_X4_groupsOf_31 (t_if_ne 37 34 rfl rfl (by first | exact hI_R | exact band_R | exact bor_R | exact bshr_R | exact lcm_R | omega) (fun hc => ?_) (fun hc => ?_)) <;> (first | (exfalso; omega) | skip))
        | (show Rch _ _ _ _ _ 34 _ _ _; refine Rch.blk' (Rn_mono mt _) bl_X4_groupsOf_34 (t_goto 156 rfl ?_))
        | (show Rch _ _ _ _ _ 37 _ _ _; refine Rch.blk' (Rn_mono mt _) bl_X4_groupsOf_37 (i_iconst k_1 (i_iload rfl (i_ishl (i_istore5 trivial (i_iconst k_0 (i_istore6 trivial (t_none ?_))))))))
        | (show Rch _ _ _ _ _ 46 _ _ _; refine Rch.blk' (Rn_mono mt _) bl_X4_groupsOf_46 (i_iload rfl (i_bipush k_10 (t_ic_ge 146 53 rfl rfl (by first | exact hI_R | exact band_R | exact bor_R | exact bshr_R | exact lcm_R | omega) (by first | exact hI_R | exact band_R | exact bor_R | exact bshr_R | exact lcm_R | omega) (fun hc => ?_) (fun hc => ?_)))) <;> (first | (exfalso; omega) | skip))
        | (show Rch _ _ _ _ _ 53 _ _ _; refine Rch.blk' (Rn_mono mt _) bl_X4_groupsOf_53 (i_iconst k_0 (i_istore7 trivial (t_none ?_))))
        | (show Rch _ _ _ _ _ 56 _ _ _; refine Rch.blk' (Rn_mono mt _) bl_X4_groupsOf_56 (i_iload rfl (i_aload_n rfl (i_gfs rfl (i_iconst k_0 (i_iald (n := 46) rfl (by omega) (by omega) (by omega) (t_ic_ge 140 67 rfl rfl (by first | exact hI_R | exact band_R | exact bor_R | exact bshr_R | exact lcm_R | omega) (by first | exact hI_R | exact band_R | exact bor_R | exact bshr_R | exact lcm_R | omega) (fun hc => ?_) (fun hc => ?_))))))) <;> (first | (exfalso; omega) | skip))
        | (show Rch _ _ _ _ _ 67 _ _ _; refine Rch.blk' (Rn_mono mt _) bl_X4_groupsOf_67 (i_iconst k_0 (i_istore8 trivial (t_none ?_))))
        | (show Rch _ _ _ _ _ 70 _ _ _; refine Rch.blk' (Rn_mono mt _) bl_X4_groupsOf_70 (i_iload rfl (i_aload_n rfl (i_gfs rfl (i_iconst k_0 (i_iald (n := 46) rfl (by omega) (by omega) (by omega) (t_ic_ge 134 81 rfl rfl (by first | exact hI_R | exact band_R | exact bor_R | exact bshr_R | exact lcm_R | omega) (by first | exact hI_R | exact band_R | exact bor_R | exact bshr_R | exact lcm_R | omega) (fun hc => ?_) (fun hc => ?_))))))) <;> (first | (exfalso; omega) | skip))
        | (show Rch _ _ _ _ _ 81 _ _ _; refine Rch.blk' (Rn_mono mt _) bl_X4_groupsOf_81 (i_iload rfl (i_iload rfl (t_cs2 (Rn_mono mt _) 88 rfl (Nat.le_of_ble_eq_true rfl) ?_))))
        | (show Rch _ _ _ _ _ 88 _ _ _; refine Rch.blk' (Rn_mono mt _) bl_X4_groupsOf_88 (t_if_eq 128 91 rfl rfl (by first | exact hI_R | exact band_R | exact bor_R | exact bshr_R | exact lcm_R | omega) (fun hc => ?_) (fun hc => ?_)) <;> (first | (exfalso; omega) | skip))
        | (show Rch _ _ _ _ _ 91 _ _ _; refine Rch.blk' (Rn_mono mt _) bl_X4_groupsOf_91 (i_aload_n rfl (i_gfs rfl (i_iload rfl (i_iload rfl (t_cs3 (Rn_mono mt _) 102 rfl (Nat.le_of_ble_eq_true rfl) ?_))))))
        | (show Rch _ _ _ _ _ 102 _ _ _; refine Rch.blk' (Rn_mono mt _) bl_X4_groupsOf_102 (t_if_ne 119 105 rfl rfl (by first | exact hI_R | exact band_R | exact bor_R | exact bshr_R | exact lcm_R | omega) (fun hc => ?_) (fun hc => ?_)) <;> (first | (exfalso; omega) | skip))
        | (show Rch _ _ _ _ _ 105 _ _ _; refine Rch.blk' (Rn_mono mt _) bl_X4_groupsOf_105 (i_aload_n rfl (i_gfs rfl (i_iload rfl (i_iload rfl (t_cs3 (Rn_mono mt _) 116 rfl (Nat.le_of_ble_eq_true rfl) ?_))))))
        | (show Rch _ _ _ _ _ 116 _ _ _; refine Rch.blk' (Rn_mono mt _) bl_X4_groupsOf_116 (t_if_eq 128 119 rfl rfl (by first | exact hI_R | exact band_R | exact bor_R | exact bshr_R | exact lcm_R | omega) (fun hc => ?_) (fun hc => ?_)) <;> (first | (exfalso; omega) | skip))
        | (show Rch _ _ _ _ _ 119 _ _ _; refine Rch.blk' (Rn_mono mt _) bl_X4_groupsOf_119 (i_iload rfl (i_iconst k_1 (i_iload rfl (i_ishl (i_ior (i_istore5 trivial (t_none ?_))))))))
        | (show Rch _ _ _ _ _ 128 _ _ _; refine Rch.blk' (Rn_mono mt _) bl_X4_groupsOf_128 (i_iinc8 trivial k_1 (t_goto 70 rfl ?_)))
        | (show Rch _ _ _ _ _ 134 _ _ _; refine Rch.blk' (Rn_mono mt _) bl_X4_groupsOf_134 (i_iinc7 trivial k_1 (t_goto 56 rfl ?_)))
        | (show Rch _ _ _ _ _ 140 _ _ _; refine Rch.blk' (Rn_mono mt _) bl_X4_groupsOf_140 (i_iinc6 trivial k_1 (t_goto 46 rfl ?_)))
        | (show Rch _ _ _ _ _ 146 _ _ _; refine Rch.blk' (Rn_mono mt _) bl_X4_groupsOf_146 (i_iload_n rfl (i_iload rfl (i_iconst k_m1 (i_ixor (i_iand (i_istore2 trivial (i_iinc3 trivial k_1 (t_none ?_)))))))))
        | (show Rch _ _ _ _ _ 156 _ _ _; refine Rch.blk' (Rn_mono mt _) bl_X4_groupsOf_156 (i_iinc4 trivial k_1 (t_goto 14 rfl ?_)))
        | (show Rch _ _ _ _ _ 162 _ _ _; refine Rch.blk' (Rn_mono mt _) bl_X4_groupsOf_162 (i_iload_n rfl (t_iret ?_))))
  have kz := key 0 (by omega) (by omega) none none none none
  have e0 : BT (fun i => OS G s i ∧ ¬ GSs G s 0 i) = BT (OS G s) := BT_ext (fun i _ _ => ⟨fun z => z.1, fun z => ⟨z, fun w => w⟩⟩)
  rw [e0] at kz
  clear key
  repeat' (first
    | exact kz
    | (show Rn _ _ 134 _ _ _; refine c_X4_ofSide (by assumption) (by assumption) (by first | omega | exact hI_R) ?_)
    | (show Rn _ _ 115 _ _ _; refine c_X4_has (by omega) (by omega) (fun _ => ?_) (fun _ => ?_))
    | (show Rn _ _ 131 _ _ _; refine c_X4_doesHear (by assumption) (by assumption) (by omega) (by omega) (by omega) (by omega) (by omega) (fun _ => ?_) (fun _ => ?_))
    | (show Rch _ _ _ _ _ 0 _ _ _; refine Rch.blk' (Rn_mono mt _) bl_X4_groupsOf_0 (i_aload_n rfl (i_gfs rfl (i_iload_n rfl (t_cs2 (Rn_mono mt _) 8 rfl (Nat.le_of_ble_eq_true rfl) ?_)))))
    | (show Rch _ _ _ _ _ 8 _ _ _; refine Rch.blk' (Rn_mono mt _) bl_X4_groupsOf_8 (i_istore2 trivial (i_iconst k_0 (i_istore3 trivial (i_iconst k_0 (i_istore4 trivial (t_none ?_)))))))
    | (show Rch _ _ _ _ _ 25 _ _ _; refine Rch.blk' (Rn_mono mt _) bl_X4_groupsOf_25 (i_iload_n rfl (i_iload rfl (t_cs2 (Rn_mono mt _) 31 rfl (Nat.le_of_ble_eq_true rfl) ?_))))
    | (show Rch _ _ _ _ _ 31 _ _ _; refine Rch.blk' (Rn_mono mt _) bl_X4_groupsOf_31 (t_if_ne 37 34 rfl rfl (by first | exact hI_R | exact band_R | exact bor_R | exact bshr_R | exact lcm_R | omega) (fun hc => ?_) (fun hc => ?_)) <;> (first | (exfalso; omega) | skip))
    | (show Rch _ _ _ _ _ 34 _ _ _; refine Rch.blk' (Rn_mono mt _) bl_X4_groupsOf_34 (t_goto 156 rfl ?_))
    | (show Rch _ _ _ _ _ 37 _ _ _; refine Rch.blk' (Rn_mono mt _) bl_X4_groupsOf_37 (i_iconst k_1 (i_iload rfl (i_ishl (i_istore5 trivial (i_iconst k_0 (i_istore6 trivial (t_none ?_))))))))
    | (show Rch _ _ _ _ _ 46 _ _ _; refine Rch.blk' (Rn_mono mt _) bl_X4_groupsOf_46 (i_iload rfl (i_bipush k_10 (t_ic_ge 146 53 rfl rfl (by first | exact hI_R | exact band_R | exact bor_R | exact bshr_R | exact lcm_R | omega) (by first | exact hI_R | exact band_R | exact bor_R | exact bshr_R | exact lcm_R | omega) (fun hc => ?_) (fun hc => ?_)))) <;> (first | (exfalso; omega) | skip))
    | (show Rch _ _ _ _ _ 53 _ _ _; refine Rch.blk' (Rn_mono mt _) bl_X4_groupsOf_53 (i_iconst k_0 (i_istore7 trivial (t_none ?_))))
    | (show Rch _ _ _ _ _ 56 _ _ _; refine Rch.blk' (Rn_mono mt _) bl_X4_groupsOf_56 (i_iload rfl (i_aload_n rfl (i_gfs rfl (i_iconst k_0 (i_iald (n := 46) rfl (by omega) (by omega) (by omega) (t_ic_ge 140 67 rfl rfl (by first | exact hI_R | exact band_R | exact bor_R | exact bshr_R | exact lcm_R | omega) (by first | exact hI_R | exact band_R | exact bor_R | exact bshr_R | exact lcm_R | omega) (fun hc => ?_) (fun hc => ?_))))))) <;> (first | (exfalso; omega) | skip))
    | (show Rch _ _ _ _ _ 67 _ _ _; refine Rch.blk' (Rn_mono mt _) bl_X4_groupsOf_67 (i_iconst k_0 (i_istore8 trivial (t_none ?_))))
    | (show Rch _ _ _ _ _ 70 _ _ _; refine Rch.blk' (Rn_mono mt _) bl_X4_groupsOf_70 (i_iload rfl (i_aload_n rfl (i_gfs rfl (i_iconst k_0 (i_iald (n := 46) rfl (by omega) (by omega) (by omega) (t_ic_ge 134 81 rfl rfl (by first | exact hI_R | exact band_R | exact bor_R | exact bshr_R | exact lcm_R | omega) (by first | exact hI_R | exact band_R | exact bor_R | exact bshr_R | exact lcm_R | omega) (fun hc => ?_) (fun hc => ?_))))))) <;> (first | (exfalso; omega) | skip))
    | (show Rch _ _ _ _ _ 81 _ _ _; refine Rch.blk' (Rn_mono mt _) bl_X4_groupsOf_81 (i_iload rfl (i_iload rfl (t_cs2 (Rn_mono mt _) 88 rfl (Nat.le_of_ble_eq_true rfl) ?_))))
    | (show Rch _ _ _ _ _ 88 _ _ _; refine Rch.blk' (Rn_mono mt _) bl_X4_groupsOf_88 (t_if_eq 128 91 rfl rfl (by first | exact hI_R | exact band_R | exact bor_R | exact bshr_R | exact lcm_R | omega) (fun hc => ?_) (fun hc => ?_)) <;> (first | (exfalso; omega) | skip))
    | (show Rch _ _ _ _ _ 91 _ _ _; refine Rch.blk' (Rn_mono mt _) bl_X4_groupsOf_91 (i_aload_n rfl (i_gfs rfl (i_iload rfl (i_iload rfl (t_cs3 (Rn_mono mt _) 102 rfl (Nat.le_of_ble_eq_true rfl) ?_))))))
    | (show Rch _ _ _ _ _ 102 _ _ _; refine Rch.blk' (Rn_mono mt _) bl_X4_groupsOf_102 (t_if_ne 119 105 rfl rfl (by first | exact hI_R | exact band_R | exact bor_R | exact bshr_R | exact lcm_R | omega) (fun hc => ?_) (fun hc => ?_)) <;> (first | (exfalso; omega) | skip))
    | (show Rch _ _ _ _ _ 105 _ _ _; refine Rch.blk' (Rn_mono mt _) bl_X4_groupsOf_105 (i_aload_n rfl (i_gfs rfl (i_iload rfl (i_iload rfl (t_cs3 (Rn_mono mt _) 116 rfl (Nat.le_of_ble_eq_true rfl) ?_))))))
    | (show Rch _ _ _ _ _ 116 _ _ _; refine Rch.blk' (Rn_mono mt _) bl_X4_groupsOf_116 (t_if_eq 128 119 rfl rfl (by first | exact hI_R | exact band_R | exact bor_R | exact bshr_R | exact lcm_R | omega) (fun hc => ?_) (fun hc => ?_)) <;> (first | (exfalso; omega) | skip))
    | (show Rch _ _ _ _ _ 119 _ _ _; refine Rch.blk' (Rn_mono mt _) bl_X4_groupsOf_119 (i_iload rfl (i_iconst k_1 (i_iload rfl (i_ishl (i_ior (i_istore5 trivial (t_none ?_))))))))
    | (show Rch _ _ _ _ _ 128 _ _ _; refine Rch.blk' (Rn_mono mt _) bl_X4_groupsOf_128 (i_iinc8 trivial k_1 (t_goto 70 rfl ?_)))
    | (show Rch _ _ _ _ _ 134 _ _ _; refine Rch.blk' (Rn_mono mt _) bl_X4_groupsOf_134 (i_iinc7 trivial k_1 (t_goto 56 rfl ?_)))
    | (show Rch _ _ _ _ _ 140 _ _ _; refine Rch.blk' (Rn_mono mt _) bl_X4_groupsOf_140 (i_iinc6 trivial k_1 (t_goto 46 rfl ?_)))
    | (show Rch _ _ _ _ _ 146 _ _ _; refine Rch.blk' (Rn_mono mt _) bl_X4_groupsOf_146 (i_iload_n rfl (i_iload rfl (i_iconst k_m1 (i_ixor (i_iand (i_istore2 trivial (i_iinc3 trivial k_1 (t_none ?_)))))))))
    | (show Rch _ _ _ _ _ 156 _ _ _; refine Rch.blk' (Rn_mono mt _) bl_X4_groupsOf_156 (i_iinc4 trivial k_1 (t_goto 14 rfl ?_)))
    | (show Rch _ _ _ _ _ 162 _ _ _; refine Rch.blk' (Rn_mono mt _) bl_X4_groupsOf_162 (i_iload_n rfl (t_iret ?_))))
theorem c_X4_side (hG : RR h 0 G no0 0) (hO : OKB G) {s w : Int} (hs : inR s) (hw : inR w) (hq : ∀ v h', v = vSide G s w → JY h h' → Q (some (ai (I v))) h') : Rn mt (d + 20) 175 [ar 3 0, ai (I s), ai (I w)] h Q := by
  refine Rn.intro iX4_side rfl rfl ?_
  show Rch bX4_side _ _ _ _ 0 [some (ar 3 0), some (ai (I s)), some (ai (I w)), none] [] _
  have e_w : WS G (OS G s) = WO G s := WS_OS hO s
  have e_c : cnt (OS G s) 10 = CT G s := OS_cnt hO s
  have k0 : (s = 0 ∨ s = 1) → w = 0 → Q (some (ai (I (GNs G s (nn G))))) h := fun a e => hq _ _ (by unfold vSide; rw [if_pos ⟨a, by omega, by omega⟩, if_pos e]) JY.rf
  have k1 : (s = 0 ∨ s = 1) → w = 1 → Q (some (ai (I (WS G (OS G s))))) h := fun a e => hq _ _ (by rw [e_w]; unfold vSide; rw [if_pos ⟨a, by omega, by omega⟩, if_neg (by omega), if_pos e]) JY.rf
  have k2 : (s = 0 ∨ s = 1) → w = 2 → Q (some (ai (I (vFar G s)))) h := fun a e => hq _ _ (by unfold vSide; rw [if_pos ⟨a, by omega, by omega⟩, if_neg (by omega), if_neg (by omega), if_pos e]) JY.rf
  have k3 : (s = 0 ∨ s = 1) → w = 3 → Q (some (ai (I (cnt (OS G s) 10)))) h := fun a e => hq _ _ (by rw [e_c]; unfold vSide; rw [if_pos ⟨a, by omega, by omega⟩, if_neg (by omega), if_neg (by omega), if_neg (by omega)]) JY.rf
  have k4 : ∀ v, v = -1 → ¬ ((s = 0 ∨ s = 1) ∧ 0 ≤ w ∧ w ≤ 3) → Q (some (ai (I v))) h := fun v e a => hq _ _ (by unfold vSide; rw [if_neg a]; exact e) JY.rf
  clear hq
  repeat' (first
    | (show Rn _ _ 173 _ _ _; refine c_X4_groupsOf hG hO (by omega) ?_)
    | ((with_reducible refine k0 ?_ ?_) <;> omega)
    | ((with_reducible refine k1 ?_ ?_) <;> omega)
    | ((with_reducible refine k2 ?_ ?_) <;> omega)
    | ((with_reducible refine k3 ?_ ?_) <;> omega)
    | ((with_reducible refine k4 _ ?_ ?_) <;> omega)
    | (show Rn _ _ 113 _ _ _; refine c_X4_isSide (by first | omega | exact hI_R) (fun _ => ?_) (fun _ => ?_))
    | (show Rn _ _ 105 _ _ _; refine c_X4_isIn (by first | omega | exact hI_R) (by first | omega | exact hI_R) (by first | omega | exact hI_R) (fun _ _ => ?_) (fun _ => ?_))
    | (show Rn _ _ 134 _ _ _; refine c_X4_ofSide (by assumption) (by assumption) (by first | omega | exact hI_R) ?_)
    | (show Rn _ _ 135 _ _ _; refine c_X4_worthOf (by assumption) (by assumption) (fun _ _ => ?_))
    | (show Rn _ _ 174 _ _ _; refine c_X4_farthestOf (by assumption) (by assumption) (by omega) ?_)
    | (show Rn _ _ 116 _ _ _; refine c_X4_bits (fun _ _ => ?_))
    | (show Rch _ _ _ _ _ 0 _ _ _; refine Rch.blk' (Rn_mono mt _) bl_X4_side_0 (i_iload_n rfl (t_cs1 (Rn_mono mt _) 4 rfl (Nat.le_of_ble_eq_true rfl) ?_)))
    | (show Rch _ _ _ _ _ 4 _ _ _; refine Rch.blk' (Rn_mono mt _) bl_X4_side_4 (t_if_eq 16 7 rfl rfl (by first | exact hI_R | exact band_R | exact bor_R | exact bshr_R | exact lcm_R | omega) (fun hc => ?_) (fun hc => ?_)) <;> (first | (exfalso; omega) | skip))
    | (show Rch _ _ _ _ _ 7 _ _ _; refine Rch.blk' (Rn_mono mt _) bl_X4_side_7 (i_iload_n rfl (i_iconst k_0 (i_iconst k_3 (t_cs3 (Rn_mono mt _) 13 rfl (Nat.le_of_ble_eq_true rfl) ?_)))))
    | (show Rch _ _ _ _ _ 13 _ _ _; refine Rch.blk' (Rn_mono mt _) bl_X4_side_13 (t_if_ne 18 16 rfl rfl (by first | exact hI_R | exact band_R | exact bor_R | exact bshr_R | exact lcm_R | omega) (fun hc => ?_) (fun hc => ?_)) <;> (first | (exfalso; omega) | skip))
    | (show Rch _ _ _ _ _ 16 _ _ _; refine Rch.blk' (Rn_mono mt _) bl_X4_side_16 (i_iconst k_m1 (t_iret ?_)))
    | (show Rch _ _ _ _ _ 18 _ _ _; refine Rch.blk' (Rn_mono mt _) bl_X4_side_18 (i_aload_n rfl (i_gfs rfl (i_iload_n rfl (t_cs2 (Rn_mono mt _) 26 rfl (Nat.le_of_ble_eq_true rfl) ?_)))))
    | (show Rch _ _ _ _ _ 26 _ _ _; refine Rch.blk' (Rn_mono mt _) bl_X4_side_26 (i_istore3 trivial (i_iload_n rfl (t_if_ne 39 31 rfl rfl (by first | exact hI_R | exact band_R | exact bor_R | exact bshr_R | exact lcm_R | omega) (fun hc => ?_) (fun hc => ?_)))) <;> (first | (exfalso; omega) | skip))
    | (show Rch _ _ _ _ _ 31 _ _ _; refine Rch.blk' (Rn_mono mt _) bl_X4_side_31 (i_aload_n rfl (i_iload_n rfl (t_cv2 (Rn_mono mt _) 36 rfl (Nat.le_of_ble_eq_true rfl) ?_))))
    | (show Rch _ _ _ _ _ 36 _ _ _; refine Rch.blk' (Rn_mono mt _) bl_X4_side_36 (t_goto 72 rfl ?_))
    | (show Rch _ _ _ _ _ 39 _ _ _; refine Rch.blk' (Rn_mono mt _) bl_X4_side_39 (i_iload_n rfl (i_iconst k_1 (t_ic_ne 55 44 rfl rfl (by first | exact hI_R | exact band_R | exact bor_R | exact bshr_R | exact lcm_R | omega) (by first | exact hI_R | exact band_R | exact bor_R | exact bshr_R | exact lcm_R | omega) (fun hc => ?_) (fun hc => ?_)))) <;> (first | (exfalso; omega) | skip))
    | (show Rch _ _ _ _ _ 44 _ _ _; refine Rch.blk' (Rn_mono mt _) bl_X4_side_44 (i_aload_n rfl (i_gfs rfl (i_iload_n rfl (t_cs2 (Rn_mono mt _) 52 rfl (Nat.le_of_ble_eq_true rfl) ?_)))))
    | (show Rch _ _ _ _ _ 52 _ _ _; refine Rch.blk' (Rn_mono mt _) bl_X4_side_52 (t_goto 72 rfl ?_))
    | (show Rch _ _ _ _ _ 55 _ _ _; refine Rch.blk' (Rn_mono mt _) bl_X4_side_55 (i_iload_n rfl (i_iconst k_2 (t_ic_ne 68 60 rfl rfl (by first | exact hI_R | exact band_R | exact bor_R | exact bshr_R | exact lcm_R | omega) (by first | exact hI_R | exact band_R | exact bor_R | exact bshr_R | exact lcm_R | omega) (fun hc => ?_) (fun hc => ?_)))) <;> (first | (exfalso; omega) | skip))
    | (show Rch _ _ _ _ _ 60 _ _ _; refine Rch.blk' (Rn_mono mt _) bl_X4_side_60 (i_aload_n rfl (i_iload_n rfl (t_cv2 (Rn_mono mt _) 65 rfl (Nat.le_of_ble_eq_true rfl) ?_))))
    | (show Rch _ _ _ _ _ 65 _ _ _; refine Rch.blk' (Rn_mono mt _) bl_X4_side_65 (t_goto 72 rfl ?_))
    | (show Rch _ _ _ _ _ 68 _ _ _; refine Rch.blk' (Rn_mono mt _) bl_X4_side_68 (i_iload_n rfl (t_cs1 (Rn_mono mt _) 72 rfl (Nat.le_of_ble_eq_true rfl) ?_)))
    | (show Rch _ _ _ _ _ 72 _ _ _; refine Rch.blk' (Rn_mono mt _) bl_X4_side_72 (t_iret ?_)))
end C30

