/-! DANGER, FARTHEST: both sides -/
abbrev DG (G : Bd) (s o i : Int) : Prop := sd G o = 1 - s ∧ sq G o < 36 ∧ hby G (ide G o (dy G + 1)) s ∧ ons G (ide G o (dy G + 1)) = i
def DS (G : Bd) (s k : Int) : Int → Prop := fun i => ∃ o, 0 ≤ o ∧ o < k ∧ DG G s o i
noncomputable def vDanger (G : Bd) (s : Int) : Int := if s = 0 ∨ s = 1 then BT (DS G s (nn G)) else -1
theorem DS_up1 {G : Bd} (hO : OKB G) {s k : Int} (k0 : 0 ≤ k) (h1 : sd G k = 1 - s) (h2 : sq G k < 36) (h3 : hby G (ide G k (dy G + 1)) s) : bor (BT (DS G s k)) (bshl 1 (ons G (ide G k (dy G + 1)))) = BT (DS G s (k + 1)) := by
  have g := hO.n
  have g2 : ons G (ide G k (dy G + 1)) < nn G := by
    rcases ons_c G (ide G k (dy G + 1)) with ⟨e, -⟩ | ⟨-, b, -⟩
    · have := h3.2.2.1; omega
    · exact b
  rw [b_or1 h3.2.2.1 (by omega)]
  refine BT_ext (fun i _ _ => ⟨?_, ?_⟩)
  · rintro (⟨o, o0, o1, o2⟩ | e)
    · exact ⟨o, o0, by omega, o2⟩
    · exact ⟨k, k0, by omega, h1, h2, h3, e.symm⟩
  · rintro ⟨o, o0, o1, o2⟩
    by_cases e : o = k
    · subst e; exact Or.inr o2.2.2.2.symm
    · exact Or.inl ⟨o, o0, by omega, o2⟩
theorem DS_up0 {G : Bd} {s k : Int} (h1 : ¬ (sd G k = 1 - s ∧ sq G k < 36 ∧ hby G (ide G k (dy G + 1)) s)) : BT (DS G s k) = BT (DS G s (k + 1)) := by
  refine BT_ext (fun i _ _ => ⟨?_, ?_⟩)
  · rintro ⟨o, o0, o1, o2⟩
    exact ⟨o, o0, by omega, o2⟩
  · rintro ⟨o, o0, o1, o2⟩
    by_cases e : o = k
    · subst e; exact absurd ⟨o2.1, o2.2.1, o2.2.2.1⟩ h1
    · exact ⟨o, o0, by omega, o2⟩
theorem DS_0 {G : Bd} {s : Int} : BT (DS G s 0) = 0 := BT_z.mpr (fun i _ _ ⟨o, o0, o1, _⟩ => by omega)
section C16
variable {d L : Nat} {h : Mem} {Q : Option AV → Mem → Prop} {b : Nat} {G : Bd}
theorem c_X3_danger (hG : RC h 0 G) (hO : OKB G) (hy : dy G ≤ 999) {s : Int} (hs : inR s) (hq : ∀ v h', v = vDanger G s → JX h h' → Q (some (ai (I v))) h') : Rn mt L (d + 4) 66 [ar 2 0, ai (I s)] h Q := by
  refine Rn.intro iX3_danger rfl rfl ?_
  show Rch bX3_danger _ _ _ _ 0 [some (ar 2 0), some (ai (I s)), none, none, none] [] _
  have e_n := hG.n
  have e_d := hG.d
  have e_w := @RC.w _ _ _ hG
  have g_n := hO.n
  have g_d := hO.2.2.2.1
  have kE : ∀ u, u = -1 → ¬ (s = 0 ∨ s = 1) → Q (some (ai (I u))) h := fun u e a => hq _ _ (by unfold vDanger; rw [if_neg a]; exact e) JX.rf
  have key : (s = 0 ∨ s = 1) → ∀ k : Int, k ≤ nn G → 0 ≤ k → ∀ u : Option AV, RH L bX3_danger (d + 3) Q 13 [some (ar 2 0), some (ai (I s)), some (ai (I (BT (DS G s k)))), some (ai (I k)), u] h := by
    intro s01
    refine up_ind (fun k hk ih hk0 u => ?_)
    by_cases hk1 : k < nn G
    · have ih := ih hk1 (by omega)
      have g_k := hO.pc k hk0 hk1
      have g_i := @ide_R G k (dy G + 1)
      have ih1 : ∀ (v : Int) (u : Option AV), v = ide G k (dy G + 1) → sd G k = 1 - s → sq G k < 36 → (0 ≤ v ∧ v < 36 ∧ 0 ≤ ons G v ∧ sd G (ons G v) = s) → RH L bX3_danger (d + 3) Q 13 [some (ar 2 0), some (ai (I s)), some (ai (I (bor (BT (DS G s k)) (bshl 1 (ons G v))))), some (ai (I (k + 1))), u] h := by
        intro v u e a1 a2 a3
        subst e
        rw [DS_up1 hO hk0 a1 a2 a3]; exact ih u
      have ih0 : ∀ (u : Option AV), ¬ (sd G k = 1 - s ∧ sq G k < 36) → RH L bX3_danger (d + 3) Q 13 [some (ar 2 0), some (ai (I s)), some (ai (I (BT (DS G s k)))), some (ai (I (k + 1))), u] h := by
        intro u a
        rw [DS_up0 (fun z => a ⟨z.1, z.2.1⟩)]; exact ih u
      have ih2 : ∀ (v : Int) (u : Option AV), v = ide G k (dy G + 1) → ¬ (0 ≤ v ∧ v < 36 ∧ 0 ≤ ons G v ∧ sd G (ons G v) = s) → RH L bX3_danger (d + 3) Q 13 [some (ar 2 0), some (ai (I s)), some (ai (I (BT (DS G s k)))), some (ai (I (k + 1))), u] h := by
        intro v u e a
        subst e
        rw [DS_up0 (fun z => a z.2.2)]; exact ih u
      clear ih
      refine Rch.blk' (Rn_mono mt _ _) bl_X3_danger_13 (i_iload_n rfl (i_aload_n rfl (i_gfs rfl (i_gfi rfl (t_ic_ge 96 24 rfl rfl (by first | exact hI_R | exact band_R | exact bor_R | exact bshr_R | exact lcm_R | omega | (simp (disch := omega) only [e_n]; omega)) (by first | exact hI_R | exact band_R | exact bor_R | exact bshr_R | exact lcm_R | omega | (simp (disch := omega) only [e_n]; omega)) (fun hc => ?_) (fun hc => ?_)))))) <;> (try (simp (disch := omega) only [e_n] at hc ⊢)) <;> (first | (exfalso; omega) | skip)
      repeat' (first
        | exact ih1 _ _ (by assumption) (by omega) (by omega) (by omega)
        | exact ih0 _ (by omega)
        | exact ih2 _ _ (by assumption) (by omega)
        | (show Rn _ _ _ 9 _ _ _; refine c_X3_isSide (by first | omega | exact hI_R) (fun _ => ?_) (fun _ => ?_))
        | (show Rn _ _ _ 3 _ _ _; refine c_X0_isThereOf (by assumption) (by assumption) (by first | omega | exact hI_R) (by first | omega | exact hI_R) (fun _ _ _ _ _ => ?_) (fun _ => ?_))
        | (show Rn _ _ _ 23 _ _ _; refine c_X0_ideaOf (by assumption) (by assumption) (by first | omega | exact hI_R) (by omega) (by omega) (fun _ _ _ _ _ _ _ => ?_) (fun _ => ?_))
        | (show Rn _ _ _ 6 _ _ _; refine c_X0_isHeldBy (by assumption) (by assumption) (by first | omega | exact hI_R) (by first | omega | exact hI_R) (fun _ _ _ _ _ => ?_) (fun _ => ?_))
        | (show Rch _ _ _ _ _ 0 _ _ _; refine Rch.blk' (Rn_mono mt _ _) bl_X3_danger_0 (i_iload_n rfl (t_cs1 (Rn_mono mt _ _) 4 rfl (Nat.le_of_ble_eq_true rfl) ?_)))
        | (show Rch _ _ _ _ _ 4 _ _ _; refine Rch.blk' (Rn_mono mt _ _) bl_X3_danger_4 (t_if_ne 9 7 rfl rfl (by first | exact hI_R | exact band_R | exact bor_R | exact bshr_R | exact lcm_R | omega | (simp (disch := omega) only [e_d, e_w]; omega)) (fun hc => ?_) (fun hc => ?_)) <;> (first | (exfalso; omega) | skip))
        | (show Rch _ _ _ _ _ 7 _ _ _; refine Rch.blk' (Rn_mono mt _ _) bl_X3_danger_7 (i_iconst k_m1 (t_iret ?_)))
        | (show Rch _ _ _ _ _ 9 _ _ _; refine Rch.blk' (Rn_mono mt _ _) bl_X3_danger_9 (i_iconst k_0 (i_istore2 trivial (i_iconst k_0 (i_istore3 trivial (t_none ?_))))))
        | (show Rch _ _ _ _ _ 24 _ _ _; refine Rch.blk' (Rn_mono mt _ _) bl_X3_danger_24 (i_aload_n rfl (i_gfs rfl (i_iload_n rfl (i_iconst k_1 (i_iload_n rfl (i_isub (t_cv3 (Rn_mono mt _ _) 35 rfl (Nat.le_of_ble_eq_true rfl) ?_))))))) <;> (try (simp (disch := omega) only [e_d, e_w])))
        | (show Rch _ _ _ _ _ 35 _ _ _; refine Rch.blk' (Rn_mono mt _ _) bl_X3_danger_35 (t_if_eq 58 38 rfl rfl (by first | exact hI_R | exact band_R | exact bor_R | exact bshr_R | exact lcm_R | omega | (simp (disch := omega) only [e_d, e_w]; omega)) (fun hc => ?_) (fun hc => ?_)) <;> (first | (exfalso; omega) | skip))
        | (show Rch _ _ _ _ _ 38 _ _ _; refine Rch.blk' (Rn_mono mt _ _) bl_X3_danger_38 (i_aload_n rfl (i_gfs rfl (i_iload_n rfl (i_aload_n rfl (i_gfs rfl (i_gfi rfl (i_iconst k_1 (i_iadd (t_cv3 (Rn_mono mt _ _) 55 rfl (Nat.le_of_ble_eq_true rfl) ?_))))))))) <;> (try (simp (disch := omega) only [e_d, e_w])))
        | (show Rch _ _ _ _ _ 55 _ _ _; refine Rch.blk' (Rn_mono mt _ _) bl_X3_danger_55 (t_goto 60 rfl ?_))
        | (show Rch _ _ _ _ _ 58 _ _ _; refine Rch.blk' (Rn_mono mt _ _) bl_X3_danger_58 (i_bipush k_m4 (t_none ?_)))
        | (show Rch _ _ _ _ _ 60 _ _ _; refine Rch.blk' (Rn_mono mt _ _) bl_X3_danger_60 (i_istore4 trivial (i_aload_n rfl (i_gfs rfl (i_iload rfl (i_iload_n rfl (t_cv3 (Rn_mono mt _ _) 72 rfl (Nat.le_of_ble_eq_true rfl) ?_)))))) <;> (try (simp (disch := omega) only [e_d, e_w])))
        | (show Rch _ _ _ _ _ 72 _ _ _; refine Rch.blk' (Rn_mono mt _ _) bl_X3_danger_72 (t_if_eq 90 75 rfl rfl (by first | exact hI_R | exact band_R | exact bor_R | exact bshr_R | exact lcm_R | omega | (simp (disch := omega) only [e_d, e_w]; omega)) (fun hc => ?_) (fun hc => ?_)) <;> (first | (exfalso; omega) | skip))
        | (show Rch _ _ _ _ _ 75 _ _ _; refine Rch.blk' (Rn_mono mt _ _) bl_X3_danger_75 (i_iload_n rfl (i_iconst k_1 (i_aload_n rfl (i_gfs rfl (i_gfr rfl (i_iload rfl (i_iald (n := 36) rfl (by first | omega | (simp (disch := omega) only [e_d, e_w]; omega)) (by first | omega | (simp (disch := omega) only [e_d, e_w]; omega)) (by first | omega | (simp (disch := omega) only [e_d, e_w]; omega)) (i_ishl (i_ior (i_istore2 trivial (t_none ?_))))))))))) <;> (try (simp (disch := omega) only [e_d, e_w])))
        | (show Rch _ _ _ _ _ 90 _ _ _; refine Rch.blk' (Rn_mono mt _ _) bl_X3_danger_90 (i_iinc3 trivial k_1 (t_goto 13 rfl ?_)))
        | (show Rch _ _ _ _ _ 96 _ _ _; refine Rch.blk' (Rn_mono mt _ _) bl_X3_danger_96 (i_iload_n rfl (t_iret ?_))))
    · obtain rfl : k = nn G := by omega
      have kk := hq (BT (DS G s (nn G))) h (by unfold vDanger; rw [if_pos s01]) JX.rf
      refine Rch.blk' (Rn_mono mt _ _) bl_X3_danger_13 (i_iload_n rfl (i_aload_n rfl (i_gfs rfl (i_gfi rfl (t_ic_ge 96 24 rfl rfl (by first | exact hI_R | exact band_R | exact bor_R | exact bshr_R | exact lcm_R | omega | (simp (disch := omega) only [e_n]; omega)) (by first | exact hI_R | exact band_R | exact bor_R | exact bshr_R | exact lcm_R | omega | (simp (disch := omega) only [e_n]; omega)) (fun hc => ?_) (fun hc => ?_)))))) <;> (try (simp (disch := omega) only [e_n] at hc ⊢)) <;> (first | (exfalso; omega) | skip)
      repeat' (first
        | exact kk
        | (show Rn _ _ _ 9 _ _ _; refine c_X3_isSide (by first | omega | exact hI_R) (fun _ => ?_) (fun _ => ?_))
        | (show Rn _ _ _ 3 _ _ _; refine c_X0_isThereOf (by assumption) (by assumption) (by first | omega | exact hI_R) (by first | omega | exact hI_R) (fun _ _ _ _ _ => ?_) (fun _ => ?_))
        | (show Rn _ _ _ 23 _ _ _; refine c_X0_ideaOf (by assumption) (by assumption) (by first | omega | exact hI_R) (by omega) (by omega) (fun _ _ _ _ _ _ _ => ?_) (fun _ => ?_))
        | (show Rn _ _ _ 6 _ _ _; refine c_X0_isHeldBy (by assumption) (by assumption) (by first | omega | exact hI_R) (by first | omega | exact hI_R) (fun _ _ _ _ _ => ?_) (fun _ => ?_))
        | (show Rch _ _ _ _ _ 0 _ _ _; refine Rch.blk' (Rn_mono mt _ _) bl_X3_danger_0 (i_iload_n rfl (t_cs1 (Rn_mono mt _ _) 4 rfl (Nat.le_of_ble_eq_true rfl) ?_)))
        | (show Rch _ _ _ _ _ 4 _ _ _; refine Rch.blk' (Rn_mono mt _ _) bl_X3_danger_4 (t_if_ne 9 7 rfl rfl (by first | exact hI_R | exact band_R | exact bor_R | exact bshr_R | exact lcm_R | omega) (fun hc => ?_) (fun hc => ?_)) <;> (first | (exfalso; omega) | skip))
        | (show Rch _ _ _ _ _ 7 _ _ _; refine Rch.blk' (Rn_mono mt _ _) bl_X3_danger_7 (i_iconst k_m1 (t_iret ?_)))
        | (show Rch _ _ _ _ _ 9 _ _ _; refine Rch.blk' (Rn_mono mt _ _) bl_X3_danger_9 (i_iconst k_0 (i_istore2 trivial (i_iconst k_0 (i_istore3 trivial (t_none ?_))))))
        | (show Rch _ _ _ _ _ 24 _ _ _; refine Rch.blk' (Rn_mono mt _ _) bl_X3_danger_24 (i_aload_n rfl (i_gfs rfl (i_iload_n rfl (i_iconst k_1 (i_iload_n rfl (i_isub (t_cv3 (Rn_mono mt _ _) 35 rfl (Nat.le_of_ble_eq_true rfl) ?_))))))))
        | (show Rch _ _ _ _ _ 35 _ _ _; refine Rch.blk' (Rn_mono mt _ _) bl_X3_danger_35 (t_if_eq 58 38 rfl rfl (by first | exact hI_R | exact band_R | exact bor_R | exact bshr_R | exact lcm_R | omega) (fun hc => ?_) (fun hc => ?_)) <;> (first | (exfalso; omega) | skip))
        | (show Rch _ _ _ _ _ 38 _ _ _; refine Rch.blk' (Rn_mono mt _ _) bl_X3_danger_38 (i_aload_n rfl (i_gfs rfl (i_iload_n rfl (i_aload_n rfl (i_gfs rfl (i_gfi rfl (i_iconst k_1 (i_iadd (t_cv3 (Rn_mono mt _ _) 55 rfl (Nat.le_of_ble_eq_true rfl) ?_))))))))))
        | (show Rch _ _ _ _ _ 55 _ _ _; refine Rch.blk' (Rn_mono mt _ _) bl_X3_danger_55 (t_goto 60 rfl ?_))
        | (show Rch _ _ _ _ _ 58 _ _ _; refine Rch.blk' (Rn_mono mt _ _) bl_X3_danger_58 (i_bipush k_m4 (t_none ?_)))
        | (show Rch _ _ _ _ _ 60 _ _ _; refine Rch.blk' (Rn_mono mt _ _) bl_X3_danger_60 (i_istore4 trivial (i_aload_n rfl (i_gfs rfl (i_iload rfl (i_iload_n rfl (t_cv3 (Rn_mono mt _ _) 72 rfl (Nat.le_of_ble_eq_true rfl) ?_)))))))
        | (show Rch _ _ _ _ _ 72 _ _ _; refine Rch.blk' (Rn_mono mt _ _) bl_X3_danger_72 (t_if_eq 90 75 rfl rfl (by first | exact hI_R | exact band_R | exact bor_R | exact bshr_R | exact lcm_R | omega) (fun hc => ?_) (fun hc => ?_)) <;> (first | (exfalso; omega) | skip))
        | (show Rch _ _ _ _ _ 75 _ _ _; refine Rch.blk' (Rn_mono mt _ _) bl_X3_danger_75 (i_iload_n rfl (i_iconst k_1 (i_aload_n rfl (i_gfs rfl (i_gfr rfl (i_iload rfl (i_iald (n := 36) rfl (by omega) (by omega) (by omega) (i_ishl (i_ior (i_istore2 trivial (t_none ?_))))))))))))
        | (show Rch _ _ _ _ _ 90 _ _ _; refine Rch.blk' (Rn_mono mt _ _) bl_X3_danger_90 (i_iinc3 trivial k_1 (t_goto 13 rfl ?_)))
        | (show Rch _ _ _ _ _ 96 _ _ _; refine Rch.blk' (Rn_mono mt _ _) bl_X3_danger_96 (i_iload_n rfl (t_iret ?_))))
  have key0 := fun a => key a 0 (by omega) (by omega) none
  rw [DS_0] at key0
  repeat' (first
    | exact key0 (by omega)
    | exact kE _ (by omega) (by omega)
    | (show Rn _ _ _ 9 _ _ _; refine c_X3_isSide (by first | omega | exact hI_R) (fun _ => ?_) (fun _ => ?_))
    | (show Rn _ _ _ 3 _ _ _; refine c_X0_isThereOf (by assumption) (by assumption) (by first | omega | exact hI_R) (by first | omega | exact hI_R) (fun _ _ _ _ _ => ?_) (fun _ => ?_))
    | (show Rn _ _ _ 23 _ _ _; refine c_X0_ideaOf (by assumption) (by assumption) (by first | omega | exact hI_R) (by omega) (by omega) (fun _ _ _ _ _ _ _ => ?_) (fun _ => ?_))
    | (show Rn _ _ _ 6 _ _ _; refine c_X0_isHeldBy (by assumption) (by assumption) (by first | omega | exact hI_R) (by first | omega | exact hI_R) (fun _ _ _ _ _ => ?_) (fun _ => ?_))
    | (show Rch _ _ _ _ _ 0 _ _ _; refine Rch.blk' (Rn_mono mt _ _) bl_X3_danger_0 (i_iload_n rfl (t_cs1 (Rn_mono mt _ _) 4 rfl (Nat.le_of_ble_eq_true rfl) ?_)))
    | (show Rch _ _ _ _ _ 4 _ _ _; refine Rch.blk' (Rn_mono mt _ _) bl_X3_danger_4 (t_if_ne 9 7 rfl rfl (by first | exact hI_R | exact band_R | exact bor_R | exact bshr_R | exact lcm_R | omega) (fun hc => ?_) (fun hc => ?_)) <;> (first | (exfalso; omega) | skip))
    | (show Rch _ _ _ _ _ 7 _ _ _; refine Rch.blk' (Rn_mono mt _ _) bl_X3_danger_7 (i_iconst k_m1 (t_iret ?_)))
    | (show Rch _ _ _ _ _ 9 _ _ _; refine Rch.blk' (Rn_mono mt _ _) bl_X3_danger_9 (i_iconst k_0 (i_istore2 trivial (i_iconst k_0 (i_istore3 trivial (t_none ?_))))))
    | (show Rch _ _ _ _ _ 24 _ _ _; refine Rch.blk' (Rn_mono mt _ _) bl_X3_danger_24 (i_aload_n rfl (i_gfs rfl (i_iload_n rfl (i_iconst k_1 (i_iload_n rfl (i_isub (t_cv3 (Rn_mono mt _ _) 35 rfl (Nat.le_of_ble_eq_true rfl) ?_))))))))
    | (show Rch _ _ _ _ _ 35 _ _ _; refine Rch.blk' (Rn_mono mt _ _) bl_X3_danger_35 (t_if_eq 58 38 rfl rfl (by first | exact hI_R | exact band_R | exact bor_R | exact bshr_R | exact lcm_R | omega) (fun hc => ?_) (fun hc => ?_)) <;> (first | (exfalso; omega) | skip))
    | (show Rch _ _ _ _ _ 38 _ _ _; refine Rch.blk' (Rn_mono mt _ _) bl_X3_danger_38 (i_aload_n rfl (i_gfs rfl (i_iload_n rfl (i_aload_n rfl (i_gfs rfl (i_gfi rfl (i_iconst k_1 (i_iadd (t_cv3 (Rn_mono mt _ _) 55 rfl (Nat.le_of_ble_eq_true rfl) ?_))))))))))
    | (show Rch _ _ _ _ _ 55 _ _ _; refine Rch.blk' (Rn_mono mt _ _) bl_X3_danger_55 (t_goto 60 rfl ?_))
    | (show Rch _ _ _ _ _ 58 _ _ _; refine Rch.blk' (Rn_mono mt _ _) bl_X3_danger_58 (i_bipush k_m4 (t_none ?_)))
    | (show Rch _ _ _ _ _ 60 _ _ _; refine Rch.blk' (Rn_mono mt _ _) bl_X3_danger_60 (i_istore4 trivial (i_aload_n rfl (i_gfs rfl (i_iload rfl (i_iload_n rfl (t_cv3 (Rn_mono mt _ _) 72 rfl (Nat.le_of_ble_eq_true rfl) ?_)))))))
    | (show Rch _ _ _ _ _ 72 _ _ _; refine Rch.blk' (Rn_mono mt _ _) bl_X3_danger_72 (t_if_eq 90 75 rfl rfl (by first | exact hI_R | exact band_R | exact bor_R | exact bshr_R | exact lcm_R | omega) (fun hc => ?_) (fun hc => ?_)) <;> (first | (exfalso; omega) | skip))
    | (show Rch _ _ _ _ _ 75 _ _ _; refine Rch.blk' (Rn_mono mt _ _) bl_X3_danger_75 (i_iload_n rfl (i_iconst k_1 (i_aload_n rfl (i_gfs rfl (i_gfr rfl (i_iload rfl (i_iald (n := 36) rfl (by omega) (by omega) (by omega) (i_ishl (i_ior (i_istore2 trivial (t_none ?_))))))))))))
    | (show Rch _ _ _ _ _ 90 _ _ _; refine Rch.blk' (Rn_mono mt _ _) bl_X3_danger_90 (i_iinc3 trivial k_1 (t_goto 13 rfl ?_)))
    | (show Rch _ _ _ _ _ 96 _ _ _; refine Rch.blk' (Rn_mono mt _ _) bl_X3_danger_96 (i_iload_n rfl (t_iret ?_))))
end C16


