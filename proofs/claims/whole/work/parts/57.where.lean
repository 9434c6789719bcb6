/-! WHERE FROM: both sides -/
theorem GB_c0 {C : Int → Prop} : ∀ k : Int, 0 ≤ k → (cnt C k = 0 ∧ GB C (fun _ => 0) k = -4) ∨ (0 < cnt C k ∧ 0 ≤ GB C (fun _ => 0) k) := by
  refine ind0 (Or.inl ⟨rfl, rfl⟩) (fun k k0 ih => ?_)
  have hC9 := @cnt_R C k k0
  rw [GB_up k0]
  by_cases c : C k
  · rw [cnt_u1 k0 c]
    right
    refine ⟨by omega, ?_⟩
    by_cases e : C k ∧ (GB C (fun _ => 0) k < 0 ∨ (0 : Int) < 0)
    · rw [ifp_p e]; exact k0
    · rw [ifp_n e]
      exact Int.not_lt.mp (fun z => e ⟨c, Or.inl z⟩)
  · rw [cnt_u0 k0 c, ifp_n (fun z => c z.1)]; exact ih
theorem GB_f1 {C : Int → Prop} {k : Int} (k0 : 0 ≤ k) (c : C k) : GB C (fun _ => 0) (k + 1) = if GB C (fun _ => 0) k = -4 then k else GB C (fun _ => 0) k := by
  rw [GB_up k0]
  rcases GB_R (C := C) (w := fun _ => 0) k k0 with e | ⟨e0, e1, -⟩
  · rw [ifp_p ⟨c, Or.inl (by omega)⟩, if_pos e]
  · rw [ifp_n, if_neg (by omega)]
    rintro ⟨-, z | z⟩
    · omega
    · exact absurd z (by omega)
theorem GB_f0 {C : Int → Prop} {w : Int → Int} {k : Int} (k0 : 0 ≤ k) (c : ¬ C k) : GB C w (k + 1) = GB C w k := by rw [GB_up k0, ifp_n (fun z => c z.1)]
theorem GB_l1 {C : Int → Prop} {k : Int} (k0 : 0 ≤ k) (c : C k) : GB C (fun i => i) (k + 1) = k := by
  rw [GB_up k0]
  rcases GB_R (C := C) (w := fun i => i) k k0 with e | ⟨e0, e1, -⟩
  · rw [ifp_p ⟨c, Or.inl (by omega)⟩]
  · rw [ifp_p ⟨c, Or.inr e1⟩]
def wfC (G : Bd) (S : Sv) (x p q : Int) : Prop := stC G p q ∧ tolC (mov G p q) S x p 1
noncomputable def vWhereFrom (G : Bd) (S : Sv) (x p w : Int) : Int := if (0 ≤ x ∧ x < 8) ∧ (0 ≤ p ∧ p < nn G) ∧ 0 ≤ w ∧ w ≤ 2 then (if sq G p < 36 then (if rfu S x 2 = 0 then (if w = 0 then cnt (wfC G S x p) 36 else if w = 1 then GB (wfC G S x p) (fun _ => 0) 36 else GB (wfC G S x p) (fun i => i) 36) else rfu S x 2) else -3) else -1
section C32
variable {d : Nat} {h : Mem} {Q : Option AV → Mem → Prop} {G : Bd} {S : Sv}
theorem c_X3_whereFrom (hG : RC h 0 G) (hO : OKB G) (hy : dy G ≤ 999) (hS : SC h S) (hK : OKS S) {x p w : Int} (hx : inR x) (hp : inR p) (hw : inR w) (hq : ∀ v h', v = vWhereFrom G S x p w → JX h h' → Q (some (ai (I v))) h') : Rn mt (d + 20) 85 [ar 2 0, ai (I x), ai (I p), ai (I w)] h Q := by
  refine Rn.intro iX3_whereFrom rfl rfl ?_
  show Rch bX3_whereFrom _ _ _ _ 0 [some (ar 2 0), some (ai (I x)), some (ai (I p)), some (ai (I w)), none, none, none, none, none, none] [] _
  have g_n := hO.n
  have g_p := hO.pc p
  have k1 : ∀ u, u = -1 → ¬ ((0 ≤ x ∧ x < 8) ∧ (0 ≤ p ∧ p < nn G) ∧ 0 ≤ w ∧ w ≤ 2) → Q (some (ai (I u))) h := fun u e a => hq _ _ (by unfold vWhereFrom; rw [if_neg a]; exact e) JX.rf
  have k2 : ∀ u, u = -3 → ((0 ≤ x ∧ x < 8) ∧ (0 ≤ p ∧ p < nn G) ∧ 0 ≤ w ∧ w ≤ 2) → ¬ sq G p < 36 → Q (some (ai (I u))) h := fun u e a c => hq _ _ (by unfold vWhereFrom; rw [if_pos a, if_neg c]; exact e) JX.rf
  have k3 : ∀ u, u = rfu S x 2 → ¬ u = 0 → ((0 ≤ x ∧ x < 8) ∧ (0 ≤ p ∧ p < nn G) ∧ 0 ≤ w ∧ w ≤ 2) → sq G p < 36 → Q (some (ai (I u))) h := fun u e f a c => hq _ _ (by unfold vWhereFrom; rw [if_pos a, if_pos c, if_neg (by omega)]; exact e) JX.rf
  have key : ((0 ≤ x ∧ x < 8) ∧ (0 ≤ p ∧ p < nn G) ∧ 0 ≤ w ∧ w ≤ 2) → sq G p < 36 → ho S x = 2 → ∀ k : Int, k ≤ 36 → 0 ≤ k → ∀ h', FrC h h' 2 → RH bX3_whereFrom (d + 19) Q 78 [some (ar 2 0), some (ai (I x)), some (ai (I p)), some (ai (I w)), some (ar 1 x.toNat), some (ai (I 0)), some (ai (I (cnt (wfC G S x p) k))), some (ai (I (GB (wfC G S x p) (fun _ => 0) k))), some (ai (I (GB (wfC G S x p) (fun i => i) k))), some (ai (I k))] h' := by
    intro ha hb hh
    obtain ⟨⟨x0, x1⟩, ⟨p0, p1⟩, hw2⟩ := ha
    have r0 : rfu S x 2 = 0 := by unfold rfu; rw [if_pos ⟨x0, x1⟩, if_neg (by omega), if_pos hh]
    refine up_ind (fun k hk ih hk0 h' hF => ?_)
    have hR := hG.fr hF (by decide)
    have g_F := GB_R (C := wfC G S x p) (w := fun _ => 0) k hk0
    have g_F : GB (wfC G S x p) (fun _ => 0) k = -4 ∨ (0 ≤ GB (wfC G S x p) (fun _ => 0) k ∧ GB (wfC G S x p) (fun _ => 0) k < k) := g_F.elim Or.inl (fun z => Or.inr ⟨z.1, z.2.1⟩)
    by_cases hk1 : k < 36
    · have ih := ih hk1 (by omega)
      have ih1 : wfC G S x p k → ∀ h2, FrC h h2 2 → ∀ l, l = (if GB (wfC G S x p) (fun _ => 0) k = -4 then k else GB (wfC G S x p) (fun _ => 0) k) → RH bX3_whereFrom (d + 19) Q 78 [some (ar 2 0), some (ai (I x)), some (ai (I p)), some (ai (I w)), some (ar 1 x.toNat), some (ai (I 0)), some (ai (I (cnt (wfC G S x p) k + 1))), some (ai (I l)), some (ai (I k)), some (ai (I (k + 1)))] h2 := fun c h2 a l e => by
        have := ih h2 a
        rw [cnt_u1 hk0 c, GB_f1 hk0 c, GB_l1 hk0 c, ← e] at this
        exact this
      have ih0 : ¬ wfC G S x p k → ∀ h2, FrC h h2 2 → RH bX3_whereFrom (d + 19) Q 78 [some (ar 2 0), some (ai (I x)), some (ai (I p)), some (ai (I w)), some (ar 1 x.toNat), some (ai (I 0)), some (ai (I (cnt (wfC G S x p) k))), some (ai (I (GB (wfC G S x p) (fun _ => 0) k))), some (ai (I (GB (wfC G S x p) (fun i => i) k))), some (ai (I (k + 1)))] h2 := fun c h2 a => by
        have := ih h2 a
        rw [cnt_u0 hk0 c, GB_f0 hk0 c, GB_f0 hk0 c] at this
        exact this
      clear ih hq k1 k2 k3
      refine Rch.blk' (Rn_mono mt _) bl_X3_whereFrom_78 (i_iload rfl (i_bipush k_36 (t_ic_ge 135 85 rfl rfl (by first | exact hI_R | exact band_R | exact bor_R | exact bshr_R | exact lcm_R | omega) (by first | exact hI_R | exact band_R | exact bor_R | exact bshr_R | exact lcm_R | omega) (fun hc => ?_) (fun hc => ?_)))) <;> (first | (exfalso; omega) | skip)
      refine Rch.blk' (Rn_mono mt _) bl_X3_whereFrom_85 (i_aload_n rfl (i_iload_n rfl (i_iload rfl (t_cv3 (Rn_mono mt _) 92 rfl (Nat.le_of_ble_eq_true rfl) ?_))))
      refine c_X3_placeInMind hR hO p0 p1 hk0 hk1 (fun hC9 h2 hG2 hF2 => ?_) (fun hC9 h2 hG2 hF2 => ?_)
      · have hO2 := OKB_st hO hk0 hk1 hC9
        have hS2 : SC h2 S := hS.fr (fun t b j ht => (hF.tr hF2) t b j (by omega))
        refine Rch.blk' (Rn_mono mt _) bl_X3_whereFrom_92 (t_if_eq 129 95 rfl rfl (by first | exact hI_R | exact band_R | exact bor_R | exact bshr_R | exact lcm_R | omega) (fun hc => ?_) (fun hc => ?_)) <;> (first | (exfalso; omega) | skip)
        refine Rch.blk' (Rn_mono mt _) bl_X3_whereFrom_95 (i_aload_n rfl (i_iload_n rfl (i_aload rfl (i_iconst k_1 (t_cv4 (Rn_mono mt _) 103 rfl (Nat.le_of_ble_eq_true rfl) ?_)))))
        refine c_X3_wentAsTold (f := 1) hG2 hO2 hS2 hK x0 x1 hh p0 p1 (Or.inr rfl) (show dy G < 800000 by omega) (fun c h3 hF3 => ?_) (fun c h3 hF3 => ?_)
        · have i1 := ih1 ⟨hC9, c⟩ h3 ((hF.tr hF2).tr hF3)
          clear ih1 ih0
          repeat' (first
            | ((with_reducible refine i1 _ ?_) <;> omega)
            | (show Rn _ _ 57 _ _ _; refine c_X3_shelfAt (by first | omega | exact hI_R) (fun _ _ => ?_) (fun _ => ?_))
            | (show Rn _ _ 1 _ _ _; refine c_X0_has (by assumption) (by assumption) (by first | omega | exact hI_R) (fun _ _ => ?_) (fun _ => ?_))
            | (show Rn _ _ 2 _ _ _; refine c_X0_isThere (by assumption) (by assumption) (by first | omega | exact hI_R) (fun _ _ _ _ => ?_) (fun _ => ?_))
            | (show Rn _ _ 58 _ _ _; refine c_X3_refusalUnless_n ?_)
            | (show Rn _ _ 58 _ _ _; refine c_X3_refusalUnless_s (by assumption) (by omega) (by assumption) (by assumption) (fun _ => ?_) (fun _ _ => ?_) (fun _ _ => ?_))
            | (show Rch _ _ _ _ _ 0 _ _ _; refine Rch.blk' (Rn_mono mt _) bl_X3_whereFrom_0 (i_aload_n rfl (i_iload_n rfl (t_cv2 (Rn_mono mt _) 5 rfl (Nat.le_of_ble_eq_true rfl) ?_))))
            | (show Rch _ _ _ _ _ 5 _ _ _; refine Rch.blk' (Rn_mono mt _) bl_X3_whereFrom_5 (i_astore4 trivial (i_aload rfl (t_ifnull_n 32 rfl ?_))))
            | (show Rch _ _ _ _ _ 5 _ _ _; refine Rch.blk' (Rn_mono mt _) bl_X3_whereFrom_5 (i_astore4 trivial (i_aload rfl (t_ifnull_s 12 rfl ?_))))
            | (show Rch _ _ _ _ _ 12 _ _ _; refine Rch.blk' (Rn_mono mt _) bl_X3_whereFrom_12 (i_aload_n rfl (i_gfs rfl (i_iload_n rfl (t_cv2 (Rn_mono mt _) 20 rfl (Nat.le_of_ble_eq_true rfl) ?_)))))
            | (show Rch _ _ _ _ _ 20 _ _ _; refine Rch.blk' (Rn_mono mt _) bl_X3_whereFrom_20 (t_if_eq 32 23 rfl rfl (by first | exact hI_R | exact band_R | exact bor_R | exact bshr_R | exact lcm_R | omega) (fun hc => ?_) (fun hc => ?_)) <;> (first | (exfalso; omega) | skip))
            | (show Rch _ _ _ _ _ 23 _ _ _; refine Rch.blk' (Rn_mono mt _) bl_X3_whereFrom_23 (i_iload_n rfl (t_if_lt 32 27 rfl rfl (by first | exact hI_R | exact band_R | exact bor_R | exact bshr_R | exact lcm_R | omega) (fun hc => ?_) (fun hc => ?_))) <;> (first | (exfalso; omega) | skip))
            | (show Rch _ _ _ _ _ 27 _ _ _; refine Rch.blk' (Rn_mono mt _) bl_X3_whereFrom_27 (i_iload_n rfl (i_iconst k_2 (t_ic_le 34 32 rfl rfl (by first | exact hI_R | exact band_R | exact bor_R | exact bshr_R | exact lcm_R | omega) (by first | exact hI_R | exact band_R | exact bor_R | exact bshr_R | exact lcm_R | omega) (fun hc => ?_) (fun hc => ?_)))) <;> (first | (exfalso; omega) | skip))
            | (show Rch _ _ _ _ _ 32 _ _ _; refine Rch.blk' (Rn_mono mt _) bl_X3_whereFrom_32 (i_iconst k_m1 (t_iret ?_)))
            | (show Rch _ _ _ _ _ 34 _ _ _; refine Rch.blk' (Rn_mono mt _) bl_X3_whereFrom_34 (i_aload_n rfl (i_gfs rfl (i_iload_n rfl (t_cv2 (Rn_mono mt _) 42 rfl (Nat.le_of_ble_eq_true rfl) ?_)))))
            | (show Rch _ _ _ _ _ 42 _ _ _; refine Rch.blk' (Rn_mono mt _) bl_X3_whereFrom_42 (t_if_ne 48 45 rfl rfl (by first | exact hI_R | exact band_R | exact bor_R | exact bshr_R | exact lcm_R | omega) (fun hc => ?_) (fun hc => ?_)) <;> (first | (exfalso; omega) | skip))
            | (show Rch _ _ _ _ _ 45 _ _ _; refine Rch.blk' (Rn_mono mt _) bl_X3_whereFrom_45 (i_bipush k_m3 (t_iret ?_)))
            | (show Rch _ _ _ _ _ 48 _ _ _; refine Rch.blk' (Rn_mono mt _) bl_X3_whereFrom_48 (i_aload rfl (i_iconst k_2 (t_cs2 (Rn_mono mt _) 54 rfl (Nat.le_of_ble_eq_true rfl) ?_))))
            | (show Rch _ _ _ _ _ 54 _ _ _; refine Rch.blk' (Rn_mono mt _) bl_X3_whereFrom_54 (i_istore5 trivial (i_iload rfl (t_if_eq 64 61 rfl rfl (by first | exact hI_R | exact band_R | exact bor_R | exact bshr_R | exact lcm_R | omega) (fun hc => ?_) (fun hc => ?_)))) <;> (first | (exfalso; omega) | skip))
            | (show Rch _ _ _ _ _ 61 _ _ _; refine Rch.blk' (Rn_mono mt _) bl_X3_whereFrom_61 (i_iload rfl (t_iret ?_)))
            | (show Rch _ _ _ _ _ 64 _ _ _; refine Rch.blk' (Rn_mono mt _) bl_X3_whereFrom_64 (i_iconst k_0 (i_istore6 trivial (i_bipush k_m4 (i_istore7 trivial (i_bipush k_m4 (i_istore8 trivial (i_iconst k_0 (i_istore9 trivial (t_none ?_))))))))))
            | (show Rch _ _ _ _ _ 85 _ _ _; refine Rch.blk' (Rn_mono mt _) bl_X3_whereFrom_85 (i_aload_n rfl (i_iload_n rfl (i_iload rfl (t_cv3 (Rn_mono mt _) 92 rfl (Nat.le_of_ble_eq_true rfl) ?_)))))
            | (show Rch _ _ _ _ _ 92 _ _ _; refine Rch.blk' (Rn_mono mt _) bl_X3_whereFrom_92 (t_if_eq 129 95 rfl rfl (by first | exact hI_R | exact band_R | exact bor_R | exact bshr_R | exact lcm_R | omega) (fun hc => ?_) (fun hc => ?_)) <;> (first | (exfalso; omega) | skip))
            | (show Rch _ _ _ _ _ 95 _ _ _; refine Rch.blk' (Rn_mono mt _) bl_X3_whereFrom_95 (i_aload_n rfl (i_iload_n rfl (i_aload rfl (i_iconst k_1 (t_cv4 (Rn_mono mt _) 103 rfl (Nat.le_of_ble_eq_true rfl) ?_))))))
            | (show Rch _ _ _ _ _ 103 _ _ _; refine Rch.blk' (Rn_mono mt _) bl_X3_whereFrom_103 (t_if_eq 129 106 rfl rfl (by first | exact hI_R | exact band_R | exact bor_R | exact bshr_R | exact lcm_R | omega) (fun hc => ?_) (fun hc => ?_)) <;> (first | (exfalso; omega) | skip))
            | (show Rch _ _ _ _ _ 106 _ _ _; refine Rch.blk' (Rn_mono mt _) bl_X3_whereFrom_106 (i_iinc6 trivial k_1 (i_iload rfl (i_bipush k_m4 (t_ic_ne 121 116 rfl rfl (by first | exact hI_R | exact band_R | exact bor_R | exact bshr_R | exact lcm_R | omega) (by first | exact hI_R | exact band_R | exact bor_R | exact bshr_R | exact lcm_R | omega) (fun hc => ?_) (fun hc => ?_))))) <;> (first | (exfalso; omega) | skip))
            | (show Rch _ _ _ _ _ 116 _ _ _; refine Rch.blk' (Rn_mono mt _) bl_X3_whereFrom_116 (i_iload rfl (t_goto 123 rfl ?_)))
            | (show Rch _ _ _ _ _ 121 _ _ _; refine Rch.blk' (Rn_mono mt _) bl_X3_whereFrom_121 (i_iload rfl (t_none ?_)))
            | (show Rch _ _ _ _ _ 123 _ _ _; refine Rch.blk' (Rn_mono mt _) bl_X3_whereFrom_123 (i_istore7 trivial (i_iload rfl (i_istore8 trivial (t_none ?_)))))
            | (show Rch _ _ _ _ _ 129 _ _ _; refine Rch.blk' (Rn_mono mt _) bl_X3_whereFrom_129 (i_iinc9 trivial k_1 (t_goto 78 rfl ?_)))
            | (show Rch _ _ _ _ _ 135 _ _ _; refine Rch.blk' (Rn_mono mt _) bl_X3_whereFrom_135 (i_iload_n rfl (t_if_ne 142 139 rfl rfl (by first | exact hI_R | exact band_R | exact bor_R | exact bshr_R | exact lcm_R | omega) (fun hc => ?_) (fun hc => ?_))) <;> (first | (exfalso; omega) | skip))
            | (show Rch _ _ _ _ _ 139 _ _ _; refine Rch.blk' (Rn_mono mt _) bl_X3_whereFrom_139 (i_iload rfl (t_iret ?_)))
            | (show Rch _ _ _ _ _ 142 _ _ _; refine Rch.blk' (Rn_mono mt _) bl_X3_whereFrom_142 (i_iload_n rfl (i_iconst k_1 (t_ic_ne 152 147 rfl rfl (by first | exact hI_R | exact band_R | exact bor_R | exact bshr_R | exact lcm_R | omega) (by first | exact hI_R | exact band_R | exact bor_R | exact bshr_R | exact lcm_R | omega) (fun hc => ?_) (fun hc => ?_)))) <;> (first | (exfalso; omega) | skip))
            | (show Rch _ _ _ _ _ 147 _ _ _; refine Rch.blk' (Rn_mono mt _) bl_X3_whereFrom_147 (i_iload rfl (t_goto 154 rfl ?_)))
            | (show Rch _ _ _ _ _ 152 _ _ _; refine Rch.blk' (Rn_mono mt _) bl_X3_whereFrom_152 (i_iload rfl (t_none ?_)))
            | (show Rch _ _ _ _ _ 154 _ _ _; refine Rch.blk' (Rn_mono mt _) bl_X3_whereFrom_154 (t_iret ?_)))
        · have i0 := ih0 (fun z => c z.2) h3 ((hF.tr hF2).tr hF3)
          clear ih1 ih0
          repeat' (first
            | exact i0
            | (show Rn _ _ 57 _ _ _; refine c_X3_shelfAt (by first | omega | exact hI_R) (fun _ _ => ?_) (fun _ => ?_))
            | (show Rn _ _ 1 _ _ _; refine c_X0_has (by assumption) (by assumption) (by first | omega | exact hI_R) (fun _ _ => ?_) (fun _ => ?_))
            | (show Rn _ _ 2 _ _ _; refine c_X0_isThere (by assumption) (by assumption) (by first | omega | exact hI_R) (fun _ _ _ _ => ?_) (fun _ => ?_))
            | (show Rn _ _ 58 _ _ _; refine c_X3_refusalUnless_n ?_)
            | (show Rn _ _ 58 _ _ _; refine c_X3_refusalUnless_s (by assumption) (by omega) (by assumption) (by assumption) (fun _ => ?_) (fun _ _ => ?_) (fun _ _ => ?_))
            | (show Rch _ _ _ _ _ 0 _ _ _; refine Rch.blk' (Rn_mono mt _) bl_X3_whereFrom_0 (i_aload_n rfl (i_iload_n rfl (t_cv2 (Rn_mono mt _) 5 rfl (Nat.le_of_ble_eq_true rfl) ?_))))
            | (show Rch _ _ _ _ _ 5 _ _ _; refine Rch.blk' (Rn_mono mt _) bl_X3_whereFrom_5 (i_astore4 trivial (i_aload rfl (t_ifnull_n 32 rfl ?_))))
            | (show Rch _ _ _ _ _ 5 _ _ _; refine Rch.blk' (Rn_mono mt _) bl_X3_whereFrom_5 (i_astore4 trivial (i_aload rfl (t_ifnull_s 12 rfl ?_))))
            | (show Rch _ _ _ _ _ 12 _ _ _; refine Rch.blk' (Rn_mono mt _) bl_X3_whereFrom_12 (i_aload_n rfl (i_gfs rfl (i_iload_n rfl (t_cv2 (Rn_mono mt _) 20 rfl (Nat.le_of_ble_eq_true rfl) ?_)))))
            | (show Rch _ _ _ _ _ 20 _ _ _; refine Rch.blk' (Rn_mono mt _) bl_X3_whereFrom_20 (t_if_eq 32 23 rfl rfl (by first | exact hI_R | exact band_R | exact bor_R | exact bshr_R | exact lcm_R | omega) (fun hc => ?_) (fun hc => ?_)) <;> (first | (exfalso; omega) | skip))
            | (show Rch _ _ _ _ _ 23 _ _ _; refine Rch.blk' (Rn_mono mt _) bl_X3_whereFrom_23 (i_iload_n rfl (t_if_lt 32 27 rfl rfl (by first | exact hI_R | exact band_R | exact bor_R | exact bshr_R | exact lcm_R | omega) (fun hc => ?_) (fun hc => ?_))) <;> (first | (exfalso; omega) | skip))
            | (show Rch _ _ _ _ _ 27 _ _ _; refine Rch.blk' (Rn_mono mt _) bl_X3_whereFrom_27 (i_iload_n rfl (i_iconst k_2 (t_ic_le 34 32 rfl rfl (by first | exact hI_R | exact band_R | exact bor_R | exact bshr_R | exact lcm_R | omega) (by first | exact hI_R | exact band_R | exact bor_R | exact bshr_R | exact lcm_R | omega) (fun hc => ?_) (fun hc => ?_)))) <;> (first | (exfalso; omega) | skip))
            | (show Rch _ _ _ _ _ 32 _ _ _; refine Rch.blk' (Rn_mono mt _) bl_X3_whereFrom_32 (i_iconst k_m1 (t_iret ?_)))
            | (show Rch _ _ _ _ _ 34 _ _ _; refine Rch.blk' (Rn_mono mt _) bl_X3_whereFrom_34 (i_aload_n rfl (i_gfs rfl (i_iload_n rfl (t_cv2 (Rn_mono mt _) 42 rfl (Nat.le_of_ble_eq_true rfl) ?_)))))
            | (show Rch _ _ _ _ _ 42 _ _ _; refine Rch.blk' (Rn_mono mt _) bl_X3_whereFrom_42 (t_if_ne 48 45 rfl rfl (by first | exact hI_R | exact band_R | exact bor_R | exact bshr_R | exact lcm_R | omega) (fun hc => ?_) (fun hc => ?_)) <;> (first | (exfalso; omega) | skip))
            | (show Rch _ _ _ _ _ 45 _ _ _; refine Rch.blk' (Rn_mono mt _) bl_X3_whereFrom_45 (i_bipush k_m3 (t_iret ?_)))
            | (show Rch _ _ _ _ _ 48 _ _ _; refine Rch.blk' (Rn_mono mt _) bl_X3_whereFrom_48 (i_aload rfl (i_iconst k_2 (t_cs2 (Rn_mono mt _) 54 rfl (Nat.le_of_ble_eq_true rfl) ?_))))
            | (show Rch _ _ _ _ _ 54 _ _ _; refine Rch.blk' (Rn_mono mt _) bl_X3_whereFrom_54 (i_istore5 trivial (i_iload rfl (t_if_eq 64 61 rfl rfl (by first | exact hI_R | exact band_R | exact bor_R | exact bshr_R | exact lcm_R | omega) (fun hc => ?_) (fun hc => ?_)))) <;> (first | (exfalso; omega) | skip))
            | (show Rch _ _ _ _ _ 61 _ _ _; refine Rch.blk' (Rn_mono mt _) bl_X3_whereFrom_61 (i_iload rfl (t_iret ?_)))
            | (show Rch _ _ _ _ _ 64 _ _ _; refine Rch.blk' (Rn_mono mt _) bl_X3_whereFrom_64 (i_iconst k_0 (i_istore6 trivial (i_bipush k_m4 (i_istore7 trivial (i_bipush k_m4 (i_istore8 trivial (i_iconst k_0 (i_istore9 trivial (t_none ?_))))))))))
            | (show Rch _ _ _ _ _ 85 _ _ _; refine Rch.blk' (Rn_mono mt _) bl_X3_whereFrom_85 (i_aload_n rfl (i_iload_n rfl (i_iload rfl (t_cv3 (Rn_mono mt _) 92 rfl (Nat.le_of_ble_eq_true rfl) ?_)))))
            | (show Rch _ _ _ _ _ 92 _ _ _; refine Rch.blk' (Rn_mono mt _) bl_X3_whereFrom_92 (t_if_eq 129 95 rfl rfl (by first | exact hI_R | exact band_R | exact bor_R | exact bshr_R | exact lcm_R | omega) (fun hc => ?_) (fun hc => ?_)) <;> (first | (exfalso; omega) | skip))
            | (show Rch _ _ _ _ _ 95 _ _ _; refine Rch.blk' (Rn_mono mt _) bl_X3_whereFrom_95 (i_aload_n rfl (i_iload_n rfl (i_aload rfl (i_iconst k_1 (t_cv4 (Rn_mono mt _) 103 rfl (Nat.le_of_ble_eq_true rfl) ?_))))))
            | (show Rch _ _ _ _ _ 103 _ _ _; refine Rch.blk' (Rn_mono mt _) bl_X3_whereFrom_103 (t_if_eq 129 106 rfl rfl (by first | exact hI_R | exact band_R | exact bor_R | exact bshr_R | exact lcm_R | omega) (fun hc => ?_) (fun hc => ?_)) <;> (first | (exfalso; omega) | skip))
            | (show Rch _ _ _ _ _ 106 _ _ _; refine Rch.blk' (Rn_mono mt _) bl_X3_whereFrom_106 (i_iinc6 trivial k_1 (i_iload rfl (i_bipush k_m4 (t_ic_ne 121 116 rfl rfl (by first | exact hI_R | exact band_R | exact bor_R | exact bshr_R | exact lcm_R | omega) (by first | exact hI_R | exact band_R | exact bor_R | exact bshr_R | exact lcm_R | omega) (fun hc => ?_) (fun hc => ?_))))) <;> (first | (exfalso; omega) | skip))
            | (show Rch _ _ _ _ _ 116 _ _ _; refine Rch.blk' (Rn_mono mt _) bl_X3_whereFrom_116 (i_iload rfl (t_goto 123 rfl ?_)))
            | (show Rch _ _ _ _ _ 121 _ _ _; refine Rch.blk' (Rn_mono mt _) bl_X3_whereFrom_121 (i_iload rfl (t_none ?_)))
            | (show Rch _ _ _ _ _ 123 _ _ _; refine Rch.blk' (Rn_mono mt _) bl_X3_whereFrom_123 (i_istore7 trivial (i_iload rfl (i_istore8 trivial (t_none ?_)))))
            | (show Rch _ _ _ _ _ 129 _ _ _; refine Rch.blk' (Rn_mono mt _) bl_X3_whereFrom_129 (i_iinc9 trivial k_1 (t_goto 78 rfl ?_)))
            | (show Rch _ _ _ _ _ 135 _ _ _; refine Rch.blk' (Rn_mono mt _) bl_X3_whereFrom_135 (i_iload_n rfl (t_if_ne 142 139 rfl rfl (by first | exact hI_R | exact band_R | exact bor_R | exact bshr_R | exact lcm_R | omega) (fun hc => ?_) (fun hc => ?_))) <;> (first | (exfalso; omega) | skip))
            | (show Rch _ _ _ _ _ 139 _ _ _; refine Rch.blk' (Rn_mono mt _) bl_X3_whereFrom_139 (i_iload rfl (t_iret ?_)))
            | (show Rch _ _ _ _ _ 142 _ _ _; refine Rch.blk' (Rn_mono mt _) bl_X3_whereFrom_142 (i_iload_n rfl (i_iconst k_1 (t_ic_ne 152 147 rfl rfl (by first | exact hI_R | exact band_R | exact bor_R | exact bshr_R | exact lcm_R | omega) (by first | exact hI_R | exact band_R | exact bor_R | exact bshr_R | exact lcm_R | omega) (fun hc => ?_) (fun hc => ?_)))) <;> (first | (exfalso; omega) | skip))
            | (show Rch _ _ _ _ _ 147 _ _ _; refine Rch.blk' (Rn_mono mt _) bl_X3_whereFrom_147 (i_iload rfl (t_goto 154 rfl ?_)))
            | (show Rch _ _ _ _ _ 152 _ _ _; refine Rch.blk' (Rn_mono mt _) bl_X3_whereFrom_152 (i_iload rfl (t_none ?_)))
            | (show Rch _ _ _ _ _ 154 _ _ _; refine Rch.blk' (Rn_mono mt _) bl_X3_whereFrom_154 (t_iret ?_)))
      · have i0 := ih0 (fun z => hC9 z.1) h2 (hF.tr hF2)
        clear ih1 ih0
        repeat' (first
          | exact i0
          | (show Rn _ _ 57 _ _ _; refine c_X3_shelfAt (by first | omega | exact hI_R) (fun _ _ => ?_) (fun _ => ?_))
          | (show Rn _ _ 1 _ _ _; refine c_X0_has (by assumption) (by assumption) (by first | omega | exact hI_R) (fun _ _ => ?_) (fun _ => ?_))
          | (show Rn _ _ 2 _ _ _; refine c_X0_isThere (by assumption) (by assumption) (by first | omega | exact hI_R) (fun _ _ _ _ => ?_) (fun _ => ?_))
          | (show Rn _ _ 58 _ _ _; refine c_X3_refusalUnless_n ?_)
          | (show Rn _ _ 58 _ _ _; refine c_X3_refusalUnless_s (by assumption) (by omega) (by assumption) (by assumption) (fun _ => ?_) (fun _ _ => ?_) (fun _ _ => ?_))
          | (show Rch _ _ _ _ _ 0 _ _ _; refine Rch.blk' (Rn_mono mt _) bl_X3_whereFrom_0 (i_aload_n rfl (i_iload_n rfl (t_cv2 (Rn_mono mt _) 5 rfl (Nat.le_of_ble_eq_true rfl) ?_))))
          | (show Rch _ _ _ _ _ 5 _ _ _; refine Rch.blk' (Rn_mono mt _) bl_X3_whereFrom_5 (i_astore4 trivial (i_aload rfl (t_ifnull_n 32 rfl ?_))))
          | (show Rch _ _ _ _ _ 5 _ _ _; refine Rch.blk' (Rn_mono mt _) bl_X3_whereFrom_5 (i_astore4 trivial (i_aload rfl (t_ifnull_s 12 rfl ?_))))
          | (show Rch _ _ _ _ _ 12 _ _ _; refine Rch.blk' (Rn_mono mt _) bl_X3_whereFrom_12 (i_aload_n rfl (i_gfs rfl (i_iload_n rfl (t_cv2 (Rn_mono mt _) 20 rfl (Nat.le_of_ble_eq_true rfl) ?_)))))
          | (show Rch _ _ _ _ _ 20 _ _ _; refine Rch.blk' (Rn_mono mt _) bl_X3_whereFrom_20 (t_if_eq 32 23 rfl rfl (by first | exact hI_R | exact band_R | exact bor_R | exact bshr_R | exact lcm_R | omega) (fun hc => ?_) (fun hc => ?_)) <;> (first | (exfalso; omega) | skip))
          | (show Rch _ _ _ _ _ 23 _ _ _; refine Rch.blk' (Rn_mono mt _) bl_X3_whereFrom_23 (i_iload_n rfl (t_if_lt 32 27 rfl rfl (by first | exact hI_R | exact band_R | exact bor_R | exact bshr_R | exact lcm_R | omega) (fun hc => ?_) (fun hc => ?_))) <;> (first | (exfalso; omega) | skip))
          | (show Rch _ _ _ _ _ 27 _ _ _; refine Rch.blk' (Rn_mono mt _) bl_X3_whereFrom_27 (i_iload_n rfl (i_iconst k_2 (t_ic_le 34 32 rfl rfl (by first | exact hI_R | exact band_R | exact bor_R | exact bshr_R | exact lcm_R | omega) (by first | exact hI_R | exact band_R | exact bor_R | exact bshr_R | exact lcm_R | omega) (fun hc => ?_) (fun hc => ?_)))) <;> (first | (exfalso; omega) | skip))
          | (show Rch _ _ _ _ _ 32 _ _ _; refine Rch.blk' (Rn_mono mt _) bl_X3_whereFrom_32 (i_iconst k_m1 (t_iret ?_)))
          | (show Rch _ _ _ _ _ 34 _ _ _; refine Rch.blk' (Rn_mono mt _) bl_X3_whereFrom_34 (i_aload_n rfl (i_gfs rfl (i_iload_n rfl (t_cv2 (Rn_mono mt _) 42 rfl (Nat.le_of_ble_eq_true rfl) ?_)))))
          | (show Rch _ _ _ _ _ 42 _ _ _; refine Rch.blk' (Rn_mono mt _) bl_X3_whereFrom_42 (t_if_ne 48 45 rfl rfl (by first | exact hI_R | exact band_R | exact bor_R | exact bshr_R | exact lcm_R | omega) (fun hc => ?_) (fun hc => ?_)) <;> (first | (exfalso; omega) | skip))
          | (show Rch _ _ _ _ _ 45 _ _ _; refine Rch.blk' (Rn_mono mt _) bl_X3_whereFrom_45 (i_bipush k_m3 (t_iret ?_)))
          | (show Rch _ _ _ _ _ 48 _ _ _; refine Rch.blk' (Rn_mono mt _) bl_X3_whereFrom_48 (i_aload rfl (i_iconst k_2 (t_cs2 (Rn_mono mt _) 54 rfl (Nat.le_of_ble_eq_true rfl) ?_))))
          | (show Rch _ _ _ _ _ 54 _ _ _; refine Rch.blk' (Rn_mono mt _) bl_X3_whereFrom_54 (i_istore5 trivial (i_iload rfl (t_if_eq 64 61 rfl rfl (by first | exact hI_R | exact band_R | exact bor_R | exact bshr_R | exact lcm_R | omega) (fun hc => ?_) (fun hc => ?_)))) <;> (first | (exfalso; omega) | skip))
          | (show Rch _ _ _ _ _ 61 _ _ _; refine Rch.blk' (Rn_mono mt _) bl_X3_whereFrom_61 (i_iload rfl (t_iret ?_)))
          | (show Rch _ _ _ _ _ 64 _ _ _; refine Rch.blk' (Rn_mono mt _) bl_X3_whereFrom_64 (i_iconst k_0 (i_istore6 trivial (i_bipush k_m4 (i_istore7 trivial (i_bipush k_m4 (i_istore8 trivial (i_iconst k_0 (i_istore9 trivial (t_none ?_))))))))))
          | (show Rch _ _ _ _ _ 85 _ _ _; refine Rch.blk' (Rn_mono mt _) bl_X3_whereFrom_85 (i_aload_n rfl (i_iload_n rfl (i_iload rfl (t_cv3 (Rn_mono mt _) 92 rfl (Nat.le_of_ble_eq_true rfl) ?_)))))
          | (show Rch _ _ _ _ _ 92 _ _ _; refine Rch.blk' (Rn_mono mt _) bl_X3_whereFrom_92 (t_if_eq 129 95 rfl rfl (by first | exact hI_R | exact band_R | exact bor_R | exact bshr_R | exact lcm_R | omega) (fun hc => ?_) (fun hc => ?_)) <;> (first | (exfalso; omega) | skip))
          | (show Rch _ _ _ _ _ 95 _ _ _; refine Rch.blk' (Rn_mono mt _) bl_X3_whereFrom_95 (i_aload_n rfl (i_iload_n rfl (i_aload rfl (i_iconst k_1 (t_cv4 (Rn_mono mt _) 103 rfl (Nat.le_of_ble_eq_true rfl) ?_))))))
          | (show Rch _ _ _ _ _ 103 _ _ _; refine Rch.blk' (Rn_mono mt _) bl_X3_whereFrom_103 (t_if_eq 129 106 rfl rfl (by first | exact hI_R | exact band_R | exact bor_R | exact bshr_R | exact lcm_R | omega) (fun hc => ?_) (fun hc => ?_)) <;> (first | (exfalso; omega) | skip))
          | (show Rch _ _ _ _ _ 106 _ _ _; refine Rch.blk' (Rn_mono mt _) bl_X3_whereFrom_106 (i_iinc6 trivial k_1 (i_iload rfl (i_bipush k_m4 (t_ic_ne 121 116 rfl rfl (by first | exact hI_R | exact band_R | exact bor_R | exact bshr_R | exact lcm_R | omega) (by first | exact hI_R | exact band_R | exact bor_R | exact bshr_R | exact lcm_R | omega) (fun hc => ?_) (fun hc => ?_))))) <;> (first | (exfalso; omega) | skip))
          | (show Rch _ _ _ _ _ 116 _ _ _; refine Rch.blk' (Rn_mono mt _) bl_X3_whereFrom_116 (i_iload rfl (t_goto 123 rfl ?_)))
          | (show Rch _ _ _ _ _ 121 _ _ _; refine Rch.blk' (Rn_mono mt _) bl_X3_whereFrom_121 (i_iload rfl (t_none ?_)))
          | (show Rch _ _ _ _ _ 123 _ _ _; refine Rch.blk' (Rn_mono mt _) bl_X3_whereFrom_123 (i_istore7 trivial (i_iload rfl (i_istore8 trivial (t_none ?_)))))
          | (show Rch _ _ _ _ _ 129 _ _ _; refine Rch.blk' (Rn_mono mt _) bl_X3_whereFrom_129 (i_iinc9 trivial k_1 (t_goto 78 rfl ?_)))
          | (show Rch _ _ _ _ _ 135 _ _ _; refine Rch.blk' (Rn_mono mt _) bl_X3_whereFrom_135 (i_iload_n rfl (t_if_ne 142 139 rfl rfl (by first | exact hI_R | exact band_R | exact bor_R | exact bshr_R | exact lcm_R | omega) (fun hc => ?_) (fun hc => ?_))) <;> (first | (exfalso; omega) | skip))
          | (show Rch _ _ _ _ _ 139 _ _ _; refine Rch.blk' (Rn_mono mt _) bl_X3_whereFrom_139 (i_iload rfl (t_iret ?_)))
          | (show Rch _ _ _ _ _ 142 _ _ _; refine Rch.blk' (Rn_mono mt _) bl_X3_whereFrom_142 (i_iload_n rfl (i_iconst k_1 (t_ic_ne 152 147 rfl rfl (by first | exact hI_R | exact band_R | exact bor_R | exact bshr_R | exact lcm_R | omega) (by first | exact hI_R | exact band_R | exact bor_R | exact bshr_R | exact lcm_R | omega) (fun hc => ?_) (fun hc => ?_)))) <;> (first | (exfalso; omega) | skip))
          | (show Rch _ _ _ _ _ 147 _ _ _; refine Rch.blk' (Rn_mono mt _) bl_X3_whereFrom_147 (i_iload rfl (t_goto 154 rfl ?_)))
          | (show Rch _ _ _ _ _ 152 _ _ _; refine Rch.blk' (Rn_mono mt _) bl_X3_whereFrom_152 (i_iload rfl (t_none ?_)))
          | (show Rch _ _ _ _ _ 154 _ _ _; refine Rch.blk' (Rn_mono mt _) bl_X3_whereFrom_154 (t_iret ?_)))
    · obtain rfl : k = 36 := by omega
      have kk : ∀ v, v = (if w = 0 then cnt (wfC G S x p) 36 else if w = 1 then GB (wfC G S x p) (fun _ => 0) 36 else GB (wfC G S x p) (fun i => i) 36) → Q (some (ai (I v))) h' := fun v e => hq _ _ (by unfold vWhereFrom; rw [if_pos ⟨⟨x0, x1⟩, ⟨p0, p1⟩, hw2⟩, if_pos hb, if_pos r0]; exact e) (hF.jx (by omega))
      clear ih hq k1 k2 k3
      refine Rch.blk' (Rn_mono mt _) bl_X3_whereFrom_78 (i_iload rfl (i_bipush k_36 (t_ic_ge 135 85 rfl rfl (by first | exact hI_R | exact band_R | exact bor_R | exact bshr_R | exact lcm_R | omega) (by first | exact hI_R | exact band_R | exact bor_R | exact bshr_R | exact lcm_R | omega) (fun hc => ?_) (fun hc => ?_)))) <;> (first | (exfalso; omega) | skip)
      repeat' (first
        | ((with_reducible refine kk _ ?_) <;> omega)
        | (show Rn _ _ 57 _ _ _; refine c_X3_shelfAt (by first | omega | exact hI_R) (fun _ _ => ?_) (fun _ => ?_))
        | (show Rn _ _ 1 _ _ _; refine c_X0_has (by assumption) (by assumption) (by first | omega | exact hI_R) (fun _ _ => ?_) (fun _ => ?_))
        | (show Rn _ _ 2 _ _ _; refine c_X0_isThere (by assumption) (by assumption) (by first | omega | exact hI_R) (fun _ _ _ _ => ?_) (fun _ => ?_))
        | (show Rn _ _ 58 _ _ _; refine c_X3_refusalUnless_n ?_)
        | (show Rn _ _ 58 _ _ _; refine c_X3_refusalUnless_s (by assumption) (by omega) (by assumption) (by assumption) (fun _ => ?_) (fun _ _ => ?_) (fun _ _ => ?_))
        | (show Rch _ _ _ _ _ 0 _ _ _; refine Rch.blk' (Rn_mono mt _) bl_X3_whereFrom_0 (i_aload_n rfl (i_iload_n rfl (t_cv2 (Rn_mono mt _) 5 rfl (Nat.le_of_ble_eq_true rfl) ?_))))
        | (show Rch _ _ _ _ _ 5 _ _ _; refine Rch.blk' (Rn_mono mt _) bl_X3_whereFrom_5 (i_astore4 trivial (i_aload rfl (t_ifnull_n 32 rfl ?_))))
        | (show Rch _ _ _ _ _ 5 _ _ _; refine Rch.blk' (Rn_mono mt _) bl_X3_whereFrom_5 (i_astore4 trivial (i_aload rfl (t_ifnull_s 12 rfl ?_))))
        | (show Rch _ _ _ _ _ 12 _ _ _; refine Rch.blk' (Rn_mono mt _) bl_X3_whereFrom_12 (i_aload_n rfl (i_gfs rfl (i_iload_n rfl (t_cv2 (Rn_mono mt _) 20 rfl (Nat.le_of_ble_eq_true rfl) ?_)))))
        | (show Rch _ _ _ _ _ 20 _ _ _; refine Rch.blk' (Rn_mono mt _) bl_X3_whereFrom_20 (t_if_eq 32 23 rfl rfl (by first | exact hI_R | exact band_R | exact bor_R | exact bshr_R | exact lcm_R | omega) (fun hc => ?_) (fun hc => ?_)) <;> (first | (exfalso; omega) | skip))
        | (show Rch _ _ _ _ _ 23 _ _ _; refine Rch.blk' (Rn_mono mt _) bl_X3_whereFrom_23 (i_iload_n rfl (t_if_lt 32 27 rfl rfl (by first | exact hI_R | exact band_R | exact bor_R | exact bshr_R | exact lcm_R | omega) (fun hc => ?_) (fun hc => ?_))) <;> (first | (exfalso; omega) | skip))
        | (show Rch _ _ _ _ _ 27 _ _ _; refine Rch.blk' (Rn_mono mt _) bl_X3_whereFrom_27 (i_iload_n rfl (i_iconst k_2 (t_ic_le 34 32 rfl rfl (by first | exact hI_R | exact band_R | exact bor_R | exact bshr_R | exact lcm_R | omega) (by first | exact hI_R | exact band_R | exact bor_R | exact bshr_R | exact lcm_R | omega) (fun hc => ?_) (fun hc => ?_)))) <;> (first | (exfalso; omega) | skip))
        | (show Rch _ _ _ _ _ 32 _ _ _; refine Rch.blk' (Rn_mono mt _) bl_X3_whereFrom_32 (i_iconst k_m1 (t_iret ?_)))
        | (show Rch _ _ _ _ _ 34 _ _ _; refine Rch.blk' (Rn_mono mt _) bl_X3_whereFrom_34 (i_aload_n rfl (i_gfs rfl (i_iload_n rfl (t_cv2 (Rn_mono mt _) 42 rfl (Nat.le_of_ble_eq_true rfl) ?_)))))
        | (show Rch _ _ _ _ _ 42 _ _ _; refine Rch.blk' (Rn_mono mt _) bl_X3_whereFrom_42 (t_if_ne 48 45 rfl rfl (by first | exact hI_R | exact band_R | exact bor_R | exact bshr_R | exact lcm_R | omega) (fun hc => ?_) (fun hc => ?_)) <;> (first | (exfalso; omega) | skip))
        | (show Rch _ _ _ _ _ 45 _ _ _; refine Rch.blk' (Rn_mono mt _) bl_X3_whereFrom_45 (i_bipush k_m3 (t_iret ?_)))
        | (show Rch _ _ _ _ _ 48 _ _ _; refine Rch.blk' (Rn_mono mt _) bl_X3_whereFrom_48 (i_aload rfl (i_iconst k_2 (t_cs2 (Rn_mono mt _) 54 rfl (Nat.le_of_ble_eq_true rfl) ?_))))
        | (show Rch _ _ _ _ _ 54 _ _ _; refine Rch.blk' (Rn_mono mt _) bl_X3_whereFrom_54 (i_istore5 trivial (i_iload rfl (t_if_eq 64 61 rfl rfl (by first | exact hI_R | exact band_R | exact bor_R | exact bshr_R | exact lcm_R | omega) (fun hc => ?_) (fun hc => ?_)))) <;> (first | (exfalso; omega) | skip))
        | (show Rch _ _ _ _ _ 61 _ _ _; refine Rch.blk' (Rn_mono mt _) bl_X3_whereFrom_61 (i_iload rfl (t_iret ?_)))
        | (show Rch _ _ _ _ _ 64 _ _ _; refine Rch.blk' (Rn_mono mt _) bl_X3_whereFrom_64 (i_iconst k_0 (i_istore6 trivial (i_bipush k_m4 (i_istore7 trivial (i_bipush k_m4 (i_istore8 trivial (i_iconst k_0 (i_istore9 trivial (t_none ?_))))))))))
        | (show Rch _ _ _ _ _ 85 _ _ _; refine Rch.blk' (Rn_mono mt _) bl_X3_whereFrom_85 (i_aload_n rfl (i_iload_n rfl (i_iload rfl (t_cv3 (Rn_mono mt _) 92 rfl (Nat.le_of_ble_eq_true rfl) ?_)))))
        | (show Rch _ _ _ _ _ 92 _ _ _; refine Rch.blk' (Rn_mono mt _) bl_X3_whereFrom_92 (t_if_eq 129 95 rfl rfl (by first | exact hI_R | exact band_R | exact bor_R | exact bshr_R | exact lcm_R | omega) (fun hc => ?_) (fun hc => ?_)) <;> (first | (exfalso; omega) | skip))
        | (show Rch _ _ _ _ _ 95 _ _ _; refine Rch.blk' (Rn_mono mt _) bl_X3_whereFrom_95 (i_aload_n rfl (i_iload_n rfl (i_aload rfl (i_iconst k_1 (t_cv4 (Rn_mono mt _) 103 rfl (Nat.le_of_ble_eq_true rfl) ?_))))))
        | (show Rch _ _ _ _ _ 103 _ _ _; refine Rch.blk' (Rn_mono mt _) bl_X3_whereFrom_103 (t_if_eq 129 106 rfl rfl (by first | exact hI_R | exact band_R | exact bor_R | exact bshr_R | exact lcm_R | omega) (fun hc => ?_) (fun hc => ?_)) <;> (first | (exfalso; omega) | skip))
        | (show Rch _ _ _ _ _ 106 _ _ _; refine Rch.blk' (Rn_mono mt _) bl_X3_whereFrom_106 (i_iinc6 trivial k_1 (i_iload rfl (i_bipush k_m4 (t_ic_ne 121 116 rfl rfl (by first | exact hI_R | exact band_R | exact bor_R | exact bshr_R | exact lcm_R | omega) (by first | exact hI_R | exact band_R | exact bor_R | exact bshr_R | exact lcm_R | omega) (fun hc => ?_) (fun hc => ?_))))) <;> (first | (exfalso; omega) | skip))
        | (show Rch _ _ _ _ _ 116 _ _ _; refine Rch.blk' (Rn_mono mt _) bl_X3_whereFrom_116 (i_iload rfl (t_goto 123 rfl ?_)))
        | (show Rch _ _ _ _ _ 121 _ _ _; refine Rch.blk' (Rn_mono mt _) bl_X3_whereFrom_121 (i_iload rfl (t_none ?_)))
        | (show Rch _ _ _ _ _ 123 _ _ _; refine Rch.blk' (Rn_mono mt _) bl_X3_whereFrom_123 (i_istore7 trivial (i_iload rfl (i_istore8 trivial (t_none ?_)))))
        | (show Rch _ _ _ _ _ 129 _ _ _; refine Rch.blk' (Rn_mono mt _) bl_X3_whereFrom_129 (i_iinc9 trivial k_1 (t_goto 78 rfl ?_)))
        | (show Rch _ _ _ _ _ 135 _ _ _; refine Rch.blk' (Rn_mono mt _) bl_X3_whereFrom_135 (i_iload_n rfl (t_if_ne 142 139 rfl rfl (by first | exact hI_R | exact band_R | exact bor_R | exact bshr_R | exact lcm_R | omega) (fun hc => ?_) (fun hc => ?_))) <;> (first | (exfalso; omega) | skip))
        | (show Rch _ _ _ _ _ 139 _ _ _; refine Rch.blk' (Rn_mono mt _) bl_X3_whereFrom_139 (i_iload rfl (t_iret ?_)))
        | (show Rch _ _ _ _ _ 142 _ _ _; refine Rch.blk' (Rn_mono mt _) bl_X3_whereFrom_142 (i_iload_n rfl (i_iconst k_1 (t_ic_ne 152 147 rfl rfl (by first | exact hI_R | exact band_R | exact bor_R | exact bshr_R | exact lcm_R | omega) (by first | exact hI_R | exact band_R | exact bor_R | exact bshr_R | exact lcm_R | omega) (fun hc => ?_) (fun hc => ?_)))) <;> (first | (exfalso; omega) | skip))
        | (show Rch _ _ _ _ _ 147 _ _ _; refine Rch.blk' (Rn_mono mt _) bl_X3_whereFrom_147 (i_iload rfl (t_goto 154 rfl ?_)))
        | (show Rch _ _ _ _ _ 152 _ _ _; refine Rch.blk' (Rn_mono mt _) bl_X3_whereFrom_152 (i_iload rfl (t_none ?_)))
        | (show Rch _ _ _ _ _ 154 _ _ _; refine Rch.blk' (Rn_mono mt _) bl_X3_whereFrom_154 (t_iret ?_)))
  have ky := fun a1 a2 a3 => key a1 a2 a3 0 (by omega) (by omega) h FrC.rf
  clear key hq
  repeat' (first
    | exact ky (by omega) (by omega) (by omega)
    | ((with_reducible refine k1 _ ?_ ?_) <;> omega)
    | ((with_reducible refine k2 _ ?_ ?_ ?_) <;> omega)
    | ((with_reducible refine k3 _ ?_ ?_ ?_ ?_) <;> (first | omega | (unfold rfu; omega)))
    | (show Rn _ _ 57 _ _ _; refine c_X3_shelfAt (by first | omega | exact hI_R) (fun _ _ => ?_) (fun _ => ?_))
    | (show Rn _ _ 1 _ _ _; refine c_X0_has (by assumption) (by assumption) (by first | omega | exact hI_R) (fun _ _ => ?_) (fun _ => ?_))
    | (show Rn _ _ 2 _ _ _; refine c_X0_isThere (by assumption) (by assumption) (by first | omega | exact hI_R) (fun _ _ _ _ => ?_) (fun _ => ?_))
    | (show Rn _ _ 58 _ _ _; refine c_X3_refusalUnless_n ?_)
    | (show Rn _ _ 58 _ _ _; refine c_X3_refusalUnless_s (by assumption) (by omega) (by assumption) (by assumption) (fun _ => ?_) (fun _ _ => ?_) (fun _ _ => ?_))
    | (show Rch _ _ _ _ _ 0 _ _ _; refine Rch.blk' (Rn_mono mt _) bl_X3_whereFrom_0 (i_aload_n rfl (i_iload_n rfl (t_cv2 (Rn_mono mt _) 5 rfl (Nat.le_of_ble_eq_true rfl) ?_))))
    | (show Rch _ _ _ _ _ 5 _ _ _; refine Rch.blk' (Rn_mono mt _) bl_X3_whereFrom_5 (i_astore4 trivial (i_aload rfl (t_ifnull_n 32 rfl ?_))))
    | (show Rch _ _ _ _ _ 5 _ _ _; refine Rch.blk' (Rn_mono mt _) bl_X3_whereFrom_5 (i_astore4 trivial (i_aload rfl (t_ifnull_s 12 rfl ?_))))
    | (show Rch _ _ _ _ _ 12 _ _ _; refine Rch.blk' (Rn_mono mt _) bl_X3_whereFrom_12 (i_aload_n rfl (i_gfs rfl (i_iload_n rfl (t_cv2 (Rn_mono mt _) 20 rfl (Nat.le_of_ble_eq_true rfl) ?_)))))
    | (show Rch _ _ _ _ _ 20 _ _ _; refine Rch.blk' (Rn_mono mt _) bl_X3_whereFrom_20 (t_if_eq 32 23 rfl rfl (by first | exact hI_R | exact band_R | exact bor_R | exact bshr_R | exact lcm_R | omega) (fun hc => ?_) (fun hc => ?_)) <;> (first | (exfalso; omega) | skip))
    | (show Rch _ _ _ _ _ 23 _ _ _; refine Rch.blk' (Rn_mono mt _) bl_X3_whereFrom_23 (i_iload_n rfl (t_if_lt 32 27 rfl rfl (by first | exact hI_R | exact band_R | exact bor_R | exact bshr_R | exact lcm_R | omega) (fun hc => ?_) (fun hc => ?_))) <;> (first | (exfalso; omega) | skip))
    | (show Rch _ _ _ _ _ 27 _ _ _; refine Rch.blk' (Rn_mono mt _) bl_X3_whereFrom_27 (i_iload_n rfl (i_iconst k_2 (t_ic_le 34 32 rfl rfl (by first | exact hI_R | exact band_R | exact bor_R | exact bshr_R | exact lcm_R | omega) (by first | exact hI_R | exact band_R | exact bor_R | exact bshr_R | exact lcm_R | omega) (fun hc => ?_) (fun hc => ?_)))) <;> (first | (exfalso; omega) | skip))
    | (show Rch _ _ _ _ _ 32 _ _ _; refine Rch.blk' (Rn_mono mt _) bl_X3_whereFrom_32 (i_iconst k_m1 (t_iret ?_)))
    | (show Rch _ _ _ _ _ 34 _ _ _; refine Rch.blk' (Rn_mono mt _) bl_X3_whereFrom_34 (i_aload_n rfl (i_gfs rfl (i_iload_n rfl (t_cv2 (Rn_mono mt _) 42 rfl (Nat.le_of_ble_eq_true rfl) ?_)))))
    | (show Rch _ _ _ _ _ 42 _ _ _; refine Rch.blk' (Rn_mono mt _) bl_X3_whereFrom_42 (t_if_ne 48 45 rfl rfl (by first | exact hI_R | exact band_R | exact bor_R | exact bshr_R | exact lcm_R | omega) (fun hc => ?_) (fun hc => ?_)) <;> (first | (exfalso; omega) | skip))
    | (show Rch _ _ _ _ _ 45 _ _ _; refine Rch.blk' (Rn_mono mt _) bl_X3_whereFrom_45 (i_bipush k_m3 (t_iret ?_)))
    | (show Rch _ _ _ _ _ 48 _ _ _; refine Rch.blk' (Rn_mono mt _) bl_X3_whereFrom_48 (i_aload rfl (i_iconst k_2 (t_cs2 (Rn_mono mt _) 54 rfl (Nat.le_of_ble_eq_true rfl) ?_))))
    | (show Rch _ _ _ _ _ 54 _ _ _; refine Rch.blk' (Rn_mono mt _) bl_X3_whereFrom_54 (i_istore5 trivial (i_iload rfl (t_if_eq 64 61 rfl rfl (by first | exact hI_R | exact band_R | exact bor_R | exact bshr_R | exact lcm_R | omega) (fun hc => ?_) (fun hc => ?_)))) <;> (first | (exfalso; omega) | skip))
    | (show Rch _ _ _ _ _ 61 _ _ _; refine Rch.blk' (Rn_mono mt _) bl_X3_whereFrom_61 (i_iload rfl (t_iret ?_)))
    | (show Rch _ _ _ _ _ 64 _ _ _; refine Rch.blk' (Rn_mono mt _) bl_X3_whereFrom_64 (i_iconst k_0 (i_istore6 trivial (i_bipush k_m4 (i_istore7 trivial (i_bipush k_m4 (i_istore8 trivial (i_iconst k_0 (i_istore9 trivial (t_none ?_))))))))))
    | (show Rch _ _ _ _ _ 85 _ _ _; refine Rch.blk' (Rn_mono mt _) bl_X3_whereFrom_85 (i_aload_n rfl (i_iload_n rfl (i_iload rfl (t_cv3 (Rn_mono mt _) 92 rfl (Nat.le_of_ble_eq_true rfl) ?_)))))
    | (show Rch _ _ _ _ _ 92 _ _ _; refine Rch.blk' (Rn_mono mt _) bl_X3_whereFrom_92 (t_if_eq 129 95 rfl rfl (by first | exact hI_R | exact band_R | exact bor_R | exact bshr_R | exact lcm_R | omega) (fun hc => ?_) (fun hc => ?_)) <;> (first | (exfalso; omega) | skip))
    | (show Rch _ _ _ _ _ 95 _ _ _; refine Rch.blk' (Rn_mono mt _) bl_X3_whereFrom_95 (i_aload_n rfl (i_iload_n rfl (i_aload rfl (i_iconst k_1 (t_cv4 (Rn_mono mt _) 103 rfl (Nat.le_of_ble_eq_true rfl) ?_))))))
    | (show Rch _ _ _ _ _ 103 _ _ _; refine Rch.blk' (Rn_mono mt _) bl_X3_whereFrom_103 (t_if_eq 129 106 rfl rfl (by first | exact hI_R | exact band_R | exact bor_R | exact bshr_R | exact lcm_R | omega) (fun hc => ?_) (fun hc => ?_)) <;> (first | (exfalso; omega) | skip))
    | (show Rch _ _ _ _ _ 106 _ _ _; refine Rch.blk' (Rn_mono mt _) bl_X3_whereFrom_106 (i_iinc6 trivial k_1 (i_iload rfl (i_bipush k_m4 (t_ic_ne 121 116 rfl rfl (by first | exact hI_R | exact band_R | exact bor_R | exact bshr_R | exact lcm_R | omega) (by first | exact hI_R | exact band_R | exact bor_R | exact bshr_R | exact lcm_R | omega) (fun hc => ?_) (fun hc => ?_))))) <;> (first | (exfalso; omega) | skip))
    | (show Rch _ _ _ _ _ 116 _ _ _; refine Rch.blk' (Rn_mono mt _) bl_X3_whereFrom_116 (i_iload rfl (t_goto 123 rfl ?_)))
    | (show Rch _ _ _ _ _ 121 _ _ _; refine Rch.blk' (Rn_mono mt _) bl_X3_whereFrom_121 (i_iload rfl (t_none ?_)))
    | (show Rch _ _ _ _ _ 123 _ _ _; refine Rch.blk' (Rn_mono mt _) bl_X3_whereFrom_123 (i_istore7 trivial (i_iload rfl (i_istore8 trivial (t_none ?_)))))
    | (show Rch _ _ _ _ _ 129 _ _ _; refine Rch.blk' (Rn_mono mt _) bl_X3_whereFrom_129 (i_iinc9 trivial k_1 (t_goto 78 rfl ?_)))
    | (show Rch _ _ _ _ _ 135 _ _ _; refine Rch.blk' (Rn_mono mt _) bl_X3_whereFrom_135 (i_iload_n rfl (t_if_ne 142 139 rfl rfl (by first | exact hI_R | exact band_R | exact bor_R | exact bshr_R | exact lcm_R | omega) (fun hc => ?_) (fun hc => ?_))) <;> (first | (exfalso; omega) | skip))
    | (show Rch _ _ _ _ _ 139 _ _ _; refine Rch.blk' (Rn_mono mt _) bl_X3_whereFrom_139 (i_iload rfl (t_iret ?_)))
    | (show Rch _ _ _ _ _ 142 _ _ _; refine Rch.blk' (Rn_mono mt _) bl_X3_whereFrom_142 (i_iload_n rfl (i_iconst k_1 (t_ic_ne 152 147 rfl rfl (by first | exact hI_R | exact band_R | exact bor_R | exact bshr_R | exact lcm_R | omega) (by first | exact hI_R | exact band_R | exact bor_R | exact bshr_R | exact lcm_R | omega) (fun hc => ?_) (fun hc => ?_)))) <;> (first | (exfalso; omega) | skip))
    | (show Rch _ _ _ _ _ 147 _ _ _; refine Rch.blk' (Rn_mono mt _) bl_X3_whereFrom_147 (i_iload rfl (t_goto 154 rfl ?_)))
    | (show Rch _ _ _ _ _ 152 _ _ _; refine Rch.blk' (Rn_mono mt _) bl_X3_whereFrom_152 (i_iload rfl (t_none ?_)))
    | (show Rch _ _ _ _ _ 154 _ _ _; refine Rch.blk' (Rn_mono mt _) bl_X3_whereFrom_154 (t_iret ?_)))
theorem c_X4_whereFrom (hG : RR h 0 G no0 0) (hO : OKB G) (hy : dy G ≤ 999) (hS : SR h S) (hK : OKS S) {x p w : Int} (hx : inR x) (hp : inR p) (hw : inR w) (hq : ∀ v h', v = vWhereFrom G S x p w → JY h h' → Q (some (ai (I v))) h') : Rn mt (d + 20) 184 [ar 3 0, ai (I x), ai (I p), ai (I w)] h Q := by
  refine Rn.intro iX4_whereFrom rfl rfl ?_
  show Rch bX4_whereFrom _ _ _ _ 0 [some (ar 3 0), some (ai (I x)), some (ai (I p)), some (ai (I w)), none, none, none, none, none] [] _
  have g_n := hO.n
  have r1 : rfu S x 2 = 0 → (0 ≤ x ∧ x < 8) ∧ ho S x = 2 := fun e => by unfold rfu at e; omega
  have r2 : wrf S x (-1) = rfu S x 2 := by unfold wrf; rw [if_neg (by omega)]
  have k1 : ∀ u, u = -1 → ¬ ((0 ≤ x ∧ x < 8) ∧ (0 ≤ p ∧ p < nn G) ∧ 0 ≤ w ∧ w ≤ 2) → Q (some (ai (I u))) h := fun u e a => hq _ _ (by unfold vWhereFrom; rw [if_neg a]; exact e) JY.rf
  have k2 : ∀ u, u = -3 → ((0 ≤ x ∧ x < 8) ∧ (0 ≤ p ∧ p < nn G) ∧ 0 ≤ w ∧ w ≤ 2) → ¬ sq G p < 36 → Q (some (ai (I u))) h := fun u e a c => hq _ _ (by unfold vWhereFrom; rw [if_pos a, if_neg c]; exact e) JY.rf
  have k3 : ∀ u, u = rfu S x 2 → ¬ u = 0 → ((0 ≤ x ∧ x < 8) ∧ (0 ≤ p ∧ p < nn G) ∧ 0 ≤ w ∧ w ≤ 2) → sq G p < 36 → Q (some (ai (I u))) h := fun u e f a c => hq _ _ (by unfold vWhereFrom; rw [if_pos a, if_pos c, if_neg (by omega)]; exact e) JY.rf
  have key : ((0 ≤ x ∧ x < 8) ∧ (0 ≤ p ∧ p < nn G) ∧ 0 ≤ w ∧ w ≤ 2) → sq G p < 36 → rfu S x 2 = 0 → ∀ u, u = 0 → ∀ k : Int, k ≤ 36 → 0 ≤ k → ∀ h', FrR h h' 1 → RH bX4_whereFrom (d + 19) Q 70 [some (ar 3 0), some (ai (I x)), some (ai (I p)), some (ai (I w)), some (ai (I u)), some (ai (I (cnt (wfC G S x p) k))), some (ai (I (GB (wfC G S x p) (fun _ => 0) k))), some (ai (I (GB (wfC G S x p) (fun i => i) k))), some (ai (I k))] h' := by
    intro ha hb r0 u hu
    obtain ⟨-, hh⟩ := r1 r0
    obtain ⟨⟨x0, x1⟩, ⟨p0, p1⟩, hw2⟩ := ha
    refine up_ind (fun k hk ih hk0 h' hF => ?_)
    have hR := hG.fr hF (by decide)
    have g_c := GB_c0 (C := wfC G S x p) k hk0
    have g_C := cnt_R (C := wfC G S x p) hk0
    by_cases hk1 : k < 36
    · have ih := ih hk1 (by omega)
      have ih1 : wfC G S x p k → ∀ h2, FrR h h2 1 → ∀ l, l = (if GB (wfC G S x p) (fun _ => 0) k = -4 then k else GB (wfC G S x p) (fun _ => 0) k) → RH bX4_whereFrom (d + 19) Q 70 [some (ar 3 0), some (ai (I x)), some (ai (I p)), some (ai (I w)), some (ai (I u)), some (ai (I (cnt (wfC G S x p) k + 1))), some (ai (I l)), some (ai (I k)), some (ai (I (k + 1)))] h2 := fun c h2 a l e => by
        have := ih h2 a
        rw [cnt_u1 hk0 c, GB_f1 hk0 c, GB_l1 hk0 c, ← e] at this
        exact this
      have ih0 : ¬ wfC G S x p k → ∀ h2, FrR h h2 1 → RH bX4_whereFrom (d + 19) Q 70 [some (ar 3 0), some (ai (I x)), some (ai (I p)), some (ai (I w)), some (ai (I u)), some (ai (I (cnt (wfC G S x p) k))), some (ai (I (GB (wfC G S x p) (fun _ => 0) k))), some (ai (I (GB (wfC G S x p) (fun i => i) k))), some (ai (I (k + 1)))] h2 := fun c h2 a => by
        have := ih h2 a
        rw [cnt_u0 hk0 c, GB_f0 hk0 c, GB_f0 hk0 c] at this
        exact this
      clear ih hq k1 k2 k3
      refine Rch.blk' (Rn_mono mt _) bl_X4_whereFrom_70 (i_iload rfl (i_bipush k_36 (t_ic_ge 159 77 rfl rfl (by first | exact hI_R | exact band_R | exact bor_R | exact bshr_R | exact lcm_R | omega) (by first | exact hI_R | exact band_R | exact bor_R | exact bshr_R | exact lcm_R | omega) (fun hc => ?_) (fun hc => ?_)))) <;> (first | (exfalso; omega) | skip)
      refine Rch.blk' (Rn_mono mt _) bl_X4_whereFrom_77 (i_aload_n rfl (i_iload_n rfl (i_iload rfl (t_cv3 (Rn_mono mt _) 84 rfl (Nat.le_of_ble_eq_true rfl) ?_))))
      refine c_X4_mayStand hR hO p0 hp hk0 hk1 (fun hC9 => ?_) (fun hC9 => ?_)
      · have hO2 := OKB_st hO hk0 hk1 hC9
        refine Rch.blk' (Rn_mono mt _) bl_X4_whereFrom_84 (t_if_ne 90 87 rfl rfl (by first | exact hI_R | exact band_R | exact bor_R | exact bshr_R | exact lcm_R | omega) (fun hc => ?_) (fun hc => ?_)) <;> (first | (exfalso; omega) | skip)
        refine Rch.blk' (Rn_mono mt _) bl_X4_whereFrom_90 (i_aload_n rfl (i_gfs rfl (i_aload_n rfl (i_gfs rfl (t_cs2 (Rn_mono mt _) 101 rfl (Nat.le_of_ble_eq_true rfl) ?_)))))
        refine c_X4_copies hR hO (by decide) (fun h1 hG1 hF1 => ?_)
        refine Rch.blk' (Rn_mono mt _) bl_X4_whereFrom_101 (i_aload_n rfl (i_gfs rfl (i_iload_n rfl (i_iconst k_3 (t_cs2 (Rn_mono mt _) 110 rfl (Nat.le_of_ble_eq_true rfl) ?_)))))
        refine c_X4_of ?_
        have hG2 := hG1.set_q (z := p) (s := k) (v := k) (j := (6 + 4 * p + 3).toNat) p0 hk0 (by omega) (m4_p (by omega)).symm rfl
        have hF2 : FrR h (mset h1 12 1 (6 + 4 * p + 3).toNat (I k)) 1 := (hF.tr hF1).ms
        refine Rch.blk' (Rn_mono mt _) bl_X4_whereFrom_110 (i_iload rfl (i_iast rfl rfl (by omega) (by simp only [aln]; omega) (by simp only [aln]; omega) (i_aload_n rfl (i_gfs rfl (t_cs1 (Rn_mono mt _) 120 rfl (Nat.le_of_ble_eq_true rfl) ?_)))))
        refine c_X4_day hG2 hO2 (Or.inl rfl) (show dy G < 900000 by omega) (fun h3 hG3 hF3 => ?_)
        have hFa := hF2.tr hF3
        have hO3 : OKB (DAY (mov G p k) no0 0) := OKB_DAY hO2
        have f3 := @DAY_f (mov G p k) no0 0
        have hS3 : SR h3 S := hS.fr (fun t b j ht => hFa t b j (by omega))
        refine Rch.blk' (Rn_mono mt _) bl_X4_whereFrom_120 (i_aload_n rfl (i_iload_n rfl (i_iload_n rfl (t_cv3 (Rn_mono mt _) 126 rfl (Nat.le_of_ble_eq_true rfl) ?_))))
        refine c_X4_isWhereSo hG3 hO3 hS3 hK x0 x1 hh p0 (by rw [f3.1]; exact p1) (by rw [f3.2.1]; show dy G + 1 < 800000; omega) (fun c h4 hF4 => ?_) (fun c h4 hF4 => ?_)
        · have i1 := ih1 ⟨hC9, tol_sh.mp c⟩ h4 (hFa.tr hF4)
          clear ih1 ih0 hG3 hG2 hG1
          repeat' (first
            | ((with_reducible refine i1 _ ?_) <;> omega)
            | (show Rn _ _ 145 _ _ _; refine c_X4_isShelf (by first | omega | exact hI_R) (fun _ _ => ?_) (fun _ => ?_))
            | (show Rn _ _ 110 _ _ _; refine c_X4_isPiece (by assumption) (by assumption) (by first | omega | exact hI_R) (fun _ _ => ?_) (fun _ => ?_))
            | (show Rn _ _ 105 _ _ _; refine c_X4_isIn (by first | omega | exact hI_R) (by first | omega | exact hI_R) (by first | omega | exact hI_R) (fun _ _ => ?_) (fun _ => ?_))
            | (show Rn _ _ 114 _ _ _; refine c_X4_isHere (by assumption) (by assumption) (by omega) (by omega) (fun _ _ => ?_) (fun _ => ?_))
            | (show Rn _ _ 146 _ _ _; refine c_X4_wrongRow (by assumption) (by assumption) (by omega) (fun _ _ _ _ => ?_))
            | (show Rn _ _ 143 _ _ _; refine c_X4_mayStand (by assumption) (by assumption) (by omega) (by omega) (by omega) (by omega) (fun _ => ?_) (fun _ => ?_))
            | (show Rn _ _ 109 _ _ _; refine c_X4_of ?_)
            | (show Rch _ _ _ _ _ 0 _ _ _; refine Rch.blk' (Rn_mono mt _) bl_X4_whereFrom_0 (i_iload_n rfl (t_cs1 (Rn_mono mt _) 4 rfl (Nat.le_of_ble_eq_true rfl) ?_)))
            | (show Rch _ _ _ _ _ 4 _ _ _; refine Rch.blk' (Rn_mono mt _) bl_X4_whereFrom_4 (t_if_eq 24 7 rfl rfl (by first | exact hI_R | exact band_R | exact bor_R | exact bshr_R | exact lcm_R | omega) (fun hc => ?_) (fun hc => ?_)) <;> (first | (exfalso; omega) | skip))
            | (show Rch _ _ _ _ _ 7 _ _ _; refine Rch.blk' (Rn_mono mt _) bl_X4_whereFrom_7 (i_aload_n rfl (i_iload_n rfl (t_cv2 (Rn_mono mt _) 12 rfl (Nat.le_of_ble_eq_true rfl) ?_))))
            | (show Rch _ _ _ _ _ 12 _ _ _; refine Rch.blk' (Rn_mono mt _) bl_X4_whereFrom_12 (t_if_eq 24 15 rfl rfl (by first | exact hI_R | exact band_R | exact bor_R | exact bshr_R | exact lcm_R | omega) (fun hc => ?_) (fun hc => ?_)) <;> (first | (exfalso; omega) | skip))
            | (show Rch _ _ _ _ _ 15 _ _ _; refine Rch.blk' (Rn_mono mt _) bl_X4_whereFrom_15 (i_iload_n rfl (i_iconst k_0 (i_iconst k_2 (t_cs3 (Rn_mono mt _) 21 rfl (Nat.le_of_ble_eq_true rfl) ?_)))))
            | (show Rch _ _ _ _ _ 21 _ _ _; refine Rch.blk' (Rn_mono mt _) bl_X4_whereFrom_21 (t_if_ne 26 24 rfl rfl (by first | exact hI_R | exact band_R | exact bor_R | exact bshr_R | exact lcm_R | omega) (fun hc => ?_) (fun hc => ?_)) <;> (first | (exfalso; omega) | skip))
            | (show Rch _ _ _ _ _ 24 _ _ _; refine Rch.blk' (Rn_mono mt _) bl_X4_whereFrom_24 (i_iconst k_m1 (t_iret ?_)))
            | (show Rch _ _ _ _ _ 26 _ _ _; refine Rch.blk' (Rn_mono mt _) bl_X4_whereFrom_26 (i_aload_n rfl (i_gfs rfl (i_iload_n rfl (t_cs2 (Rn_mono mt _) 34 rfl (Nat.le_of_ble_eq_true rfl) ?_)))))
            | (show Rch _ _ _ _ _ 34 _ _ _; refine Rch.blk' (Rn_mono mt _) bl_X4_whereFrom_34 (t_if_ne 40 37 rfl rfl (by first | exact hI_R | exact band_R | exact bor_R | exact bshr_R | exact lcm_R | omega) (fun hc => ?_) (fun hc => ?_)) <;> (first | (exfalso; omega) | skip))
            | (show Rch _ _ _ _ _ 37 _ _ _; refine Rch.blk' (Rn_mono mt _) bl_X4_whereFrom_37 (i_bipush k_m3 (t_iret ?_)))
            | (show Rch _ _ _ _ _ 40 _ _ _; refine Rch.blk' (Rn_mono mt _) bl_X4_whereFrom_40 (i_aload_n rfl (i_iload_n rfl (i_iconst k_m1 (t_cv3 (Rn_mono mt _) 46 rfl (Nat.le_of_ble_eq_true rfl) ?_)))))
            | (show Rch _ _ _ _ _ 46 _ _ _; refine Rch.blk' (Rn_mono mt _) bl_X4_whereFrom_46 (i_istore4 trivial (i_iload rfl (t_if_eq 56 53 rfl rfl (by first | exact hI_R | exact band_R | exact bor_R | exact bshr_R | exact lcm_R | omega) (fun hc => ?_) (fun hc => ?_)))) <;> (first | (exfalso; omega) | skip))
            | (show Rch _ _ _ _ _ 53 _ _ _; refine Rch.blk' (Rn_mono mt _) bl_X4_whereFrom_53 (i_iload rfl (t_iret ?_)))
            | (show Rch _ _ _ _ _ 56 _ _ _; refine Rch.blk' (Rn_mono mt _) bl_X4_whereFrom_56 (i_iconst k_0 (i_istore5 trivial (i_bipush k_m4 (i_istore6 trivial (i_bipush k_m4 (i_istore7 trivial (i_iconst k_0 (i_istore8 trivial (t_none ?_))))))))))
            | (show Rch _ _ _ _ _ 77 _ _ _; refine Rch.blk' (Rn_mono mt _) bl_X4_whereFrom_77 (i_aload_n rfl (i_iload_n rfl (i_iload rfl (t_cv3 (Rn_mono mt _) 84 rfl (Nat.le_of_ble_eq_true rfl) ?_)))))
            | (show Rch _ _ _ _ _ 84 _ _ _; refine Rch.blk' (Rn_mono mt _) bl_X4_whereFrom_84 (t_if_ne 90 87 rfl rfl (by first | exact hI_R | exact band_R | exact bor_R | exact bshr_R | exact lcm_R | omega) (fun hc => ?_) (fun hc => ?_)) <;> (first | (exfalso; omega) | skip))
            | (show Rch _ _ _ _ _ 87 _ _ _; refine Rch.blk' (Rn_mono mt _) bl_X4_whereFrom_87 (t_goto 153 rfl ?_))
            | (show Rch _ _ _ _ _ 90 _ _ _; refine Rch.blk' (Rn_mono mt _) bl_X4_whereFrom_90 (i_aload_n rfl (i_gfs rfl (i_aload_n rfl (i_gfs rfl (t_cs2 (Rn_mono mt _) 101 rfl (Nat.le_of_ble_eq_true rfl) ?_))))))
            | (show Rch _ _ _ _ _ 101 _ _ _; refine Rch.blk' (Rn_mono mt _) bl_X4_whereFrom_101 (i_aload_n rfl (i_gfs rfl (i_iload_n rfl (i_iconst k_3 (t_cs2 (Rn_mono mt _) 110 rfl (Nat.le_of_ble_eq_true rfl) ?_))))))
            | (show Rch _ _ _ _ _ 110 _ _ _; refine Rch.blk' (Rn_mono mt _) bl_X4_whereFrom_110 (i_iload rfl (i_iast rfl rfl (by omega) (by simp only [aln]; omega) (by simp only [aln]; omega) (i_aload_n rfl (i_gfs rfl (t_cs1 (Rn_mono mt _) 120 rfl (Nat.le_of_ble_eq_true rfl) ?_))))))
            | (show Rch _ _ _ _ _ 120 _ _ _; refine Rch.blk' (Rn_mono mt _) bl_X4_whereFrom_120 (i_aload_n rfl (i_iload_n rfl (i_iload_n rfl (t_cv3 (Rn_mono mt _) 126 rfl (Nat.le_of_ble_eq_true rfl) ?_)))))
            | (show Rch _ _ _ _ _ 126 _ _ _; refine Rch.blk' (Rn_mono mt _) bl_X4_whereFrom_126 (t_if_ne 132 129 rfl rfl (by first | exact hI_R | exact band_R | exact bor_R | exact bshr_R | exact lcm_R | omega) (fun hc => ?_) (fun hc => ?_)) <;> (first | (exfalso; omega) | skip))
            | (show Rch _ _ _ _ _ 129 _ _ _; refine Rch.blk' (Rn_mono mt _) bl_X4_whereFrom_129 (t_goto 153 rfl ?_))
            | (show Rch _ _ _ _ _ 132 _ _ _; refine Rch.blk' (Rn_mono mt _) bl_X4_whereFrom_132 (i_iload rfl (t_if_ne 142 137 rfl rfl (by first | exact hI_R | exact band_R | exact bor_R | exact bshr_R | exact lcm_R | omega) (fun hc => ?_) (fun hc => ?_))) <;> (first | (exfalso; omega) | skip))
            | (show Rch _ _ _ _ _ 137 _ _ _; refine Rch.blk' (Rn_mono mt _) bl_X4_whereFrom_137 (i_iload rfl (t_goto 144 rfl ?_)))
            | (show Rch _ _ _ _ _ 142 _ _ _; refine Rch.blk' (Rn_mono mt _) bl_X4_whereFrom_142 (i_iload rfl (t_none ?_)))
            | (show Rch _ _ _ _ _ 144 _ _ _; refine Rch.blk' (Rn_mono mt _) bl_X4_whereFrom_144 (i_istore6 trivial (i_iload rfl (i_istore7 trivial (i_iinc5 trivial k_1 (t_none ?_))))))
            | (show Rch _ _ _ _ _ 153 _ _ _; refine Rch.blk' (Rn_mono mt _) bl_X4_whereFrom_153 (i_iinc8 trivial k_1 (t_goto 70 rfl ?_)))
            | (show Rch _ _ _ _ _ 159 _ _ _; refine Rch.blk' (Rn_mono mt _) bl_X4_whereFrom_159 (i_iload_n rfl (t_if_ne 168 163 rfl rfl (by first | exact hI_R | exact band_R | exact bor_R | exact bshr_R | exact lcm_R | omega) (fun hc => ?_) (fun hc => ?_))) <;> (first | (exfalso; omega) | skip))
            | (show Rch _ _ _ _ _ 163 _ _ _; refine Rch.blk' (Rn_mono mt _) bl_X4_whereFrom_163 (i_iload rfl (t_goto 180 rfl ?_)))
            | (show Rch _ _ _ _ _ 168 _ _ _; refine Rch.blk' (Rn_mono mt _) bl_X4_whereFrom_168 (i_iload_n rfl (i_iconst k_1 (t_ic_ne 178 173 rfl rfl (by first | exact hI_R | exact band_R | exact bor_R | exact bshr_R | exact lcm_R | omega) (by first | exact hI_R | exact band_R | exact bor_R | exact bshr_R | exact lcm_R | omega) (fun hc => ?_) (fun hc => ?_)))) <;> (first | (exfalso; omega) | skip))
            | (show Rch _ _ _ _ _ 173 _ _ _; refine Rch.blk' (Rn_mono mt _) bl_X4_whereFrom_173 (i_iload rfl (t_goto 180 rfl ?_)))
            | (show Rch _ _ _ _ _ 178 _ _ _; refine Rch.blk' (Rn_mono mt _) bl_X4_whereFrom_178 (i_iload rfl (t_none ?_)))
            | (show Rch _ _ _ _ _ 180 _ _ _; refine Rch.blk' (Rn_mono mt _) bl_X4_whereFrom_180 (t_iret ?_)))
        · have i0 := ih0 (fun z => c (tol_sh.mpr z.2)) h4 (hFa.tr hF4)
          clear ih1 ih0 hG3 hG2 hG1
          repeat' (first
            | exact i0
            | (show Rn _ _ 145 _ _ _; refine c_X4_isShelf (by first | omega | exact hI_R) (fun _ _ => ?_) (fun _ => ?_))
            | (show Rn _ _ 110 _ _ _; refine c_X4_isPiece (by assumption) (by assumption) (by first | omega | exact hI_R) (fun _ _ => ?_) (fun _ => ?_))
            | (show Rn _ _ 105 _ _ _; refine c_X4_isIn (by first | omega | exact hI_R) (by first | omega | exact hI_R) (by first | omega | exact hI_R) (fun _ _ => ?_) (fun _ => ?_))
            | (show Rn _ _ 114 _ _ _; refine c_X4_isHere (by assumption) (by assumption) (by omega) (by omega) (fun _ _ => ?_) (fun _ => ?_))
            | (show Rn _ _ 146 _ _ _; refine c_X4_wrongRow (by assumption) (by assumption) (by omega) (fun _ _ _ _ => ?_))
            | (show Rn _ _ 143 _ _ _; refine c_X4_mayStand (by assumption) (by assumption) (by omega) (by omega) (by omega) (by omega) (fun _ => ?_) (fun _ => ?_))
            | (show Rn _ _ 109 _ _ _; refine c_X4_of ?_)
            | (show Rch _ _ _ _ _ 0 _ _ _; refine Rch.blk' (Rn_mono mt _) bl_X4_whereFrom_0 (i_iload_n rfl (t_cs1 (Rn_mono mt _) 4 rfl (Nat.le_of_ble_eq_true rfl) ?_)))
            | (show Rch _ _ _ _ _ 4 _ _ _; refine Rch.blk' (Rn_mono mt _) bl_X4_whereFrom_4 (t_if_eq 24 7 rfl rfl (by first | exact hI_R | exact band_R | exact bor_R | exact bshr_R | exact lcm_R | omega) (fun hc => ?_) (fun hc => ?_)) <;> (first | (exfalso; omega) | skip))
            | (show Rch _ _ _ _ _ 7 _ _ _; refine Rch.blk' (Rn_mono mt _) bl_X4_whereFrom_7 (i_aload_n rfl (i_iload_n rfl (t_cv2 (Rn_mono mt _) 12 rfl (Nat.le_of_ble_eq_true rfl) ?_))))
            | (show Rch _ _ _ _ _ 12 _ _ _; refine Rch.blk' (Rn_mono mt _) bl_X4_whereFrom_12 (t_if_eq 24 15 rfl rfl (by first | exact hI_R | exact band_R | exact bor_R | exact bshr_R | exact lcm_R | omega) (fun hc => ?_) (fun hc => ?_)) <;> (first | (exfalso; omega) | skip))
            | (show Rch _ _ _ _ _ 15 _ _ _; refine Rch.blk' (Rn_mono mt _) bl_X4_whereFrom_15 (i_iload_n rfl (i_iconst k_0 (i_iconst k_2 (t_cs3 (Rn_mono mt _) 21 rfl (Nat.le_of_ble_eq_true rfl) ?_)))))
            | (show Rch _ _ _ _ _ 21 _ _ _; refine Rch.blk' (Rn_mono mt _) bl_X4_whereFrom_21 (t_if_ne 26 24 rfl rfl (by first | exact hI_R | exact band_R | exact bor_R | exact bshr_R | exact lcm_R | omega) (fun hc => ?_) (fun hc => ?_)) <;> (first | (exfalso; omega) | skip))
            | (show Rch _ _ _ _ _ 24 _ _ _; refine Rch.blk' (Rn_mono mt _) bl_X4_whereFrom_24 (i_iconst k_m1 (t_iret ?_)))
            | (show Rch _ _ _ _ _ 26 _ _ _; refine Rch.blk' (Rn_mono mt _) bl_X4_whereFrom_26 (i_aload_n rfl (i_gfs rfl (i_iload_n rfl (t_cs2 (Rn_mono mt _) 34 rfl (Nat.le_of_ble_eq_true rfl) ?_)))))
            | (show Rch _ _ _ _ _ 34 _ _ _; refine Rch.blk' (Rn_mono mt _) bl_X4_whereFrom_34 (t_if_ne 40 37 rfl rfl (by first | exact hI_R | exact band_R | exact bor_R | exact bshr_R | exact lcm_R | omega) (fun hc => ?_) (fun hc => ?_)) <;> (first | (exfalso; omega) | skip))
            | (show Rch _ _ _ _ _ 37 _ _ _; refine Rch.blk' (Rn_mono mt _) bl_X4_whereFrom_37 (i_bipush k_m3 (t_iret ?_)))
            | (show Rch _ _ _ _ _ 40 _ _ _; refine Rch.blk' (Rn_mono mt _) bl_X4_whereFrom_40 (i_aload_n rfl (i_iload_n rfl (i_iconst k_m1 (t_cv3 (Rn_mono mt _) 46 rfl (Nat.le_of_ble_eq_true rfl) ?_)))))
            | (show Rch _ _ _ _ _ 46 _ _ _; refine Rch.blk' (Rn_mono mt _) bl_X4_whereFrom_46 (i_istore4 trivial (i_iload rfl (t_if_eq 56 53 rfl rfl (by first | exact hI_R | exact band_R | exact bor_R | exact bshr_R | exact lcm_R | omega) (fun hc => ?_) (fun hc => ?_)))) <;> (first | (exfalso; omega) | skip))
            | (show Rch _ _ _ _ _ 53 _ _ _; refine Rch.blk' (Rn_mono mt _) bl_X4_whereFrom_53 (i_iload rfl (t_iret ?_)))
            | (show Rch _ _ _ _ _ 56 _ _ _; refine Rch.blk' (Rn_mono mt _) bl_X4_whereFrom_56 (i_iconst k_0 (i_istore5 trivial (i_bipush k_m4 (i_istore6 trivial (i_bipush k_m4 (i_istore7 trivial (i_iconst k_0 (i_istore8 trivial (t_none ?_))))))))))
            | (show Rch _ _ _ _ _ 77 _ _ _; refine Rch.blk' (Rn_mono mt _) bl_X4_whereFrom_77 (i_aload_n rfl (i_iload_n rfl (i_iload rfl (t_cv3 (Rn_mono mt _) 84 rfl (Nat.le_of_ble_eq_true rfl) ?_)))))
            | (show Rch _ _ _ _ _ 84 _ _ _; refine Rch.blk' (Rn_mono mt _) bl_X4_whereFrom_84 (t_if_ne 90 87 rfl rfl (by first | exact hI_R | exact band_R | exact bor_R | exact bshr_R | exact lcm_R | omega) (fun hc => ?_) (fun hc => ?_)) <;> (first | (exfalso; omega) | skip))
            | (show Rch _ _ _ _ _ 87 _ _ _; refine Rch.blk' (Rn_mono mt _) bl_X4_whereFrom_87 (t_goto 153 rfl ?_))
            | (show Rch _ _ _ _ _ 90 _ _ _; refine Rch.blk' (Rn_mono mt _) bl_X4_whereFrom_90 (i_aload_n rfl (i_gfs rfl (i_aload_n rfl (i_gfs rfl (t_cs2 (Rn_mono mt _) 101 rfl (Nat.le_of_ble_eq_true rfl) ?_))))))
            | (show Rch _ _ _ _ _ 101 _ _ _; refine Rch.blk' (Rn_mono mt _) bl_X4_whereFrom_101 (i_aload_n rfl (i_gfs rfl (i_iload_n rfl (i_iconst k_3 (t_cs2 (Rn_mono mt _) 110 rfl (Nat.le_of_ble_eq_true rfl) ?_))))))
            | (show Rch _ _ _ _ _ 110 _ _ _; refine Rch.blk' (Rn_mono mt _) bl_X4_whereFrom_110 (i_iload rfl (i_iast rfl rfl (by omega) (by simp only [aln]; omega) (by simp only [aln]; omega) (i_aload_n rfl (i_gfs rfl (t_cs1 (Rn_mono mt _) 120 rfl (Nat.le_of_ble_eq_true rfl) ?_))))))
            | (show Rch _ _ _ _ _ 120 _ _ _; refine Rch.blk' (Rn_mono mt _) bl_X4_whereFrom_120 (i_aload_n rfl (i_iload_n rfl (i_iload_n rfl (t_cv3 (Rn_mono mt _) 126 rfl (Nat.le_of_ble_eq_true rfl) ?_)))))
            | (show Rch _ _ _ _ _ 126 _ _ _; refine Rch.blk' (Rn_mono mt _) bl_X4_whereFrom_126 (t_if_ne 132 129 rfl rfl (by first | exact hI_R | exact band_R | exact bor_R | exact bshr_R | exact lcm_R | omega) (fun hc => ?_) (fun hc => ?_)) <;> (first | (exfalso; omega) | skip))
            | (show Rch _ _ _ _ _ 129 _ _ _; refine Rch.blk' (Rn_mono mt _) bl_X4_whereFrom_129 (t_goto 153 rfl ?_))
            | (show Rch _ _ _ _ _ 132 _ _ _; refine Rch.blk' (Rn_mono mt _) bl_X4_whereFrom_132 (i_iload rfl (t_if_ne 142 137 rfl rfl (by first | exact hI_R | exact band_R | exact bor_R | exact bshr_R | exact lcm_R | omega) (fun hc => ?_) (fun hc => ?_))) <;> (first | (exfalso; omega) | skip))
            | (show Rch _ _ _ _ _ 137 _ _ _; refine Rch.blk' (Rn_mono mt _) bl_X4_whereFrom_137 (i_iload rfl (t_goto 144 rfl ?_)))
            | (show Rch _ _ _ _ _ 142 _ _ _; refine Rch.blk' (Rn_mono mt _) bl_X4_whereFrom_142 (i_iload rfl (t_none ?_)))
            | (show Rch _ _ _ _ _ 144 _ _ _; refine Rch.blk' (Rn_mono mt _) bl_X4_whereFrom_144 (i_istore6 trivial (i_iload rfl (i_istore7 trivial (i_iinc5 trivial k_1 (t_none ?_))))))
            | (show Rch _ _ _ _ _ 153 _ _ _; refine Rch.blk' (Rn_mono mt _) bl_X4_whereFrom_153 (i_iinc8 trivial k_1 (t_goto 70 rfl ?_)))
            | (show Rch _ _ _ _ _ 159 _ _ _; refine Rch.blk' (Rn_mono mt _) bl_X4_whereFrom_159 (i_iload_n rfl (t_if_ne 168 163 rfl rfl (by first | exact hI_R | exact band_R | exact bor_R | exact bshr_R | exact lcm_R | omega) (fun hc => ?_) (fun hc => ?_))) <;> (first | (exfalso; omega) | skip))
            | (show Rch _ _ _ _ _ 163 _ _ _; refine Rch.blk' (Rn_mono mt _) bl_X4_whereFrom_163 (i_iload rfl (t_goto 180 rfl ?_)))
            | (show Rch _ _ _ _ _ 168 _ _ _; refine Rch.blk' (Rn_mono mt _) bl_X4_whereFrom_168 (i_iload_n rfl (i_iconst k_1 (t_ic_ne 178 173 rfl rfl (by first | exact hI_R | exact band_R | exact bor_R | exact bshr_R | exact lcm_R | omega) (by first | exact hI_R | exact band_R | exact bor_R | exact bshr_R | exact lcm_R | omega) (fun hc => ?_) (fun hc => ?_)))) <;> (first | (exfalso; omega) | skip))
            | (show Rch _ _ _ _ _ 173 _ _ _; refine Rch.blk' (Rn_mono mt _) bl_X4_whereFrom_173 (i_iload rfl (t_goto 180 rfl ?_)))
            | (show Rch _ _ _ _ _ 178 _ _ _; refine Rch.blk' (Rn_mono mt _) bl_X4_whereFrom_178 (i_iload rfl (t_none ?_)))
            | (show Rch _ _ _ _ _ 180 _ _ _; refine Rch.blk' (Rn_mono mt _) bl_X4_whereFrom_180 (t_iret ?_)))
      · have i0 := ih0 (fun z => hC9 z.1) h' hF
        clear ih1 ih0
        repeat' (first
          | exact i0
          | (show Rn _ _ 145 _ _ _; refine c_X4_isShelf (by first | omega | exact hI_R) (fun _ _ => ?_) (fun _ => ?_))
          | (show Rn _ _ 110 _ _ _; refine c_X4_isPiece (by assumption) (by assumption) (by first | omega | exact hI_R) (fun _ _ => ?_) (fun _ => ?_))
          | (show Rn _ _ 105 _ _ _; refine c_X4_isIn (by first | omega | exact hI_R) (by first | omega | exact hI_R) (by first | omega | exact hI_R) (fun _ _ => ?_) (fun _ => ?_))
          | (show Rn _ _ 114 _ _ _; refine c_X4_isHere (by assumption) (by assumption) (by omega) (by omega) (fun _ _ => ?_) (fun _ => ?_))
          | (show Rn _ _ 146 _ _ _; refine c_X4_wrongRow (by assumption) (by assumption) (by omega) (fun _ _ _ _ => ?_))
          | (show Rn _ _ 143 _ _ _; refine c_X4_mayStand (by assumption) (by assumption) (by omega) (by omega) (by omega) (by omega) (fun _ => ?_) (fun _ => ?_))
          | (show Rn _ _ 109 _ _ _; refine c_X4_of ?_)
          | (show Rch _ _ _ _ _ 0 _ _ _; refine Rch.blk' (Rn_mono mt _) bl_X4_whereFrom_0 (i_iload_n rfl (t_cs1 (Rn_mono mt _) 4 rfl (Nat.le_of_ble_eq_true rfl) ?_)))
          | (show Rch _ _ _ _ _ 4 _ _ _; refine Rch.blk' (Rn_mono mt _) bl_X4_whereFrom_4 (t_if_eq 24 7 rfl rfl (by first | exact hI_R | exact band_R | exact bor_R | exact bshr_R | exact lcm_R | omega) (fun hc => ?_) (fun hc => ?_)) <;> (first | (exfalso; omega) | skip))
          | (show Rch _ _ _ _ _ 7 _ _ _; refine Rch.blk' (Rn_mono mt _) bl_X4_whereFrom_7 (i_aload_n rfl (i_iload_n rfl (t_cv2 (Rn_mono mt _) 12 rfl (Nat.le_of_ble_eq_true rfl) ?_))))
          | (show Rch _ _ _ _ _ 12 _ _ _; refine Rch.blk' (Rn_mono mt _) bl_X4_whereFrom_12 (t_if_eq 24 15 rfl rfl (by first | exact hI_R | exact band_R | exact bor_R | exact bshr_R | exact lcm_R | omega) (fun hc => ?_) (fun hc => ?_)) <;> (first | (exfalso; omega) | skip))
          | (show Rch _ _ _ _ _ 15 _ _ _; refine Rch.blk' (Rn_mono mt _) bl_X4_whereFrom_15 (i_iload_n rfl (i_iconst k_0 (i_iconst k_2 (t_cs3 (Rn_mono mt _) 21 rfl (Nat.le_of_ble_eq_true rfl) ?_)))))
          | (show Rch _ _ _ _ _ 21 _ _ _; refine Rch.blk' (Rn_mono mt _) bl_X4_whereFrom_21 (t_if_ne 26 24 rfl rfl (by first | exact hI_R | exact band_R | exact bor_R | exact bshr_R | exact lcm_R | omega) (fun hc => ?_) (fun hc => ?_)) <;> (first | (exfalso; omega) | skip))
          | (show Rch _ _ _ _ _ 24 _ _ _; refine Rch.blk' (Rn_mono mt _) bl_X4_whereFrom_24 (i_iconst k_m1 (t_iret ?_)))
          | (show Rch _ _ _ _ _ 26 _ _ _; refine Rch.blk' (Rn_mono mt _) bl_X4_whereFrom_26 (i_aload_n rfl (i_gfs rfl (i_iload_n rfl (t_cs2 (Rn_mono mt _) 34 rfl (Nat.le_of_ble_eq_true rfl) ?_)))))
          | (show Rch _ _ _ _ _ 34 _ _ _; refine Rch.blk' (Rn_mono mt _) bl_X4_whereFrom_34 (t_if_ne 40 37 rfl rfl (by first | exact hI_R | exact band_R | exact bor_R | exact bshr_R | exact lcm_R | omega) (fun hc => ?_) (fun hc => ?_)) <;> (first | (exfalso; omega) | skip))
          | (show Rch _ _ _ _ _ 37 _ _ _; refine Rch.blk' (Rn_mono mt _) bl_X4_whereFrom_37 (i_bipush k_m3 (t_iret ?_)))
          | (show Rch _ _ _ _ _ 40 _ _ _; refine Rch.blk' (Rn_mono mt _) bl_X4_whereFrom_40 (i_aload_n rfl (i_iload_n rfl (i_iconst k_m1 (t_cv3 (Rn_mono mt _) 46 rfl (Nat.le_of_ble_eq_true rfl) ?_)))))
          | (show Rch _ _ _ _ _ 46 _ _ _; refine Rch.blk' (Rn_mono mt _) bl_X4_whereFrom_46 (i_istore4 trivial (i_iload rfl (t_if_eq 56 53 rfl rfl (by first | exact hI_R | exact band_R | exact bor_R | exact bshr_R | exact lcm_R | omega) (fun hc => ?_) (fun hc => ?_)))) <;> (first | (exfalso; omega) | skip))
          | (show Rch _ _ _ _ _ 53 _ _ _; refine Rch.blk' (Rn_mono mt _) bl_X4_whereFrom_53 (i_iload rfl (t_iret ?_)))
          | (show Rch _ _ _ _ _ 56 _ _ _; refine Rch.blk' (Rn_mono mt _) bl_X4_whereFrom_56 (i_iconst k_0 (i_istore5 trivial (i_bipush k_m4 (i_istore6 trivial (i_bipush k_m4 (i_istore7 trivial (i_iconst k_0 (i_istore8 trivial (t_none ?_))))))))))
          | (show Rch _ _ _ _ _ 77 _ _ _; refine Rch.blk' (Rn_mono mt _) bl_X4_whereFrom_77 (i_aload_n rfl (i_iload_n rfl (i_iload rfl (t_cv3 (Rn_mono mt _) 84 rfl (Nat.le_of_ble_eq_true rfl) ?_)))))
          | (show Rch _ _ _ _ _ 84 _ _ _; refine Rch.blk' (Rn_mono mt _) bl_X4_whereFrom_84 (t_if_ne 90 87 rfl rfl (by first | exact hI_R | exact band_R | exact bor_R | exact bshr_R | exact lcm_R | omega) (fun hc => ?_) (fun hc => ?_)) <;> (first | (exfalso; omega) | skip))
          | (show Rch _ _ _ _ _ 87 _ _ _; refine Rch.blk' (Rn_mono mt _) bl_X4_whereFrom_87 (t_goto 153 rfl ?_))
          | (show Rch _ _ _ _ _ 90 _ _ _; refine Rch.blk' (Rn_mono mt _) bl_X4_whereFrom_90 (i_aload_n rfl (i_gfs rfl (i_aload_n rfl (i_gfs rfl (t_cs2 (Rn_mono mt _) 101 rfl (Nat.le_of_ble_eq_true rfl) ?_))))))
          | (show Rch _ _ _ _ _ 101 _ _ _; refine Rch.blk' (Rn_mono mt _) bl_X4_whereFrom_101 (i_aload_n rfl (i_gfs rfl (i_iload_n rfl (i_iconst k_3 (t_cs2 (Rn_mono mt _) 110 rfl (Nat.le_of_ble_eq_true rfl) ?_))))))
          | (show Rch _ _ _ _ _ 110 _ _ _; refine Rch.blk' (Rn_mono mt _) bl_X4_whereFrom_110 (i_iload rfl (i_iast rfl rfl (by omega) (by simp only [aln]; omega) (by simp only [aln]; omega) (i_aload_n rfl (i_gfs rfl (t_cs1 (Rn_mono mt _) 120 rfl (Nat.le_of_ble_eq_true rfl) ?_))))))
          | (show Rch _ _ _ _ _ 120 _ _ _; refine Rch.blk' (Rn_mono mt _) bl_X4_whereFrom_120 (i_aload_n rfl (i_iload_n rfl (i_iload_n rfl (t_cv3 (Rn_mono mt _) 126 rfl (Nat.le_of_ble_eq_true rfl) ?_)))))
          | (show Rch _ _ _ _ _ 126 _ _ _; refine Rch.blk' (Rn_mono mt _) bl_X4_whereFrom_126 (t_if_ne 132 129 rfl rfl (by first | exact hI_R | exact band_R | exact bor_R | exact bshr_R | exact lcm_R | omega) (fun hc => ?_) (fun hc => ?_)) <;> (first | (exfalso; omega) | skip))
          | (show Rch _ _ _ _ _ 129 _ _ _; refine Rch.blk' (Rn_mono mt _) bl_X4_whereFrom_129 (t_goto 153 rfl ?_))
          | (show Rch _ _ _ _ _ 132 _ _ _; refine Rch.blk' (Rn_mono mt _) bl_X4_whereFrom_132 (i_iload rfl (t_if_ne 142 137 rfl rfl (by first | exact hI_R | exact band_R | exact bor_R | exact bshr_R | exact lcm_R | omega) (fun hc => ?_) (fun hc => ?_))) <;> (first | (exfalso; omega) | skip))
          | (show Rch _ _ _ _ _ 137 _ _ _; refine Rch.blk' (Rn_mono mt _) bl_X4_whereFrom_137 (i_iload rfl (t_goto 144 rfl ?_)))
          | (show Rch _ _ _ _ _ 142 _ _ _; refine Rch.blk' (Rn_mono mt _) bl_X4_whereFrom_142 (i_iload rfl (t_none ?_)))
          | (show Rch _ _ _ _ _ 144 _ _ _; refine Rch.blk' (Rn_mono mt _) bl_X4_whereFrom_144 (i_istore6 trivial (i_iload rfl (i_istore7 trivial (i_iinc5 trivial k_1 (t_none ?_))))))
          | (show Rch _ _ _ _ _ 153 _ _ _; refine Rch.blk' (Rn_mono mt _) bl_X4_whereFrom_153 (i_iinc8 trivial k_1 (t_goto 70 rfl ?_)))
          | (show Rch _ _ _ _ _ 159 _ _ _; refine Rch.blk' (Rn_mono mt _) bl_X4_whereFrom_159 (i_iload_n rfl (t_if_ne 168 163 rfl rfl (by first | exact hI_R | exact band_R | exact bor_R | exact bshr_R | exact lcm_R | omega) (fun hc => ?_) (fun hc => ?_))) <;> (first | (exfalso; omega) | skip))
          | (show Rch _ _ _ _ _ 163 _ _ _; refine Rch.blk' (Rn_mono mt _) bl_X4_whereFrom_163 (i_iload rfl (t_goto 180 rfl ?_)))
          | (show Rch _ _ _ _ _ 168 _ _ _; refine Rch.blk' (Rn_mono mt _) bl_X4_whereFrom_168 (i_iload_n rfl (i_iconst k_1 (t_ic_ne 178 173 rfl rfl (by first | exact hI_R | exact band_R | exact bor_R | exact bshr_R | exact lcm_R | omega) (by first | exact hI_R | exact band_R | exact bor_R | exact bshr_R | exact lcm_R | omega) (fun hc => ?_) (fun hc => ?_)))) <;> (first | (exfalso; omega) | skip))
          | (show Rch _ _ _ _ _ 173 _ _ _; refine Rch.blk' (Rn_mono mt _) bl_X4_whereFrom_173 (i_iload rfl (t_goto 180 rfl ?_)))
          | (show Rch _ _ _ _ _ 178 _ _ _; refine Rch.blk' (Rn_mono mt _) bl_X4_whereFrom_178 (i_iload rfl (t_none ?_)))
          | (show Rch _ _ _ _ _ 180 _ _ _; refine Rch.blk' (Rn_mono mt _) bl_X4_whereFrom_180 (t_iret ?_)))
    · obtain rfl : k = 36 := by omega
      have kk : ∀ v, v = (if w = 0 then cnt (wfC G S x p) 36 else if w = 1 then GB (wfC G S x p) (fun _ => 0) 36 else GB (wfC G S x p) (fun i => i) 36) → Q (some (ai (I v))) h' := fun v e => hq _ _ (by unfold vWhereFrom; rw [if_pos ⟨⟨x0, x1⟩, ⟨p0, p1⟩, hw2⟩, if_pos hb, if_pos r0]; exact e) (hF.jy (by omega))
      clear ih hq k1 k2 k3
      refine Rch.blk' (Rn_mono mt _) bl_X4_whereFrom_70 (i_iload rfl (i_bipush k_36 (t_ic_ge 159 77 rfl rfl (by first | exact hI_R | exact band_R | exact bor_R | exact bshr_R | exact lcm_R | omega) (by first | exact hI_R | exact band_R | exact bor_R | exact bshr_R | exact lcm_R | omega) (fun hc => ?_) (fun hc => ?_)))) <;> (first | (exfalso; omega) | skip)
      repeat' (first
        | ((with_reducible refine kk _ ?_) <;> omega)
        | (show Rn _ _ 145 _ _ _; refine c_X4_isShelf (by first | omega | exact hI_R) (fun _ _ => ?_) (fun _ => ?_))
        | (show Rn _ _ 110 _ _ _; refine c_X4_isPiece (by assumption) (by assumption) (by first | omega | exact hI_R) (fun _ _ => ?_) (fun _ => ?_))
        | (show Rn _ _ 105 _ _ _; refine c_X4_isIn (by first | omega | exact hI_R) (by first | omega | exact hI_R) (by first | omega | exact hI_R) (fun _ _ => ?_) (fun _ => ?_))
        | (show Rn _ _ 114 _ _ _; refine c_X4_isHere (by assumption) (by assumption) (by omega) (by omega) (fun _ _ => ?_) (fun _ => ?_))
        | (show Rn _ _ 146 _ _ _; refine c_X4_wrongRow (by assumption) (by assumption) (by omega) (fun _ _ _ _ => ?_))
        | (show Rn _ _ 143 _ _ _; refine c_X4_mayStand (by assumption) (by assumption) (by omega) (by omega) (by omega) (by omega) (fun _ => ?_) (fun _ => ?_))
        | (show Rn _ _ 109 _ _ _; refine c_X4_of ?_)
        | (show Rch _ _ _ _ _ 0 _ _ _; refine Rch.blk' (Rn_mono mt _) bl_X4_whereFrom_0 (i_iload_n rfl (t_cs1 (Rn_mono mt _) 4 rfl (Nat.le_of_ble_eq_true rfl) ?_)))
        | (show Rch _ _ _ _ _ 4 _ _ _; refine Rch.blk' (Rn_mono mt _) bl_X4_whereFrom_4 (t_if_eq 24 7 rfl rfl (by first | exact hI_R | exact band_R | exact bor_R | exact bshr_R | exact lcm_R | omega) (fun hc => ?_) (fun hc => ?_)) <;> (first | (exfalso; omega) | skip))
        | (show Rch _ _ _ _ _ 7 _ _ _; refine Rch.blk' (Rn_mono mt _) bl_X4_whereFrom_7 (i_aload_n rfl (i_iload_n rfl (t_cv2 (Rn_mono mt _) 12 rfl (Nat.le_of_ble_eq_true rfl) ?_))))
        | (show Rch _ _ _ _ _ 12 _ _ _; refine Rch.blk' (Rn_mono mt _) bl_X4_whereFrom_12 (t_if_eq 24 15 rfl rfl (by first | exact hI_R | exact band_R | exact bor_R | exact bshr_R | exact lcm_R | omega) (fun hc => ?_) (fun hc => ?_)) <;> (first | (exfalso; omega) | skip))
        | (show Rch _ _ _ _ _ 15 _ _ _; refine Rch.blk' (Rn_mono mt _) bl_X4_whereFrom_15 (i_iload_n rfl (i_iconst k_0 (i_iconst k_2 (t_cs3 (Rn_mono mt _) 21 rfl (Nat.le_of_ble_eq_true rfl) ?_)))))
        | (show Rch _ _ _ _ _ 21 _ _ _; refine Rch.blk' (Rn_mono mt _) bl_X4_whereFrom_21 (t_if_ne 26 24 rfl rfl (by first | exact hI_R | exact band_R | exact bor_R | exact bshr_R | exact lcm_R | omega) (fun hc => ?_) (fun hc => ?_)) <;> (first | (exfalso; omega) | skip))
        | (show Rch _ _ _ _ _ 24 _ _ _; refine Rch.blk' (Rn_mono mt _) bl_X4_whereFrom_24 (i_iconst k_m1 (t_iret ?_)))
        | (show Rch _ _ _ _ _ 26 _ _ _; refine Rch.blk' (Rn_mono mt _) bl_X4_whereFrom_26 (i_aload_n rfl (i_gfs rfl (i_iload_n rfl (t_cs2 (Rn_mono mt _) 34 rfl (Nat.le_of_ble_eq_true rfl) ?_)))))
        | (show Rch _ _ _ _ _ 34 _ _ _; refine Rch.blk' (Rn_mono mt _) bl_X4_whereFrom_34 (t_if_ne 40 37 rfl rfl (by first | exact hI_R | exact band_R | exact bor_R | exact bshr_R | exact lcm_R | omega) (fun hc => ?_) (fun hc => ?_)) <;> (first | (exfalso; omega) | skip))
        | (show Rch _ _ _ _ _ 37 _ _ _; refine Rch.blk' (Rn_mono mt _) bl_X4_whereFrom_37 (i_bipush k_m3 (t_iret ?_)))
        | (show Rch _ _ _ _ _ 40 _ _ _; refine Rch.blk' (Rn_mono mt _) bl_X4_whereFrom_40 (i_aload_n rfl (i_iload_n rfl (i_iconst k_m1 (t_cv3 (Rn_mono mt _) 46 rfl (Nat.le_of_ble_eq_true rfl) ?_)))))
        | (show Rch _ _ _ _ _ 46 _ _ _; refine Rch.blk' (Rn_mono mt _) bl_X4_whereFrom_46 (i_istore4 trivial (i_iload rfl (t_if_eq 56 53 rfl rfl (by first | exact hI_R | exact band_R | exact bor_R | exact bshr_R | exact lcm_R | omega) (fun hc => ?_) (fun hc => ?_)))) <;> (first | (exfalso; omega) | skip))
        | (show Rch _ _ _ _ _ 53 _ _ _; refine Rch.blk' (Rn_mono mt _) bl_X4_whereFrom_53 (i_iload rfl (t_iret ?_)))
        | (show Rch _ _ _ _ _ 56 _ _ _; refine Rch.blk' (Rn_mono mt _) bl_X4_whereFrom_56 (i_iconst k_0 (i_istore5 trivial (i_bipush k_m4 (i_istore6 trivial (i_bipush k_m4 (i_istore7 trivial (i_iconst k_0 (i_istore8 trivial (t_none ?_))))))))))
        | (show Rch _ _ _ _ _ 77 _ _ _; refine Rch.blk' (Rn_mono mt _) bl_X4_whereFrom_77 (i_aload_n rfl (i_iload_n rfl (i_iload rfl (t_cv3 (Rn_mono mt _) 84 rfl (Nat.le_of_ble_eq_true rfl) ?_)))))
        | (show Rch _ _ _ _ _ 84 _ _ _; refine Rch.blk' (Rn_mono mt _) bl_X4_whereFrom_84 (t_if_ne 90 87 rfl rfl (by first | exact hI_R | exact band_R | exact bor_R | exact bshr_R | exact lcm_R | omega) (fun hc => ?_) (fun hc => ?_)) <;> (first | (exfalso; omega) | skip))
        | (show Rch _ _ _ _ _ 87 _ _ _; refine Rch.blk' (Rn_mono mt _) bl_X4_whereFrom_87 (t_goto 153 rfl ?_))
        | (show Rch _ _ _ _ _ 90 _ _ _; refine Rch.blk' (Rn_mono mt _) bl_X4_whereFrom_90 (i_aload_n rfl (i_gfs rfl (i_aload_n rfl (i_gfs rfl (t_cs2 (Rn_mono mt _) 101 rfl (Nat.le_of_ble_eq_true rfl) ?_))))))
        | (show Rch _ _ _ _ _ 101 _ _ _; refine Rch.blk' (Rn_mono mt _) bl_X4_whereFrom_101 (i_aload_n rfl (i_gfs rfl (i_iload_n rfl (i_iconst k_3 (t_cs2 (Rn_mono mt _) 110 rfl (Nat.le_of_ble_eq_true rfl) ?_))))))
        | (show Rch _ _ _ _ _ 110 _ _ _; refine Rch.blk' (Rn_mono mt _) bl_X4_whereFrom_110 (i_iload rfl (i_iast rfl rfl (by omega) (by simp only [aln]; omega) (by simp only [aln]; omega) (i_aload_n rfl (i_gfs rfl (t_cs1 (Rn_mono mt _) 120 rfl (Nat.le_of_ble_eq_true rfl) ?_))))))
        | (show Rch _ _ _ _ _ 120 _ _ _; refine Rch.blk' (Rn_mono mt _) bl_X4_whereFrom_120 (i_aload_n rfl (i_iload_n rfl (i_iload_n rfl (t_cv3 (Rn_mono mt _) 126 rfl (Nat.le_of_ble_eq_true rfl) ?_)))))
        | (show Rch _ _ _ _ _ 126 _ _ _; refine Rch.blk' (Rn_mono mt _) bl_X4_whereFrom_126 (t_if_ne 132 129 rfl rfl (by first | exact hI_R | exact band_R | exact bor_R | exact bshr_R | exact lcm_R | omega) (fun hc => ?_) (fun hc => ?_)) <;> (first | (exfalso; omega) | skip))
        | (show Rch _ _ _ _ _ 129 _ _ _; refine Rch.blk' (Rn_mono mt _) bl_X4_whereFrom_129 (t_goto 153 rfl ?_))
        | (show Rch _ _ _ _ _ 132 _ _ _; refine Rch.blk' (Rn_mono mt _) bl_X4_whereFrom_132 (i_iload rfl (t_if_ne 142 137 rfl rfl (by first | exact hI_R | exact band_R | exact bor_R | exact bshr_R | exact lcm_R | omega) (fun hc => ?_) (fun hc => ?_))) <;> (first | (exfalso; omega) | skip))
        | (show Rch _ _ _ _ _ 137 _ _ _; refine Rch.blk' (Rn_mono mt _) bl_X4_whereFrom_137 (i_iload rfl (t_goto 144 rfl ?_)))
        | (show Rch _ _ _ _ _ 142 _ _ _; refine Rch.blk' (Rn_mono mt _) bl_X4_whereFrom_142 (i_iload rfl (t_none ?_)))
        | (show Rch _ _ _ _ _ 144 _ _ _; refine Rch.blk' (Rn_mono mt _) bl_X4_whereFrom_144 (i_istore6 trivial (i_iload rfl (i_istore7 trivial (i_iinc5 trivial k_1 (t_none ?_))))))
        | (show Rch _ _ _ _ _ 153 _ _ _; refine Rch.blk' (Rn_mono mt _) bl_X4_whereFrom_153 (i_iinc8 trivial k_1 (t_goto 70 rfl ?_)))
        | (show Rch _ _ _ _ _ 159 _ _ _; refine Rch.blk' (Rn_mono mt _) bl_X4_whereFrom_159 (i_iload_n rfl (t_if_ne 168 163 rfl rfl (by first | exact hI_R | exact band_R | exact bor_R | exact bshr_R | exact lcm_R | omega) (fun hc => ?_) (fun hc => ?_))) <;> (first | (exfalso; omega) | skip))
        | (show Rch _ _ _ _ _ 163 _ _ _; refine Rch.blk' (Rn_mono mt _) bl_X4_whereFrom_163 (i_iload rfl (t_goto 180 rfl ?_)))
        | (show Rch _ _ _ _ _ 168 _ _ _; refine Rch.blk' (Rn_mono mt _) bl_X4_whereFrom_168 (i_iload_n rfl (i_iconst k_1 (t_ic_ne 178 173 rfl rfl (by first | exact hI_R | exact band_R | exact bor_R | exact bshr_R | exact lcm_R | omega) (by first | exact hI_R | exact band_R | exact bor_R | exact bshr_R | exact lcm_R | omega) (fun hc => ?_) (fun hc => ?_)))) <;> (first | (exfalso; omega) | skip))
        | (show Rch _ _ _ _ _ 173 _ _ _; refine Rch.blk' (Rn_mono mt _) bl_X4_whereFrom_173 (i_iload rfl (t_goto 180 rfl ?_)))
        | (show Rch _ _ _ _ _ 178 _ _ _; refine Rch.blk' (Rn_mono mt _) bl_X4_whereFrom_178 (i_iload rfl (t_none ?_)))
        | (show Rch _ _ _ _ _ 180 _ _ _; refine Rch.blk' (Rn_mono mt _) bl_X4_whereFrom_180 (t_iret ?_)))
  have ky := fun a1 a2 a3 u a4 => key a1 a2 a3 u a4 0 (by omega) (by omega) h FrR.rf
  clear key hq
  repeat' (first
    | exact ky (by omega) (by omega) (by omega) _ (by omega)
    | ((with_reducible refine k1 _ ?_ ?_) <;> omega)
    | ((with_reducible refine k2 _ ?_ ?_ ?_) <;> omega)
    | ((with_reducible refine k3 _ ?_ ?_ ?_ ?_) <;> omega)
    | (show Rn _ _ 145 _ _ _; refine c_X4_isShelf (by first | omega | exact hI_R) (fun _ _ => ?_) (fun _ => ?_))
    | (show Rn _ _ 110 _ _ _; refine c_X4_isPiece (by assumption) (by assumption) (by first | omega | exact hI_R) (fun _ _ => ?_) (fun _ => ?_))
    | (show Rn _ _ 105 _ _ _; refine c_X4_isIn (by first | omega | exact hI_R) (by first | omega | exact hI_R) (by first | omega | exact hI_R) (fun _ _ => ?_) (fun _ => ?_))
    | (show Rn _ _ 114 _ _ _; refine c_X4_isHere (by assumption) (by assumption) (by omega) (by omega) (fun _ _ => ?_) (fun _ => ?_))
    | (show Rn _ _ 146 _ _ _; refine c_X4_wrongRow (by assumption) (by assumption) (by omega) (fun _ _ _ _ => ?_))
    | (show Rn _ _ 143 _ _ _; refine c_X4_mayStand (by assumption) (by assumption) (by omega) (by omega) (by omega) (by omega) (fun _ => ?_) (fun _ => ?_))
    | (show Rn _ _ 109 _ _ _; refine c_X4_of ?_)
    | (show Rch _ _ _ _ _ 0 _ _ _; refine Rch.blk' (Rn_mono mt _) bl_X4_whereFrom_0 (i_iload_n rfl (t_cs1 (Rn_mono mt _) 4 rfl (Nat.le_of_ble_eq_true rfl) ?_)))
    | (show Rch _ _ _ _ _ 4 _ _ _; refine Rch.blk' (Rn_mono mt _) bl_X4_whereFrom_4 (t_if_eq 24 7 rfl rfl (by first | exact hI_R | exact band_R | exact bor_R | exact bshr_R | exact lcm_R | omega) (fun hc => ?_) (fun hc => ?_)) <;> (first | (exfalso; omega) | skip))
    | (show Rch _ _ _ _ _ 7 _ _ _; refine Rch.blk' (Rn_mono mt _) bl_X4_whereFrom_7 (i_aload_n rfl (i_iload_n rfl (t_cv2 (Rn_mono mt _) 12 rfl (Nat.le_of_ble_eq_true rfl) ?_))))
    | (show Rch _ _ _ _ _ 12 _ _ _; refine Rch.blk' (Rn_mono mt _) bl_X4_whereFrom_12 (t_if_eq 24 15 rfl rfl (by first | exact hI_R | exact band_R | exact bor_R | exact bshr_R | exact lcm_R | omega) (fun hc => ?_) (fun hc => ?_)) <;> (first | (exfalso; omega) | skip))
    | (show Rch _ _ _ _ _ 15 _ _ _; refine Rch.blk' (Rn_mono mt _) bl_X4_whereFrom_15 (i_iload_n rfl (i_iconst k_0 (i_iconst k_2 (t_cs3 (Rn_mono mt _) 21 rfl (Nat.le_of_ble_eq_true rfl) ?_)))))
    | (show Rch _ _ _ _ _ 21 _ _ _; refine Rch.blk' (Rn_mono mt _) bl_X4_whereFrom_21 (t_if_ne 26 24 rfl rfl (by first | exact hI_R | exact band_R | exact bor_R | exact bshr_R | exact lcm_R | omega) (fun hc => ?_) (fun hc => ?_)) <;> (first | (exfalso; omega) | skip))
    | (show Rch _ _ _ _ _ 24 _ _ _; refine Rch.blk' (Rn_mono mt _) bl_X4_whereFrom_24 (i_iconst k_m1 (t_iret ?_)))
    | (show Rch _ _ _ _ _ 26 _ _ _; refine Rch.blk' (Rn_mono mt _) bl_X4_whereFrom_26 (i_aload_n rfl (i_gfs rfl (i_iload_n rfl (t_cs2 (Rn_mono mt _) 34 rfl (Nat.le_of_ble_eq_true rfl) ?_)))))
    | (show Rch _ _ _ _ _ 34 _ _ _; refine Rch.blk' (Rn_mono mt _) bl_X4_whereFrom_34 (t_if_ne 40 37 rfl rfl (by first | exact hI_R | exact band_R | exact bor_R | exact bshr_R | exact lcm_R | omega) (fun hc => ?_) (fun hc => ?_)) <;> (first | (exfalso; omega) | skip))
    | (show Rch _ _ _ _ _ 37 _ _ _; refine Rch.blk' (Rn_mono mt _) bl_X4_whereFrom_37 (i_bipush k_m3 (t_iret ?_)))
    | (show Rch _ _ _ _ _ 40 _ _ _; refine Rch.blk' (Rn_mono mt _) bl_X4_whereFrom_40 (i_aload_n rfl (i_iload_n rfl (i_iconst k_m1 (t_cv3 (Rn_mono mt _) 46 rfl (Nat.le_of_ble_eq_true rfl) ?_)))))
    | (show Rch _ _ _ _ _ 46 _ _ _; refine Rch.blk' (Rn_mono mt _) bl_X4_whereFrom_46 (i_istore4 trivial (i_iload rfl (t_if_eq 56 53 rfl rfl (by first | exact hI_R | exact band_R | exact bor_R | exact bshr_R | exact lcm_R | omega) (fun hc => ?_) (fun hc => ?_)))) <;> (first | (exfalso; omega) | skip))
    | (show Rch _ _ _ _ _ 53 _ _ _; refine Rch.blk' (Rn_mono mt _) bl_X4_whereFrom_53 (i_iload rfl (t_iret ?_)))
    | (show Rch _ _ _ _ _ 56 _ _ _; refine Rch.blk' (Rn_mono mt _) bl_X4_whereFrom_56 (i_iconst k_0 (i_istore5 trivial (i_bipush k_m4 (i_istore6 trivial (i_bipush k_m4 (i_istore7 trivial (i_iconst k_0 (i_istore8 trivial (t_none ?_))))))))))
    | (show Rch _ _ _ _ _ 77 _ _ _; refine Rch.blk' (Rn_mono mt _) bl_X4_whereFrom_77 (i_aload_n rfl (i_iload_n rfl (i_iload rfl (t_cv3 (Rn_mono mt _) 84 rfl (Nat.le_of_ble_eq_true rfl) ?_)))))
    | (show Rch _ _ _ _ _ 84 _ _ _; refine Rch.blk' (Rn_mono mt _) bl_X4_whereFrom_84 (t_if_ne 90 87 rfl rfl (by first | exact hI_R | exact band_R | exact bor_R | exact bshr_R | exact lcm_R | omega) (fun hc => ?_) (fun hc => ?_)) <;> (first | (exfalso; omega) | skip))
    | (show Rch _ _ _ _ _ 87 _ _ _; refine Rch.blk' (Rn_mono mt _) bl_X4_whereFrom_87 (t_goto 153 rfl ?_))
    | (show Rch _ _ _ _ _ 90 _ _ _; refine Rch.blk' (Rn_mono mt _) bl_X4_whereFrom_90 (i_aload_n rfl (i_gfs rfl (i_aload_n rfl (i_gfs rfl (t_cs2 (Rn_mono mt _) 101 rfl (Nat.le_of_ble_eq_true rfl) ?_))))))
    | (show Rch _ _ _ _ _ 101 _ _ _; refine Rch.blk' (Rn_mono mt _) bl_X4_whereFrom_101 (i_aload_n rfl (i_gfs rfl (i_iload_n rfl (i_iconst k_3 (t_cs2 (Rn_mono mt _) 110 rfl (Nat.le_of_ble_eq_true rfl) ?_))))))
    | (show Rch _ _ _ _ _ 110 _ _ _; refine Rch.blk' (Rn_mono mt _) bl_X4_whereFrom_110 (i_iload rfl (i_iast rfl rfl (by omega) (by simp only [aln]; omega) (by simp only [aln]; omega) (i_aload_n rfl (i_gfs rfl (t_cs1 (Rn_mono mt _) 120 rfl (Nat.le_of_ble_eq_true rfl) ?_))))))
    | (show Rch _ _ _ _ _ 120 _ _ _; refine Rch.blk' (Rn_mono mt _) bl_X4_whereFrom_120 (i_aload_n rfl (i_iload_n rfl (i_iload_n rfl (t_cv3 (Rn_mono mt _) 126 rfl (Nat.le_of_ble_eq_true rfl) ?_)))))
    | (show Rch _ _ _ _ _ 126 _ _ _; refine Rch.blk' (Rn_mono mt _) bl_X4_whereFrom_126 (t_if_ne 132 129 rfl rfl (by first | exact hI_R | exact band_R | exact bor_R | exact bshr_R | exact lcm_R | omega) (fun hc => ?_) (fun hc => ?_)) <;> (first | (exfalso; omega) | skip))
    | (show Rch _ _ _ _ _ 129 _ _ _; refine Rch.blk' (Rn_mono mt _) bl_X4_whereFrom_129 (t_goto 153 rfl ?_))
    | (show Rch _ _ _ _ _ 132 _ _ _; refine Rch.blk' (Rn_mono mt _) bl_X4_whereFrom_132 (i_iload rfl (t_if_ne 142 137 rfl rfl (by first | exact hI_R | exact band_R | exact bor_R | exact bshr_R | exact lcm_R | omega) (fun hc => ?_) (fun hc => ?_))) <;> (first | (exfalso; omega) | skip))
    | (show Rch _ _ _ _ _ 137 _ _ _; refine Rch.blk' (Rn_mono mt _) bl_X4_whereFrom_137 (i_iload rfl (t_goto 144 rfl ?_)))
    | (show Rch _ _ _ _ _ 142 _ _ _; refine Rch.blk' (Rn_mono mt _) bl_X4_whereFrom_142 (i_iload rfl (t_none ?_)))
    | (show Rch _ _ _ _ _ 144 _ _ _; refine Rch.blk' (Rn_mono mt _) bl_X4_whereFrom_144 (i_istore6 trivial (i_iload rfl (i_istore7 trivial (i_iinc5 trivial k_1 (t_none ?_))))))
    | (show Rch _ _ _ _ _ 153 _ _ _; refine Rch.blk' (Rn_mono mt _) bl_X4_whereFrom_153 (i_iinc8 trivial k_1 (t_goto 70 rfl ?_)))
    | (show Rch _ _ _ _ _ 159 _ _ _; refine Rch.blk' (Rn_mono mt _) bl_X4_whereFrom_159 (i_iload_n rfl (t_if_ne 168 163 rfl rfl (by first | exact hI_R | exact band_R | exact bor_R | exact bshr_R | exact lcm_R | omega) (fun hc => ?_) (fun hc => ?_))) <;> (first | (exfalso; omega) | skip))
    | (show Rch _ _ _ _ _ 163 _ _ _; refine Rch.blk' (Rn_mono mt _) bl_X4_whereFrom_163 (i_iload rfl (t_goto 180 rfl ?_)))
    | (show Rch _ _ _ _ _ 168 _ _ _; refine Rch.blk' (Rn_mono mt _) bl_X4_whereFrom_168 (i_iload_n rfl (i_iconst k_1 (t_ic_ne 178 173 rfl rfl (by first | exact hI_R | exact band_R | exact bor_R | exact bshr_R | exact lcm_R | omega) (by first | exact hI_R | exact band_R | exact bor_R | exact bshr_R | exact lcm_R | omega) (fun hc => ?_) (fun hc => ?_)))) <;> (first | (exfalso; omega) | skip))
    | (show Rch _ _ _ _ _ 173 _ _ _; refine Rch.blk' (Rn_mono mt _) bl_X4_whereFrom_173 (i_iload rfl (t_goto 180 rfl ?_)))
    | (show Rch _ _ _ _ _ 178 _ _ _; refine Rch.blk' (Rn_mono mt _) bl_X4_whereFrom_178 (i_iload rfl (t_none ?_)))
    | (show Rch _ _ _ _ _ 180 _ _ _; refine Rch.blk' (Rn_mono mt _) bl_X4_whereFrom_180 (t_iret ?_)))
end C32

