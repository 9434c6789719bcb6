/-! A ROUND OF THE LAW; THE LAW FROM THE BOARD ON -/
section C78
variable {d L N : Nat} {Rt : Option AV → Mem → Prop} {h : Mem} {i : Int}
theorem lw_round {G Gi : Bd} {T : Int} {S : Sv} (hL : L = N + 1) (hN : N ≤ 1000) (i0 : 11 ≤ i) (i1 : i < 40) (hk : CK d L Rt i) (hW : CW h G T Gi S) (hO : OKB G) (hy : dy G ≤ 999) (hT : T = 0 ∨ T = 1) (hTi : T = 1 → OKB Gi ∧ dy Gi ≤ 999) (hK : OKS S) (hE : OKE S) (u4 u5 u6 u7 u8 u9 u10 u11 u12 u13 u14 u15 u16 u17 u18 u19 u20 u21 u22 : Option AV) : LR d L Rt 40 [some (ar 22 0), some (ar 2 0), some (ar 12 0), some (ai (I i)), u4, u5, u6, u7, u8, u9, u10, u11, u12, u13, u14, u15, u16, u17, u18, u19, u20, u21, u22] h := by
  have g_n := hO.n
  have key : ∀ q : Int, inR q → ∀ (k : Int), k ≤ 36 → 0 ≤ k → ∀ (h : Mem) (x11 : Option AV), CW h G T Gi S → LR d L Rt 73 [some (ar 22 0), some (ar 2 0), some (ar 12 0), some (ai (I i)), some (ai (I q)), some (al (SGT G)), none, some (ai (I (nn G))), some (ai (I (BT (TS G)))), some (ai (I (BT (fun j => j < nn G ∧ sq G j < k)))), some (ai (I k)), x11, u12, u13, u14, u15, u16, u17, u18, u19, u20, u21, u22] h := by
    intro q hq
    refine up_ind (fun k hk1 ih k0 h x11 hW => ?_)
    by_cases hk2 : k < 36
    · have ih := ih hk2 (by omega)
      have g_o := ons_c G k
      refine Rch.blk' (Rn_mono mt _ _) bl_L_law_73 (i_iload rfl (i_bipush k_36 (t_ic_ge 142 80 rfl rfl (by first | with_reducible exact hI_R | with_reducible exact lcm_R | with_reducible exact band_R | with_reducible exact bor_R | with_reducible exact bshr_R | with_reducible exact bshl_R | omega) (by first | with_reducible exact hI_R | with_reducible exact lcm_R | with_reducible exact band_R | with_reducible exact bor_R | with_reducible exact bshr_R | with_reducible exact bshl_R | omega) (fun hc => ?_) (fun hc => ?_)))) <;> (first | (exfalso; omega) | skip)
      refine Rch.blk' (Rn_mono mt _ _) bl_L_law_80 (i_aload_n rfl (i_iload rfl (t_cv2 (Rn_mono mt _ _) 86 rfl (Nat.le_of_ble_eq_true rfl) ?_)))
      refine k_on hW hO ⟨k0, hk2⟩ (fun h hW => ?_)
      rcases g_o with ⟨e, e1⟩ | ⟨o0, o1, o2⟩
      · have eB : bor (BT (fun j => j < nn G ∧ sq G j < k)) 0 = BT (fun j => j < nn G ∧ sq G j < k + 1) := by
          rw [b_or0]
          refine BT_ext (fun j j0 _ => ⟨fun z => ⟨z.1, by have := z.2; omega⟩, fun z => ⟨z.1, ?_⟩⟩)
          have := e1 j j0 z.1
          have := z.2
          omega
        rw [e]
        have ih := ih h (some (ai (I (-4)))) hW
        rw [← eB] at ih
        repeat' (first
          | exact ih
          | (show Rn _ _ _ 77 _ _ _; refine c_L_cell rfl (by omega) (by omega) (by omega) (fun _ _ => ?_))
          | (show Rn _ _ _ 87 _ _ _; refine c_L_bits (fun _ _ => ?_))
          | (show Rch _ _ _ _ _ 86 _ _ _; refine Rch.blk' (Rn_mono mt _ _) bl_L_law_86 (i_istore11 trivial (i_iload rfl (t_if_lt 118 93 rfl rfl (by first | with_reducible exact hI_R | with_reducible exact lcm_R | with_reducible exact band_R | with_reducible exact bor_R | with_reducible exact bshr_R | with_reducible exact bshl_R | omega) (fun hc => ?_) (fun hc => ?_)))) <;> (first | (exfalso; omega) | skip))
          | (show Rch _ _ _ _ _ 93 _ _ _; refine Rch.blk' (Rn_mono mt _ _) bl_L_law_93 (i_aload_n rfl (i_iload rfl (i_iconst k_3 (t_cv3 (Rn_mono mt _ _) 100 rfl (Nat.le_of_ble_eq_true rfl) ?_)))))
          | (show Rch _ _ _ _ _ 100 _ _ _; refine Rch.blk' (Rn_mono mt _ _) bl_L_law_100 (i_iload rfl (t_ic_ne 116 105 rfl rfl (by first | with_reducible exact hI_R | with_reducible exact lcm_R | with_reducible exact band_R | with_reducible exact bor_R | with_reducible exact bshr_R | with_reducible exact bshl_R | omega) (by first | with_reducible exact hI_R | with_reducible exact lcm_R | with_reducible exact band_R | with_reducible exact bor_R | with_reducible exact bshr_R | with_reducible exact bshl_R | omega) (fun hc => ?_) (fun hc => ?_))) <;> (first | (exfalso; omega) | skip))
          | (show Rch _ _ _ _ _ 105 _ _ _; refine Rch.blk' (Rn_mono mt _ _) bl_L_law_105 (i_iload rfl (i_iload rfl (i_ishr (i_iconst k_1 (i_iand (i_iconst k_1 (t_ic_ne 118 116 rfl rfl (by first | with_reducible exact hI_R | with_reducible exact lcm_R | with_reducible exact band_R | with_reducible exact bor_R | with_reducible exact bshr_R | with_reducible exact bshl_R | omega) (by first | with_reducible exact hI_R | with_reducible exact lcm_R | with_reducible exact band_R | with_reducible exact bor_R | with_reducible exact bshr_R | with_reducible exact bshl_R | omega) (fun hc => ?_) (fun hc => ?_)))))))) <;> (first | (exfalso; omega) | skip))
          | (show Rch _ _ _ _ _ 116 _ _ _; refine Rch.blk' (Rn_mono mt _ _) bl_L_law_116 (i_iconst k_0 (t_zret (by omega) ?_)))
          | (show Rch _ _ _ _ _ 118 _ _ _; refine Rch.blk' (Rn_mono mt _ _) bl_L_law_118 (i_iload rfl (i_iload rfl (t_if_ge 129 125 rfl rfl (by first | with_reducible exact hI_R | with_reducible exact lcm_R | with_reducible exact band_R | with_reducible exact bor_R | with_reducible exact bshr_R | with_reducible exact bshl_R | omega) (fun hc => ?_) (fun hc => ?_)))) <;> (first | (exfalso; omega) | skip))
          | (show Rch _ _ _ _ _ 125 _ _ _; refine Rch.blk' (Rn_mono mt _ _) bl_L_law_125 (i_iconst k_0 (t_goto 133 rfl ?_)))
          | (show Rch _ _ _ _ _ 129 _ _ _; refine Rch.blk' (Rn_mono mt _ _) bl_L_law_129 (i_iconst k_1 (i_iload rfl (i_ishl (t_none ?_)))))
          | (show Rch _ _ _ _ _ 133 _ _ _; refine Rch.blk' (Rn_mono mt _ _) bl_L_law_133 (i_ior (i_istore9 trivial (i_iinc10 trivial k_1 (t_goto 73 rfl ?_))))))
      · have g_10 := hO.n
        have g_b := b_has (P := fun j => j < nn G ∧ sq G j < k) o0 (by omega)
        rw [ifp_n (fun z => by have := z.2; omega)] at g_b
        have eB : bor (BT (fun j => j < nn G ∧ sq G j < k)) (bshl 1 (ons G k)) = BT (fun j => j < nn G ∧ sq G j < k + 1) := by
          rw [b_or1 o0 (by omega)]
          refine BT_ext (fun j j0 _ => ⟨fun z => ?_, fun z => ?_⟩)
          · rcases z with z | z
            · exact ⟨z.1, by have := z.2; omega⟩
            · subst z; exact ⟨o1, by omega⟩
          · by_cases e : sq G j = k
            · exact Or.inr (ons_is hO j0 z.1 e hk2).symm
            · exact Or.inl ⟨z.1, by have := z.2; omega⟩
        have pv := (pc_v o0 o1).2.1
        rw [o2, m4_p hk2] at pv
        repeat' (first
          | (show Rn _ _ _ 77 _ _ _; refine c_L_cell rfl (by omega) (by omega) (by omega) (fun _ _ => ?_))
          | (show Rn _ _ _ 87 _ _ _; refine c_L_bits (fun _ _ => ?_))
          | (show Rch _ _ _ _ _ 86 _ _ _; refine Rch.blk' (Rn_mono mt _ _) bl_L_law_86 (i_istore11 trivial (i_iload rfl (t_if_lt 118 93 rfl rfl (by first | with_reducible exact hI_R | with_reducible exact lcm_R | with_reducible exact band_R | with_reducible exact bor_R | with_reducible exact bshr_R | with_reducible exact bshl_R | omega) (fun hc => ?_) (fun hc => ?_)))) <;> (first | (exfalso; omega) | skip))
          | (show Rch _ _ _ _ _ 93 _ _ _; refine Rch.blk' (Rn_mono mt _ _) bl_L_law_93 (i_aload_n rfl (i_iload rfl (i_iconst k_3 (t_cv3 (Rn_mono mt _ _) 100 rfl (Nat.le_of_ble_eq_true rfl) ?_))))))
        refine k_piece hW hO hy (by omega) (by omega) pv (fun h hW => ?_)
        have ih := ih h (some (ai (I (ons G k)))) hW
        rw [← eB] at ih
        repeat' (first
          | exact ih
          | (show Rn _ _ _ 77 _ _ _; refine c_L_cell rfl (by omega) (by omega) (by omega) (fun _ _ => ?_))
          | (show Rn _ _ _ 87 _ _ _; refine c_L_bits (fun _ _ => ?_))
          | (show Rch _ _ _ _ _ 100 _ _ _; refine Rch.blk' (Rn_mono mt _ _) bl_L_law_100 (i_iload rfl (t_ic_ne 116 105 rfl rfl (by first | with_reducible exact hI_R | with_reducible exact lcm_R | with_reducible exact band_R | with_reducible exact bor_R | with_reducible exact bshr_R | with_reducible exact bshl_R | omega) (by first | with_reducible exact hI_R | with_reducible exact lcm_R | with_reducible exact band_R | with_reducible exact bor_R | with_reducible exact bshr_R | with_reducible exact bshl_R | omega) (fun hc => ?_) (fun hc => ?_))) <;> (first | (exfalso; omega) | skip))
          | (show Rch _ _ _ _ _ 105 _ _ _; refine Rch.blk' (Rn_mono mt _ _) bl_L_law_105 (i_iload rfl (i_iload rfl (i_ishr (i_iconst k_1 (i_iand (i_iconst k_1 (t_ic_ne 118 116 rfl rfl (by first | with_reducible exact hI_R | with_reducible exact lcm_R | with_reducible exact band_R | with_reducible exact bor_R | with_reducible exact bshr_R | with_reducible exact bshl_R | omega) (by first | with_reducible exact hI_R | with_reducible exact lcm_R | with_reducible exact band_R | with_reducible exact bor_R | with_reducible exact bshr_R | with_reducible exact bshl_R | omega) (fun hc => ?_) (fun hc => ?_)))))))) <;> (first | (exfalso; omega) | skip))
          | (show Rch _ _ _ _ _ 116 _ _ _; refine Rch.blk' (Rn_mono mt _ _) bl_L_law_116 (i_iconst k_0 (t_zret (by omega) ?_)))
          | (show Rch _ _ _ _ _ 118 _ _ _; refine Rch.blk' (Rn_mono mt _ _) bl_L_law_118 (i_iload rfl (i_iload rfl (t_if_ge 129 125 rfl rfl (by first | with_reducible exact hI_R | with_reducible exact lcm_R | with_reducible exact band_R | with_reducible exact bor_R | with_reducible exact bshr_R | with_reducible exact bshl_R | omega) (fun hc => ?_) (fun hc => ?_)))) <;> (first | (exfalso; omega) | skip))
          | (show Rch _ _ _ _ _ 125 _ _ _; refine Rch.blk' (Rn_mono mt _ _) bl_L_law_125 (i_iconst k_0 (t_goto 133 rfl ?_)))
          | (show Rch _ _ _ _ _ 129 _ _ _; refine Rch.blk' (Rn_mono mt _ _) bl_L_law_129 (i_iconst k_1 (i_iload rfl (i_ishl (t_none ?_)))))
          | (show Rch _ _ _ _ _ 133 _ _ _; refine Rch.blk' (Rn_mono mt _ _) bl_L_law_133 (i_ior (i_istore9 trivial (i_iinc10 trivial k_1 (t_goto 73 rfl ?_))))))
    · obtain rfl : k = 36 := by omega
      clear ih
      have eF : BT (fun j => j < nn G ∧ sq G j < 36) = BT (TS G) := rfl
      rw [eF]
      have c0 := CT_R hO 0
      have c1 := CT_R hO 1
      have cN := NT_eq hO
      have cR := NT_R hO
      have eN : cnt (TS G) 10 = NT G := TS_cnt hO
      obtain ⟨gA, -⟩ := @GNs_e G hO 0
      obtain ⟨gB, gC⟩ := @GNs_e G hO 1
      have g_b := @BT_R (TS G)
      have dz := @danger_0 G
      have fz : band (BT (fun j => j < nn G ∧ QC G (dy G + 1) j)) (bxor (BT (TS G)) (-1)) = 0 := sub_0 (fun j _ _ z => ⟨z.1, z.2.1⟩)
      have v0 := @side_v G 0 (Or.inl rfl)
      have v1 := @side_v G 1 (Or.inr rfl)
      refine Rch.blk' (Rn_mono mt _ _) bl_L_law_73 (i_iload rfl (i_bipush k_36 (t_ic_ge 142 80 rfl rfl (by first | with_reducible exact hI_R | with_reducible exact lcm_R | with_reducible exact band_R | with_reducible exact bor_R | with_reducible exact bshr_R | with_reducible exact bshl_R | omega) (by first | with_reducible exact hI_R | with_reducible exact lcm_R | with_reducible exact band_R | with_reducible exact bor_R | with_reducible exact bshr_R | with_reducible exact bshl_R | omega) (fun hc => ?_) (fun hc => ?_)))) <;> (first | (exfalso; omega) | skip)
      refine Rch.blk' (Rn_mono mt _ _) bl_L_law_142 (i_aload_n rfl (i_iconst k_0 (i_iconst k_3 (t_cv3 (Rn_mono mt _ _) 148 rfl (Nat.le_of_ble_eq_true rfl) ?_))))
      refine k_side hW hO (by omega) (by omega) v0.2.2 (fun h hW => ?_)
      refine Rch.blk' (Rn_mono mt _ _) bl_L_law_148 (i_aload_n rfl (i_iconst k_1 (i_iconst k_3 (t_cv3 (Rn_mono mt _ _) 154 rfl (Nat.le_of_ble_eq_true rfl) ?_))))
      refine k_side hW hO (by omega) (by omega) v1.2.2 (fun h hW => ?_)
      repeat' (first
        | (show Rn _ _ _ 77 _ _ _; refine c_L_cell rfl (by omega) (by omega) (by omega) (fun _ _ => ?_))
        | (show Rn _ _ _ 87 _ _ _; refine c_L_bits (fun _ _ => ?_))
        | (show Rch _ _ _ _ _ 154 _ _ _; refine Rch.blk' (Rn_mono mt _ _) bl_L_law_154 (i_iadd (i_istore10 trivial (i_iload rfl (i_iload rfl (t_ic_ne 263 164 rfl rfl (by first | with_reducible exact hI_R | with_reducible exact lcm_R | with_reducible exact band_R | with_reducible exact bor_R | with_reducible exact bshr_R | with_reducible exact bshl_R | omega) (by first | with_reducible exact hI_R | with_reducible exact lcm_R | with_reducible exact band_R | with_reducible exact bor_R | with_reducible exact bshr_R | with_reducible exact bshl_R | omega) (fun hc => ?_) (fun hc => ?_)))))) <;> (first | (exfalso; omega) | skip))
        | (show Rch _ _ _ _ _ 164 _ _ _; refine Rch.blk' (Rn_mono mt _ _) bl_L_law_164 (i_aload_n rfl (i_iconst k_0 (t_cv2 (Rn_mono mt _ _) 169 rfl (Nat.le_of_ble_eq_true rfl) ?_)))))
      refine k_free hW hO hy (by omega) (v := 36 - NT G) rfl (fun h hW => ?_)
      refine Rch.blk' (Rn_mono mt _ _) bl_L_law_169 (i_bipush k_36 (i_iload rfl (t_cs1 (Rn_mono mt _ _) 176 rfl (Nat.le_of_ble_eq_true rfl) ?_)))
      refine c_L_bits (fun _ _ => ?_)
      rw [eN]
      repeat' (first
        | (show Rn _ _ _ 77 _ _ _; refine c_L_cell rfl (by omega) (by omega) (by omega) (fun _ _ => ?_))
        | (show Rn _ _ _ 87 _ _ _; refine c_L_bits (fun _ _ => ?_))
        | (show Rch _ _ _ _ _ 176 _ _ _; refine Rch.blk' (Rn_mono mt _ _) bl_L_law_176 (i_isub (t_ic_ne 263 180 rfl rfl (by first | with_reducible exact hI_R | with_reducible exact lcm_R | with_reducible exact band_R | with_reducible exact bor_R | with_reducible exact bshr_R | with_reducible exact bshl_R | omega) (by first | with_reducible exact hI_R | with_reducible exact lcm_R | with_reducible exact band_R | with_reducible exact bor_R | with_reducible exact bshr_R | with_reducible exact bshl_R | omega) (fun hc => ?_) (fun hc => ?_))) <;> (first | (exfalso; omega) | skip))
        | (show Rch _ _ _ _ _ 180 _ _ _; refine Rch.blk' (Rn_mono mt _ _) bl_L_law_180 (i_iload rfl (i_iload rfl (t_cs1 (Rn_mono mt _ _) 187 rfl (Nat.le_of_ble_eq_true rfl) ?_)))))
      rw [eN]
      repeat' (first
        | (show Rn _ _ _ 77 _ _ _; refine c_L_cell rfl (by omega) (by omega) (by omega) (fun _ _ => ?_))
        | (show Rn _ _ _ 87 _ _ _; refine c_L_bits (fun _ _ => ?_))
        | (show Rch _ _ _ _ _ 187 _ _ _; refine Rch.blk' (Rn_mono mt _ _) bl_L_law_187 (t_ic_ne 263 190 rfl rfl (by first | with_reducible exact hI_R | with_reducible exact lcm_R | with_reducible exact band_R | with_reducible exact bor_R | with_reducible exact bshr_R | with_reducible exact bshl_R | omega) (by first | with_reducible exact hI_R | with_reducible exact lcm_R | with_reducible exact band_R | with_reducible exact bor_R | with_reducible exact bshr_R | with_reducible exact bshl_R | omega) (fun hc => ?_) (fun hc => ?_)) <;> (first | (exfalso; omega) | skip))
        | (show Rch _ _ _ _ _ 190 _ _ _; refine Rch.blk' (Rn_mono mt _ _) bl_L_law_190 (i_aload_n rfl (i_iconst k_0 (i_iconst k_0 (t_cv3 (Rn_mono mt _ _) 196 rfl (Nat.le_of_ble_eq_true rfl) ?_))))))
      refine k_side hW hO (by omega) (by omega) v0.1 (fun h hW => ?_)
      refine Rch.blk' (Rn_mono mt _ _) bl_L_law_196 (i_aload_n rfl (i_iconst k_0 (i_iconst k_3 (t_cv3 (Rn_mono mt _ _) 202 rfl (Nat.le_of_ble_eq_true rfl) ?_))))
      refine k_side hW hO (by omega) (by omega) v0.2.2 (fun h hW => ?_)
      repeat' (first
        | (show Rn _ _ _ 77 _ _ _; refine c_L_cell rfl (by omega) (by omega) (by omega) (fun _ _ => ?_))
        | (show Rn _ _ _ 87 _ _ _; refine c_L_bits (fun _ _ => ?_))
        | (show Rch _ _ _ _ _ 202 _ _ _; refine Rch.blk' (Rn_mono mt _ _) bl_L_law_202 (t_ic_gt 263 205 rfl rfl (by first | with_reducible exact hI_R | with_reducible exact lcm_R | with_reducible exact band_R | with_reducible exact bor_R | with_reducible exact bshr_R | with_reducible exact bshl_R | omega) (by first | with_reducible exact hI_R | with_reducible exact lcm_R | with_reducible exact band_R | with_reducible exact bor_R | with_reducible exact bshr_R | with_reducible exact bshl_R | omega) (fun hc => ?_) (fun hc => ?_)) <;> (first | (exfalso; omega) | skip))
        | (show Rch _ _ _ _ _ 205 _ _ _; refine Rch.blk' (Rn_mono mt _ _) bl_L_law_205 (i_aload_n rfl (i_iconst k_1 (i_iconst k_0 (t_cv3 (Rn_mono mt _ _) 211 rfl (Nat.le_of_ble_eq_true rfl) ?_))))))
      refine k_side hW hO (by omega) (by omega) v1.1 (fun h hW => ?_)
      have k236 : ∀ h, CW h G T Gi S → LR d L Rt 236 [some (ar 22 0), some (ar 2 0), some (ar 12 0), some (ai (I i)), some (ai (I q)), some (al (SGT G)), none, some (ai (I (nn G))), some (ai (I (BT (TS G)))), some (ai (I (BT (TS G)))), some (ai (I (CT G 0 + CT G 1))), x11, u12, u13, u14, u15, u16, u17, u18, u19, u20, u21, u22] h := by
        intro h hW
        refine Rch.blk' (Rn_mono mt _ _) bl_L_law_236 (i_aload_n rfl (i_iconst k_0 (t_cv2 (Rn_mono mt _ _) 241 rfl (Nat.le_of_ble_eq_true rfl) ?_)))
        refine k_danger hW hO hy (Or.inl rfl) (fun h hW => ?_)
        refine Rch.blk' (Rn_mono mt _ _) bl_L_law_241 (i_aload_n rfl (i_iconst k_1 (t_cv2 (Rn_mono mt _ _) 246 rfl (Nat.le_of_ble_eq_true rfl) ?_)))
        refine k_danger hW hO hy (Or.inr rfl) (fun h hW => ?_)
        repeat' (first
          | (show Rn _ _ _ 77 _ _ _; refine c_L_cell rfl (by omega) (by omega) (by omega) (fun _ _ => ?_))
          | (show Rn _ _ _ 87 _ _ _; refine c_L_bits (fun _ _ => ?_))
          | (show Rch _ _ _ _ _ 246 _ _ _; refine Rch.blk' (Rn_mono mt _ _) bl_L_law_246 (i_iand (t_if_ne 263 250 rfl rfl (by first | with_reducible exact hI_R | with_reducible exact lcm_R | with_reducible exact band_R | with_reducible exact bor_R | with_reducible exact bshr_R | with_reducible exact bshl_R | omega) (fun hc => ?_) (fun hc => ?_))) <;> (first | (exfalso; omega) | skip))
          | (show Rch _ _ _ _ _ 250 _ _ _; refine Rch.blk' (Rn_mono mt _ _) bl_L_law_250 (i_aload_n rfl (i_iconst k_2 (t_cv2 (Rn_mono mt _ _) 255 rfl (Nat.le_of_ble_eq_true rfl) ?_)))))
        refine k_free hW hO hy (by omega) (v := BT (fun j => j < nn G ∧ QC G (dy G + 1) j)) rfl (fun h hW => ?_)
        have b1 := band_le (bshr q 3) (m := 15) (by omega) (by omega)
        have b2 := band_le (bshr q 7) (m := 63) (by omega) (by omega)
        have b3 := band_le q (m := 7) (by omega) (by omega)
        have k284 : ∀ p : Int, ((nn G = 0 ∧ p = 0) ∨ (0 ≤ p ∧ p < nn G)) → Rch bL_law (Rn mt L (d + 8)) L (fun _ _ _ _ => False) Rt 284 [some (ar 22 0), some (ar 2 0), some (ar 12 0), some (ai (I i)), some (ai (I q)), some (al (SGT G)), none, some (ai (I (nn G))), some (ai (I (BT (TS G)))), some (ai (I (BT (TS G)))), some (ai (I (CT G 0 + CT G 1))), x11, u12, u13, u14, u15, u16, u17, u18, u19, u20, u21, u22] [ai (I p)] h := by
          intro p hp
          have s0 : 0 ≤ band (bshr q 7) 63 % 36 ∧ band (bshr q 7) 63 % 36 < 36 := by omega
          have q0 := lw_c0 (d := d) (L := L) (Rt := Rt) (i := i) (q := q) (sds := CT G 0 + CT G 1) (p := p) (s := band (bshr q 7) 63 % 36) (u13 := u13) (u14 := u14) (u15 := u15) (u16 := u16) (u17 := u17) (u18 := u18) (u19 := u19) (u20 := u20) (u21 := u21) (u22 := u22) hk hW hO hy hT hTi hK hE hp
          have q3 := lw_c3 (d := d) (L := L) (Rt := Rt) (i := i) (q := q) (sds := CT G 0 + CT G 1) (p := p) (s := band (bshr q 7) 63 % 36) (u13 := u13) (u14 := u14) (u15 := u15) (u16 := u16) (u17 := u17) (u18 := u18) (u19 := u19) (u20 := u20) (u21 := u21) (u22 := u22) hk hW hO hy hT hTi hK hE hp s0.1 s0.2
          have q4 := lw_c4 (d := d) (L := L) (Rt := Rt) (i := i) (q := q) (sds := CT G 0 + CT G 1) (p := p) (s := band (bshr q 7) 63 % 36) (u13 := u13) (u14 := u14) (u15 := u15) (u16 := u16) (u17 := u17) (u18 := u18) (u19 := u19) (u20 := u20) (u21 := u21) (u22 := u22) hk hW hO hy hK hE hp s0.1 s0.2
          have q5 := lw_c5 (d := d) (L := L) (Rt := Rt) (i := i) (q := q) (sds := CT G 0 + CT G 1) (p := p) (s := band (bshr q 7) 63 % 36) (u13 := u13) (u14 := u14) (u15 := u15) (u16 := u16) (u17 := u17) (u18 := u18) (u19 := u19) (u20 := u20) (u21 := u21) (u22 := u22) hk hW hO hy hT hTi hK hE
          have q6 := lw_c6 (d := d) (L := L) (Rt := Rt) (i := i) (q := q) (sds := CT G 0 + CT G 1) (p := p) (s := band (bshr q 7) 63 % 36) (u13 := u13) (u14 := u14) (u15 := u15) (u16 := u16) (u17 := u17) (u18 := u18) (u19 := u19) (u20 := u20) (u21 := u21) (u22 := u22) hk hW hO hy hT hTi hK hE hp
          have q7 := lw_c7 (d := d) (L := L) (Rt := Rt) (i := i) (q := q) (sds := CT G 0 + CT G 1) (p := p) (s := band (bshr q 7) 63 % 36) (u13 := u13) (u14 := u14) (u15 := u15) (u16 := u16) (u17 := u17) (u18 := u18) (u19 := u19) (u20 := u20) (u21 := u21) (u22 := u22) hk hW hO hy hT hTi hK hE hp
          clear hk
          repeat' (first
            | exact q0
            | exact q3
            | exact q4
            | exact q5
            | exact q6
            | exact q7
            | (show Rn _ _ _ 77 _ _ _; refine c_L_cell rfl (by omega) (by omega) (by omega) (fun _ _ => ?_))
            | (show Rn _ _ _ 87 _ _ _; refine c_L_bits (fun _ _ => ?_))
            | (show Rch _ _ _ _ _ 284 _ _ _; refine Rch.blk' (Rn_mono mt _ _) bl_L_law_284 (i_istore11 trivial (i_iload rfl (i_bipush k_7 (i_ishr (i_bipush k_63 (i_iand (i_bipush k_36 (i_irem (by omega) (by omega) (by omega) (by omega) (i_istore12 trivial (i_iload rfl (i_bipush k_7 (i_iand (t_tsw 0 6 1179 rfl rfl (by omega) rfl (by first | with_reducible exact hI_R | with_reducible exact lcm_R | with_reducible exact band_R | with_reducible exact bor_R | with_reducible exact bshr_R | with_reducible exact bshl_R | omega) (by omega) (sw_c 0 348 1 rfl rfl (by first | with_reducible exact hI_R | with_reducible exact lcm_R | with_reducible exact band_R | with_reducible exact bor_R | with_reducible exact bshr_R | with_reducible exact bshl_R | omega) (by omega) rfl (fun hc => ?_) (sw_c 1 348 2 rfl rfl (by first | with_reducible exact hI_R | with_reducible exact lcm_R | with_reducible exact band_R | with_reducible exact bor_R | with_reducible exact bshr_R | with_reducible exact bshl_R | omega) (by omega) rfl (fun hc => ?_) (sw_c 2 348 3 rfl rfl (by first | with_reducible exact hI_R | with_reducible exact lcm_R | with_reducible exact band_R | with_reducible exact bor_R | with_reducible exact bshr_R | with_reducible exact bshl_R | omega) (by omega) rfl (fun hc => ?_) (sw_c 3 715 4 rfl rfl (by first | with_reducible exact hI_R | with_reducible exact lcm_R | with_reducible exact band_R | with_reducible exact bor_R | with_reducible exact bshr_R | with_reducible exact bshl_R | omega) (by omega) rfl (fun hc => ?_) (sw_c 4 829 5 rfl rfl (by first | with_reducible exact hI_R | with_reducible exact lcm_R | with_reducible exact band_R | with_reducible exact bor_R | with_reducible exact bshr_R | with_reducible exact bshl_R | omega) (by omega) rfl (fun hc => ?_) (sw_c 5 904 6 rfl rfl (by first | with_reducible exact hI_R | with_reducible exact lcm_R | with_reducible exact band_R | with_reducible exact bor_R | with_reducible exact bshr_R | with_reducible exact bshl_R | omega) (by omega) rfl (fun hc => ?_) (sw_c 6 1030 7 rfl rfl (by first | with_reducible exact hI_R | with_reducible exact lcm_R | with_reducible exact band_R | with_reducible exact bor_R | with_reducible exact bshr_R | with_reducible exact bshl_R | omega) (by omega) rfl (fun hc => ?_) sw_n))))))) (fun hc => ?_)))))))))))))) <;> (first | (exfalso; omega) | skip)))
        clear hk
        have p2 := fun h : 0 < nn G => Int.emod_nonneg (band (bshr q 3) 15) (b := nn G) (by omega)
        have p3 := fun h : 0 < nn G => Int.emod_lt_of_pos (band (bshr q 3) 15) (b := nn G) h
        by_cases hn : nn G = 0
        · have k284 := k284 0 (Or.inl ⟨hn, rfl⟩)
          repeat' (first
            | exact k284
            | (show Rn _ _ _ 77 _ _ _; refine c_L_cell rfl (by omega) (by omega) (by omega) (fun _ _ => ?_))
            | (show Rn _ _ _ 87 _ _ _; refine c_L_bits (fun _ _ => ?_))
            | (show Rch _ _ _ _ _ 255 _ _ _; refine Rch.blk' (Rn_mono mt _ _) bl_L_law_255 (i_iload rfl (i_iconst k_m1 (i_ixor (i_iand (t_if_eq 265 263 rfl rfl (by first | with_reducible exact hI_R | with_reducible exact lcm_R | with_reducible exact band_R | with_reducible exact bor_R | with_reducible exact bshr_R | with_reducible exact bshl_R | omega) (fun hc => ?_) (fun hc => ?_)))))) <;> (first | (exfalso; omega) | skip))
            | (show Rch _ _ _ _ _ 263 _ _ _; refine Rch.blk' (Rn_mono mt _ _) bl_L_law_263 (i_iconst k_0 (t_zret (by omega) ?_)))
            | (show Rch _ _ _ _ _ 265 _ _ _; refine Rch.blk' (Rn_mono mt _ _) bl_L_law_265 (i_iload rfl (t_if_ne 274 270 rfl rfl (by first | with_reducible exact hI_R | with_reducible exact lcm_R | with_reducible exact band_R | with_reducible exact bor_R | with_reducible exact bshr_R | with_reducible exact bshl_R | omega) (fun hc => ?_) (fun hc => ?_))) <;> (first | (exfalso; omega) | skip))
            | (show Rch _ _ _ _ _ 270 _ _ _; refine Rch.blk' (Rn_mono mt _ _) bl_L_law_270 (i_iconst k_0 (t_goto 284 rfl ?_)))
            | (show Rch _ _ _ _ _ 274 _ _ _; refine Rch.blk' (Rn_mono mt _ _) bl_L_law_274 (i_iload rfl (i_iconst k_3 (i_ishr (i_bipush k_15 (i_iand (i_iload rfl (i_irem (by omega) (by omega) (by omega) (by omega) (t_none ?_))))))))))
        · have k284 := k284 (band (bshr q 3) 15 % nn G) (Or.inr ⟨p2 (by omega), p3 (by omega)⟩)
          repeat' (first
            | exact k284
            | (show Rn _ _ _ 77 _ _ _; refine c_L_cell rfl (by omega) (by omega) (by omega) (fun _ _ => ?_))
            | (show Rn _ _ _ 87 _ _ _; refine c_L_bits (fun _ _ => ?_))
            | (show Rch _ _ _ _ _ 255 _ _ _; refine Rch.blk' (Rn_mono mt _ _) bl_L_law_255 (i_iload rfl (i_iconst k_m1 (i_ixor (i_iand (t_if_eq 265 263 rfl rfl (by first | with_reducible exact hI_R | with_reducible exact lcm_R | with_reducible exact band_R | with_reducible exact bor_R | with_reducible exact bshr_R | with_reducible exact bshl_R | omega) (fun hc => ?_) (fun hc => ?_)))))) <;> (first | (exfalso; omega) | skip))
            | (show Rch _ _ _ _ _ 263 _ _ _; refine Rch.blk' (Rn_mono mt _ _) bl_L_law_263 (i_iconst k_0 (t_zret (by omega) ?_)))
            | (show Rch _ _ _ _ _ 265 _ _ _; refine Rch.blk' (Rn_mono mt _ _) bl_L_law_265 (i_iload rfl (t_if_ne 274 270 rfl rfl (by first | with_reducible exact hI_R | with_reducible exact lcm_R | with_reducible exact band_R | with_reducible exact bor_R | with_reducible exact bshr_R | with_reducible exact bshl_R | omega) (fun hc => ?_) (fun hc => ?_))) <;> (first | (exfalso; omega) | skip))
            | (show Rch _ _ _ _ _ 270 _ _ _; refine Rch.blk' (Rn_mono mt _ _) bl_L_law_270 (i_iconst k_0 (t_goto 284 rfl ?_)))
            | (show Rch _ _ _ _ _ 274 _ _ _; refine Rch.blk' (Rn_mono mt _ _) bl_L_law_274 (i_iload rfl (i_iconst k_3 (i_ishr (i_bipush k_15 (i_iand (i_iload rfl (i_irem (by omega) (by omega) (by omega) (by omega) (t_none ?_))))))))))
      clear hk
      by_cases hz : CT G 1 = 0
      · have hz2 := gC.mpr hz
        repeat' (first
          | (show Rn _ _ _ 77 _ _ _; refine c_L_cell rfl (by omega) (by omega) (by omega) (fun _ _ => ?_))
          | (show Rn _ _ _ 87 _ _ _; refine c_L_bits (fun _ _ => ?_))
          | (show Rch _ _ _ _ _ 211 _ _ _; refine Rch.blk' (Rn_mono mt _ _) bl_L_law_211 (t_if_ne 218 214 rfl rfl (by first | with_reducible exact hI_R | with_reducible exact lcm_R | with_reducible exact band_R | with_reducible exact bor_R | with_reducible exact bshr_R | with_reducible exact bshl_R | omega) (fun hc => ?_) (fun hc => ?_)) <;> (first | (exfalso; omega) | skip))
          | (show Rch _ _ _ _ _ 214 _ _ _; refine Rch.blk' (Rn_mono mt _ _) bl_L_law_214 (i_iconst k_1 (t_goto 219 rfl ?_)))
          | (show Rch _ _ _ _ _ 218 _ _ _; refine Rch.blk' (Rn_mono mt _ _) bl_L_law_218 (i_iconst k_0 (t_none ?_)))
          | (show Rch _ _ _ _ _ 219 _ _ _; refine Rch.blk' (Rn_mono mt _ _) bl_L_law_219 (i_aload_n rfl (i_iconst k_1 (i_iconst k_3 (t_cv3 (Rn_mono mt _ _) 225 rfl (Nat.le_of_ble_eq_true rfl) ?_))))))
        refine k_side hW hO (by omega) (by omega) v1.2.2 (fun h hW => ?_)
        have k236 := k236 h hW
        repeat' (first
          | exact k236
          | (show Rn _ _ _ 77 _ _ _; refine c_L_cell rfl (by omega) (by omega) (by omega) (fun _ _ => ?_))
          | (show Rn _ _ _ 87 _ _ _; refine c_L_bits (fun _ _ => ?_))
          | (show Rch _ _ _ _ _ 225 _ _ _; refine Rch.blk' (Rn_mono mt _ _) bl_L_law_225 (t_if_ne 232 228 rfl rfl (by first | with_reducible exact hI_R | with_reducible exact lcm_R | with_reducible exact band_R | with_reducible exact bor_R | with_reducible exact bshr_R | with_reducible exact bshl_R | omega) (fun hc => ?_) (fun hc => ?_)) <;> (first | (exfalso; omega) | skip))
          | (show Rch _ _ _ _ _ 228 _ _ _; refine Rch.blk' (Rn_mono mt _ _) bl_L_law_228 (i_iconst k_1 (t_goto 233 rfl ?_)))
          | (show Rch _ _ _ _ _ 232 _ _ _; refine Rch.blk' (Rn_mono mt _ _) bl_L_law_232 (i_iconst k_0 (t_none ?_)))
          | (show Rch _ _ _ _ _ 233 _ _ _; refine Rch.blk' (Rn_mono mt _ _) bl_L_law_233 (t_ic_ne 263 236 rfl rfl (by first | with_reducible exact hI_R | with_reducible exact lcm_R | with_reducible exact band_R | with_reducible exact bor_R | with_reducible exact bshr_R | with_reducible exact bshl_R | omega) (by first | with_reducible exact hI_R | with_reducible exact lcm_R | with_reducible exact band_R | with_reducible exact bor_R | with_reducible exact bshr_R | with_reducible exact bshl_R | omega) (fun hc => ?_) (fun hc => ?_)) <;> (first | (exfalso; omega) | skip)))
      · have hz2 : ¬ GNs G 1 (nn G) = 0 := fun z => hz (gC.mp z)
        repeat' (first
          | (show Rn _ _ _ 77 _ _ _; refine c_L_cell rfl (by omega) (by omega) (by omega) (fun _ _ => ?_))
          | (show Rn _ _ _ 87 _ _ _; refine c_L_bits (fun _ _ => ?_))
          | (show Rch _ _ _ _ _ 211 _ _ _; refine Rch.blk' (Rn_mono mt _ _) bl_L_law_211 (t_if_ne 218 214 rfl rfl (by first | with_reducible exact hI_R | with_reducible exact lcm_R | with_reducible exact band_R | with_reducible exact bor_R | with_reducible exact bshr_R | with_reducible exact bshl_R | omega) (fun hc => ?_) (fun hc => ?_)) <;> (first | (exfalso; omega) | skip))
          | (show Rch _ _ _ _ _ 214 _ _ _; refine Rch.blk' (Rn_mono mt _ _) bl_L_law_214 (i_iconst k_1 (t_goto 219 rfl ?_)))
          | (show Rch _ _ _ _ _ 218 _ _ _; refine Rch.blk' (Rn_mono mt _ _) bl_L_law_218 (i_iconst k_0 (t_none ?_)))
          | (show Rch _ _ _ _ _ 219 _ _ _; refine Rch.blk' (Rn_mono mt _ _) bl_L_law_219 (i_aload_n rfl (i_iconst k_1 (i_iconst k_3 (t_cv3 (Rn_mono mt _ _) 225 rfl (Nat.le_of_ble_eq_true rfl) ?_))))))
        refine k_side hW hO (by omega) (by omega) v1.2.2 (fun h hW => ?_)
        have k236 := k236 h hW
        repeat' (first
          | exact k236
          | (show Rn _ _ _ 77 _ _ _; refine c_L_cell rfl (by omega) (by omega) (by omega) (fun _ _ => ?_))
          | (show Rn _ _ _ 87 _ _ _; refine c_L_bits (fun _ _ => ?_))
          | (show Rch _ _ _ _ _ 225 _ _ _; refine Rch.blk' (Rn_mono mt _ _) bl_L_law_225 (t_if_ne 232 228 rfl rfl (by first | with_reducible exact hI_R | with_reducible exact lcm_R | with_reducible exact band_R | with_reducible exact bor_R | with_reducible exact bshr_R | with_reducible exact bshl_R | omega) (fun hc => ?_) (fun hc => ?_)) <;> (first | (exfalso; omega) | skip))
          | (show Rch _ _ _ _ _ 228 _ _ _; refine Rch.blk' (Rn_mono mt _ _) bl_L_law_228 (i_iconst k_1 (t_goto 233 rfl ?_)))
          | (show Rch _ _ _ _ _ 232 _ _ _; refine Rch.blk' (Rn_mono mt _ _) bl_L_law_232 (i_iconst k_0 (t_none ?_)))
          | (show Rch _ _ _ _ _ 233 _ _ _; refine Rch.blk' (Rn_mono mt _ _) bl_L_law_233 (t_ic_ne 263 236 rfl rfl (by first | with_reducible exact hI_R | with_reducible exact lcm_R | with_reducible exact band_R | with_reducible exact bor_R | with_reducible exact bshr_R | with_reducible exact bshl_R | omega) (by first | with_reducible exact hI_R | with_reducible exact lcm_R | with_reducible exact band_R | with_reducible exact bor_R | with_reducible exact bshr_R | with_reducible exact bshl_R | omega) (fun hc => ?_) (fun hc => ?_)) <;> (first | (exfalso; omega) | skip)))
  refine Rch.blk' (Rn_mono mt _ _) bl_L_law_40 (i_aload_n rfl (i_iload_n rfl (t_cs2 (Rn_mono mt _ _) 45 rfl (Nat.le_of_ble_eq_true rfl) ?_)))
  refine c_L_cell hL hN (by omega) (by omega) (fun q hq => ?_)
  refine Rch.blk' (Rn_mono mt _ _) bl_L_law_45 (i_istore4 trivial (i_aload_n rfl (t_cs1 (Rn_mono mt _ _) 51 rfl (Nat.le_of_ble_eq_true rfl) ?_)))
  refine k_sight hW hO hy (fun h hW => ?_)
  refine Rch.blk' (Rn_mono mt _ _) bl_L_law_51 (i_lstore5 trivial (i_aload_n rfl (i_iconst k_0 (t_cv2 (Rn_mono mt _ _) 58 rfl (Nat.le_of_ble_eq_true rfl) ?_))))
  refine k_count hW hO (by omega) (v := nn G) rfl (fun h hW => ?_)
  refine Rch.blk' (Rn_mono mt _ _) bl_L_law_58 (i_istore7 trivial (i_aload_n rfl (i_iconst k_4 (t_cv2 (Rn_mono mt _ _) 65 rfl (Nat.le_of_ble_eq_true rfl) ?_))))
  refine k_count hW hO (by omega) (v := BT (TS G)) rfl (fun h hW => ?_)
  have key := key q hq 0 (by omega) (by omega) h u11 hW
  have e0 : BT (fun j => j < nn G ∧ sq G j < 0) = 0 := BT_z.mpr (fun j j0 _ z => by
    have := (hO.pc j j0 z.1).2.2.2
    have := z.2
    omega)
  rw [e0] at key
  repeat' (first
    | exact key
    | (show Rn _ _ _ 77 _ _ _; refine c_L_cell rfl (by omega) (by omega) (by omega) (fun _ _ => ?_))
    | (show Rn _ _ _ 87 _ _ _; refine c_L_bits (fun _ _ => ?_))
    | (show Rch _ _ _ _ _ 65 _ _ _; refine Rch.blk' (Rn_mono mt _ _) bl_L_law_65 (i_istore8 trivial (i_iconst k_0 (i_istore9 trivial (i_iconst k_0 (i_istore10 trivial (t_none ?_))))))))
theorem lw_exit (hL : L = N + 1) (hN : N ≤ 1000) (hR : ∀ h, Rt (some (ai (I 1))) h) (i0 : 11 ≤ i) (i1 : i ≤ 40) (hi : ¬ (i < (N : Int) ∧ i < 40)) (u4 u5 u6 u7 u8 u9 u10 u11 u12 u13 u14 u15 u16 u17 u18 u19 u20 u21 u22 : Option AV) : LR d L Rt 28 [some (ar 22 0), some (ar 2 0), some (ar 12 0), some (ai (I i)), u4, u5, u6, u7, u8, u9, u10, u11, u12, u13, u14, u15, u16, u17, u18, u19, u20, u21, u22] h := by
  have hRh := hR h
  subst hL
  have k1345 : LR d (N + 1) Rt 1345 [some (ar 22 0), some (ar 2 0), some (ar 12 0), some (ai (I i)), u4, u5, u6, u7, u8, u9, u10, u11, u12, u13, u14, u15, u16, u17, u18, u19, u20, u21, u22] h := by
    repeat' (first
      | exact hRh
      | (show Rn _ _ _ 77 _ _ _; refine c_L_cell rfl (by omega) (by omega) (by omega) (fun _ _ => ?_))
      | (show Rn _ _ _ 87 _ _ _; refine c_L_bits (fun _ _ => ?_))
      | (show Rch _ _ _ _ _ 1345 _ _ _; refine Rch.blk' (Rn_mono mt _ _) bl_L_law_1345 (i_iconst k_1 (t_zret (by omega) ?_))))
  repeat' (first
    | exact k1345
    | (show Rn _ _ _ 77 _ _ _; refine c_L_cell rfl (by omega) (by omega) (by omega) (fun _ _ => ?_))
    | (show Rn _ _ _ 87 _ _ _; refine c_L_bits (fun _ _ => ?_))
    | (show Rch _ _ _ _ _ 28 _ _ _; refine Rch.blk' (Rn_mono mt _ _) bl_L_law_28 (i_iload_n rfl (i_aload_n rfl (i_alen rfl (I_nn rfl) (t_ic_ge 1345 34 rfl rfl (by first | with_reducible exact hI_R | with_reducible exact lcm_R | with_reducible exact band_R | with_reducible exact bor_R | with_reducible exact bshr_R | with_reducible exact bshl_R | omega) (by first | with_reducible exact hI_R | with_reducible exact lcm_R | with_reducible exact band_R | with_reducible exact bor_R | with_reducible exact bshr_R | with_reducible exact bshl_R | omega) (fun hc => ?_) (fun hc => ?_))))) <;> (first | (exfalso; omega) | skip))
    | (show Rch _ _ _ _ _ 34 _ _ _; refine Rch.blk' (Rn_mono mt _ _) bl_L_law_34 (i_iload_n rfl (i_bipush k_40 (t_ic_ge 1345 40 rfl rfl (by first | with_reducible exact hI_R | with_reducible exact lcm_R | with_reducible exact band_R | with_reducible exact bor_R | with_reducible exact bshr_R | with_reducible exact bshl_R | omega) (by first | with_reducible exact hI_R | with_reducible exact lcm_R | with_reducible exact band_R | with_reducible exact bor_R | with_reducible exact bshr_R | with_reducible exact bshl_R | omega) (fun hc => ?_) (fun hc => ?_)))) <;> (first | (exfalso; omega) | skip)))
/-- the law's loop -/
theorem lw_loop (hL : L = N + 1) (hN : N ≤ 1000) (hR : ∀ h, Rt (some (ai (I 1))) h) : ∀ (m : Nat) (i : Int), 11 ≤ i → i ≤ 40 → 40 - i ≤ (m : Int) → ∀ (h : Mem) (u4 u5 u6 u7 u8 u9 u10 u11 u12 u13 u14 u15 u16 u17 u18 u19 u20 u21 u22 : Option AV), IN4 h → LR d L Rt 28 [some (ar 22 0), some (ar 2 0), some (ar 12 0), some (ai (I i)), u4, u5, u6, u7, u8, u9, u10, u11, u12, u13, u14, u15, u16, u17, u18, u19, u20, u21, u22] h := by
  intro m
  induction m with
  | zero =>
    intro i i0 i1 hm h u4 u5 u6 u7 u8 u9 u10 u11 u12 u13 u14 u15 u16 u17 u18 u19 u20 u21 u22 hI
    exact lw_exit hL hN hR i0 i1 (by omega) u4 u5 u6 u7 u8 u9 u10 u11 u12 u13 u14 u15 u16 u17 u18 u19 u20 u21 u22
  | succ m ih =>
    intro i i0 i1 hm h u4 u5 u6 u7 u8 u9 u10 u11 u12 u13 u14 u15 u16 u17 u18 u19 u20 u21 u22 hI
    by_cases hi : i < (N : Int) ∧ i < 40
    · obtain ⟨G, T, Gi, S, hW, ⟨hO, hy⟩, hT, hTi, hK, hE⟩ := hI
      have hk : CK d L Rt i := by
        intro h v4 v5 v6 v7 v8 v9 v10 v11 v12 v13 v14 v15 v16 v17 v18 v19 v20 v21 v22 hI
        have ih := ih (i + 1) (by omega) (by omega) (by omega) h v4 v5 v6 v7 v8 v9 v10 v11 v12 v13 v14 v15 v16 v17 v18 v19 v20 v21 v22 hI
        refine Rch.blk' (Rn_mono mt _ _) bl_L_law_1339 (i_iinc3 trivial k_1 (t_goto 28 rfl ?_))
        exact ih
      have k40 := lw_round (d := d) (i := i) hL hN i0 hi.2 hk hW hO hy hT hTi hK hE u4 u5 u6 u7 u8 u9 u10 u11 u12 u13 u14 u15 u16 u17 u18 u19 u20 u21 u22
      clear hk ih
      subst hL
      repeat' (first
        | exact k40
        | (show Rn _ _ _ 77 _ _ _; refine c_L_cell rfl (by omega) (by omega) (by omega) (fun _ _ => ?_))
        | (show Rn _ _ _ 87 _ _ _; refine c_L_bits (fun _ _ => ?_))
        | (show Rch _ _ _ _ _ 28 _ _ _; refine Rch.blk' (Rn_mono mt _ _) bl_L_law_28 (i_iload_n rfl (i_aload_n rfl (i_alen rfl (I_nn rfl) (t_ic_ge 1345 34 rfl rfl (by first | with_reducible exact hI_R | with_reducible exact lcm_R | with_reducible exact band_R | with_reducible exact bor_R | with_reducible exact bshr_R | with_reducible exact bshl_R | omega) (by first | with_reducible exact hI_R | with_reducible exact lcm_R | with_reducible exact band_R | with_reducible exact bor_R | with_reducible exact bshr_R | with_reducible exact bshl_R | omega) (fun hc => ?_) (fun hc => ?_))))) <;> (first | (exfalso; omega) | skip))
        | (show Rch _ _ _ _ _ 34 _ _ _; refine Rch.blk' (Rn_mono mt _ _) bl_L_law_34 (i_iload_n rfl (i_bipush k_40 (t_ic_ge 1345 40 rfl rfl (by first | with_reducible exact hI_R | with_reducible exact lcm_R | with_reducible exact band_R | with_reducible exact bor_R | with_reducible exact bshr_R | with_reducible exact bshl_R | omega) (by first | with_reducible exact hI_R | with_reducible exact lcm_R | with_reducible exact band_R | with_reducible exact bor_R | with_reducible exact bshr_R | with_reducible exact bshl_R | omega) (fun hc => ?_) (fun hc => ?_)))) <;> (first | (exfalso; omega) | skip)))
    · exact lw_exit hL hN hR i0 i1 hi u4 u5 u6 u7 u8 u9 u10 u11 u12 u13 u14 u15 u16 u17 u18 u19 u20 u21 u22
/-- from the board on -/
theorem lw_all {G : Bd} {S : Sv} (hL : L = N + 1) (hN : N ≤ 1000) (hR : ∀ h, Rt (some (ai (I 1))) h) (hC : RC h 0 G) (hV : RV h G) (hO : OKB G) (hS : SC h S) (hK : OKS S) (hE : OKE S) (hn : nn G = 0) (hd : dy G = 0) (ht : tn G = 0) (h02 : hI h 2 0 2 = 0) : LR d L Rt 13 [some (ar 22 0), some (ar 2 0), some (ar 12 0), none, none, none, none, none, none, none, none, none, none, none, none, none, none, none, none, none, none, none, none] h := by
  refine Rch.blk' (Rn_mono mt _ _) bl_L_law_13 (i_aload_n rfl (i_aload_n rfl (i_aload_n rfl (i_iconst k_0 (t_cs4 (Rn_mono mt _ _) 20 rfl (Nat.le_of_ble_eq_true rfl) ?_)))))
  refine c_L_board hL hN hC hV hO hS hK hE hn hd ht (fun h2 G2 S2 H hy => ?_)
  obtain ⟨hC2, hV2, hO2, hS2, hK2, hE2, hF2⟩ := H
  have hI : IN4 h2 := ⟨G2, 0, G2, S2, ⟨hC2, (hF2 2 0 2 (by omega)).trans h02, fun z => by omega, hS2⟩, ⟨hO2, by omega⟩, Or.inl rfl, fun z => by omega, hK2, hE2⟩
  have k28 := lw_loop (d := d) (L := L) (Rt := Rt) hL hN hR 29 11 (by omega) (by omega) (by omega) h2 none none none none none none none none none none none none none none none none none none none hI
  repeat' (first
    | exact k28
    | (show Rn _ _ _ 77 _ _ _; refine c_L_cell rfl (by omega) (by omega) (by omega) (fun _ _ => ?_))
    | (show Rn _ _ _ 87 _ _ _; refine c_L_bits (fun _ _ => ?_))
    | (show Rch _ _ _ _ _ 20 _ _ _; refine Rch.blk' (Rn_mono mt _ _) bl_L_law_20 (t_if_ne 25 23 rfl rfl (by first | with_reducible exact hI_R | with_reducible exact lcm_R | with_reducible exact band_R | with_reducible exact bor_R | with_reducible exact bshr_R | with_reducible exact bshl_R | omega) (fun hc => ?_) (fun hc => ?_)) <;> (first | (exfalso; omega) | skip))
    | (show Rch _ _ _ _ _ 23 _ _ _; refine Rch.blk' (Rn_mono mt _ _) bl_L_law_23 (i_iconst k_0 (t_zret (by omega) ?_)))
    | (show Rch _ _ _ _ _ 25 _ _ _; refine Rch.blk' (Rn_mono mt _ _) bl_L_law_25 (i_bipush k_11 (i_istore3 trivial (t_none ?_)))))
end C78

