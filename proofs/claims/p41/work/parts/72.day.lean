/-! A DAY, the law's -/
section R72
variable {h : Mem} {G : Bd}
theorem RV.set_d (H : RV h G) (hO : OKB G) {z : Int} (hz : inR z) : RV (mset h 12 0 (Int.toNat 21) (I z)) (setd G z) := by
  have hn := hO.n
  exact ⟨(hI_nk (by decide)).trans H.1, hI_eq hz, (hI_nk (by decide)).trans H.2.2.1, (hI_nk (by decide)).trans H.2.2.2.1, (hI_nk (by decide)).trans H.2.2.2.2.1, (hI_nk (by decide)).trans H.2.2.2.2.2.1, fun p p0 p1 => by
    have p1 : p < nn G := p1
    exact ⟨(hI_nk (by omega)).trans (H.x p0 p1), (hI_nk (by omega)).trans (H.q p0 p1)⟩⟩
theorem RV.set_t (H : RV h G) (hO : OKB G) {z : Int} (hz : inR z) : RV (mset h 12 0 (Int.toNat 22) (I z)) (sett G z) := by
  have hn := hO.n
  exact ⟨(hI_nk (by decide)).trans H.1, (hI_nk (by decide)).trans H.2.1, hI_eq hz, (hI_nk (by decide)).trans H.2.2.2.1, (hI_nk (by decide)).trans H.2.2.2.2.1, (hI_nk (by decide)).trans H.2.2.2.2.2.1, fun p p0 p1 => by
    have p1 : p < nn G := p1
    exact ⟨(hI_nk (by omega)).trans (H.x p0 p1), (hI_nk (by omega)).trans (H.q p0 p1)⟩⟩
theorem RV.set_h (H : RV h G) (hO : OKB G) {z : Int} (hz : inR z) : RV (mset h 12 0 (Int.toNat 23) (I z)) (seth G z) := by
  have hn := hO.n
  exact ⟨(hI_nk (by decide)).trans H.1, (hI_nk (by decide)).trans H.2.1, (hI_nk (by decide)).trans H.2.2.1, hI_eq hz, (hI_nk (by decide)).trans H.2.2.2.2.1, (hI_nk (by decide)).trans H.2.2.2.2.2.1, fun p p0 p1 => by
    have p1 : p < nn G := p1
    exact ⟨(hI_nk (by omega)).trans (H.x p0 p1), (hI_nk (by omega)).trans (H.q p0 p1)⟩⟩
theorem RV.mv (H : RV h G) (hO : OKB G) {z s : Int} (z0 : 0 ≤ z) (z1 : z < nn G) (s0 : 0 ≤ s) (s1 : s ≤ 36) : RV (mset h 12 0 (10 + z).toNat (I (m4 s))) (mov G z s) := by
  have hn := hO.n
  have g4 := @m4_R s
  refine ⟨(hI_nk (by omega)).trans H.1, (hI_nk (by omega)).trans H.2.1, (hI_nk (by omega)).trans H.2.2.1, (hI_nk (by omega)).trans H.2.2.2.1, (hI_nk (by omega)).trans H.2.2.2.2.1, (hI_nk (by omega)).trans H.2.2.2.2.2.1, fun p p0 p1 => ?_⟩
  have p1 : p < nn G := p1
  refine ⟨(hI_nk (by omega)).trans (H.x p0 p1), ?_⟩
  rw [sq_mov]
  by_cases hp : p = z
  · subst hp
    rw [if_pos rfl]
    exact hI_eq ⟨by omega, by omega⟩
  · rw [if_neg hp]
    exact (hI_nk (by omega)).trans (H.q p0 p1)
end R72
section C72
variable {d L : Nat} {h : Mem} {Q : Option AV → Mem → Prop} {G : Bd}
theorem c_L_goes (hG : RV h G) (hO : OKB G) {y : Int} (h4 : 0 ≤ y) (h5 : y < 1000000) (hq : ∀ v, v = goer G no0 0 y → (v = -4 ∨ (0 ≤ v ∧ v < nn G)) → Q (some (ai (I v))) h) : Rn mt L (d + 5) 88 [ar 12 0, ai (I y)] h Q := by
  refine Rn.intro iL_goes rfl rfl ?_
  show Rch bL_goes _ _ _ _ 0 [some (ar 12 0), some (ai (I y)), none, none, none, none, none, none] [] _
  have e_n := hG.n
  have e_t := hG.t
  have e_x := @RV.x _ _ hG
  have e_q := @RV.q _ _ hG
  have g_n := hO.n
  have g_t := hO.2.1
  have key : ∀ k : Int, k ≤ nn G → 0 ≤ k → ∀ (o : Int) (u v : Option AV), ((GB (cand G no0 y) (NH G 0) k < 0 → o = 0) ∧ (¬ GB (cand G no0 y) (NH G 0) k < 0 → o = NH G 0 (GB (cand G no0 y) (NH G 0) k))) → RH L bL_goes (d + 4) Q 11 [some (ar 12 0), some (ai (I y)), some (ai (I (GB (cand G no0 y) (NH G 0) k))), some (ai (I o)), some (ai (I (cnt (OC G (tn G)) k))), some (ai (I k)), u, v] h := by
    refine up_ind (fun k hk ih hk0 o u v ho => ?_)
    have g_g := GB_R (C := cand G no0 y) (w := NH G 0) k hk0
    have g_c := cnt_R (C := OC G (tn G)) hk0
    have g_o : 0 ≤ o ∧ o ≤ 10 := by
      rcases g_g with e | ⟨e0, e1, -⟩
      · rw [ho.1 (by omega)]; omega
      · have := @NH_R G 0 (GB (cand G no0 y) (NH G 0) k) hO e0 (by omega)
        rw [ho.2 (by omega)]; omega
    by_cases hk1 : k < nn G
    · have ih := ih hk1 (by omega)
      rw [GB_up hk0] at ih
      have g_w := @NH_R G 0 k hO hk0 hk1
      have g_i := @ide_R G k y
      have g_p := hO.pc k hk0 hk1
      have e_s : (100 * sd G k + 10 * fg G k + kd G k) / 100 = sd G k := by omega
      have g_w2 : 0 ≤ cnt (HS G 0 k) 10 ∧ cnt (HS G 0 k) 10 ≤ 10 := cnt_R (by omega)
      have ih1 : OC G (tn G) k → ¬ ide G k y = -4 → o < cnt (HS G 0 k) 10 → ∀ u v : Option AV, RH L bL_goes (d + 4) Q 11 [some (ar 12 0), some (ai (I y)), some (ai (I k)), some (ai (I (cnt (HS G 0 k) 10))), some (ai (I (cnt (OC G (tn G)) k + 1))), some (ai (I (k + 1))), u, v] h := by
        intro c1 c3 c4 u v
        have c5 : cand G no0 y k ∧ (GB (cand G no0 y) (NH G 0) k < 0 ∨ NH G 0 (GB (cand G no0 y) (NH G 0) k) < NH G 0 k) := by
          refine ⟨⟨c1.1, c1.2, fun z => z, c3⟩, ?_⟩
          by_cases hn : GB (cand G no0 y) (NH G 0) k < 0
          · exact Or.inl hn
          · right; rw [← ho.2 hn]; exact c4
        rw [ifp_p c5, cnt_u1 hk0 c1] at ih
        exact ih _ u v ⟨fun z => by omega, fun _ => rfl⟩
      have ih0 : (¬ ide G k y = -4 → ¬ o < cnt (HS G 0 k) 10) → OC G (tn G) k → ∀ u v : Option AV, RH L bL_goes (d + 4) Q 11 [some (ar 12 0), some (ai (I y)), some (ai (I (GB (cand G no0 y) (NH G 0) k))), some (ai (I o)), some (ai (I (cnt (OC G (tn G)) k + 1))), some (ai (I (k + 1))), u, v] h := by
        intro c1 c2 u v
        have c5 : ¬ (cand G no0 y k ∧ (GB (cand G no0 y) (NH G 0) k < 0 ∨ NH G 0 (GB (cand G no0 y) (NH G 0) k) < NH G 0 k)) := by
          rintro ⟨⟨a1, a2, a3, a4⟩, a5⟩
          refine c1 a4 ?_
          show o < NH G 0 k
          by_cases hn : GB (cand G no0 y) (NH G 0) k < 0
          · rw [ho.1 hn]; omega
          · rw [ho.2 hn]; rcases a5 with a5 | a5
            · exact absurd a5 hn
            · exact a5
        rw [ifp_n c5, cnt_u1 hk0 c2] at ih
        exact ih o u v ho
      have ihN : ¬ OC G (tn G) k → ∀ u v : Option AV, RH L bL_goes (d + 4) Q 11 [some (ar 12 0), some (ai (I y)), some (ai (I (GB (cand G no0 y) (NH G 0) k))), some (ai (I o)), some (ai (I (cnt (OC G (tn G)) k + 0))), some (ai (I (k + 1))), u, v] h := by
        intro c1 u v
        have c5 : ¬ (cand G no0 y k ∧ (GB (cand G no0 y) (NH G 0) k < 0 ∨ NH G 0 (GB (cand G no0 y) (NH G 0) k) < NH G 0 k)) := fun z => c1 ⟨z.1.1, z.1.2.1⟩
        rw [ifp_n c5, cnt_u0 hk0 c1] at ih
        rw [Int.add_zero]
        exact ih o u v ho
      clear ih ho
      have g_m := @m4_R (sq G k)
      by_cases hC : OC G (tn G) k
      · have hsq : sq G k < 36 := hC.2
        have hsd : sd G k = tn G := hC.1
        have m_k : m4 (sq G k) = sq G k := m4_p hsq
        have ih1 := ih1 hC
        have ih0 := fun a => ih0 a hC
        clear ihN hC
        refine Rch.blk' (Rn_mono mt _ _) bl_L_goes_11 (i_iload rfl (i_aload_n rfl (i_bipush k_20 (i_iald (n := 64) rfl (by first | omega | (simp (disch := omega) only [e_n]; omega)) (by first | omega | (simp (disch := omega) only [e_n]; omega)) (by first | omega | (simp (disch := omega) only [e_n]; omega)) (t_ic_ge 128 20 rfl rfl (by first | with_reducible exact hI_R | with_reducible exact lcm_R | with_reducible exact band_R | with_reducible exact bor_R | with_reducible exact bshr_R | with_reducible exact bshl_R | omega | (simp (disch := omega) only [e_n]; omega)) (by first | with_reducible exact hI_R | with_reducible exact lcm_R | with_reducible exact band_R | with_reducible exact bor_R | with_reducible exact bshr_R | with_reducible exact bshl_R | omega | (simp (disch := omega) only [e_n]; omega)) (fun hc => ?_) (fun hc => ?_)))))) <;> (try (simp (disch := omega) only [e_n] at hc ⊢)) <;> (first | (exfalso; omega) | skip)
        repeat' (first
          | exact ih1 (by omega) (by omega) _ _
          | exact ih0 (fun _ => by omega) _ _
          | (show Rn _ _ _ 83 _ _ _; refine c_L_idea (by assumption) (by assumption) (by omega) (by omega) (by omega) (by omega) (by omega) (fun _ _ _ _ => ?_))
          | (show Rn _ _ _ 86 _ _ _; refine c_L_heard (by assumption) (by assumption) (by omega) (by omega) (by omega) ?_)
          | (show Rn _ _ _ 87 _ _ _; refine c_L_bits (fun _ _ => ?_))
          | (show Rch _ _ _ _ _ 0 _ _ _; refine Rch.blk' (Rn_mono mt _ _) bl_L_goes_0 (i_bipush k_m4 (i_istore2 trivial (i_iconst k_0 (i_istore3 trivial (i_iconst k_0 (i_istore4 trivial (i_iconst k_0 (i_istore5 trivial (t_none ?_))))))))))
          | (show Rch _ _ _ _ _ 20 _ _ _; refine Rch.blk' (Rn_mono mt _ _) bl_L_goes_20 (i_aload_n rfl (i_bipush k_10 (i_iload rfl (i_iadd (i_iald (n := 64) rfl (by first | omega | (simp (disch := omega) only [e_x, e_q, e_t, e_s, m_k]; omega)) (by first | omega | (simp (disch := omega) only [e_x, e_q, e_t, e_s, m_k]; omega)) (by first | omega | (simp (disch := omega) only [e_x, e_q, e_t, e_s, m_k]; omega)) (t_if_lt 48 30 rfl rfl (by first | with_reducible exact hI_R | with_reducible exact lcm_R | with_reducible exact band_R | with_reducible exact bor_R | with_reducible exact bshr_R | with_reducible exact bshl_R | omega | (simp (disch := omega) only [e_x, e_q, e_t, e_s, m_k]; omega)) (fun hc => ?_) (fun hc => ?_))))))) <;> (try (simp (disch := omega) only [e_x, e_q, e_t, e_s, m_k] at hc ⊢)) <;> (first | (exfalso; omega) | skip))
          | (show Rch _ _ _ _ _ 30 _ _ _; refine Rch.blk' (Rn_mono mt _ _) bl_L_goes_30 (i_aload_n rfl (i_iload rfl (i_iald (n := 64) rfl (by first | omega | (simp (disch := omega) only [e_x, e_q, e_t, e_s, m_k]; omega)) (by first | omega | (simp (disch := omega) only [e_x, e_q, e_t, e_s, m_k]; omega)) (by first | omega | (simp (disch := omega) only [e_x, e_q, e_t, e_s, m_k]; omega)) (i_bipush k_100 (i_idiv (by first | omega | (simp (disch := omega) only [e_x, e_q, e_t, e_s, m_k]; omega)) (by first | omega | (simp (disch := omega) only [e_x, e_q, e_t, e_s, m_k]; omega)) (by first | omega | (simp (disch := omega) only [e_x, e_q, e_t, e_s, m_k]; omega)) (by first | omega | (simp (disch := omega) only [e_x, e_q, e_t, e_s, m_k]; omega)) (i_aload_n rfl (i_bipush k_22 (i_iald (n := 64) rfl (by first | omega | (simp (disch := omega) only [e_x, e_q, e_t, e_s, m_k]; omega)) (by first | omega | (simp (disch := omega) only [e_x, e_q, e_t, e_s, m_k]; omega)) (by first | omega | (simp (disch := omega) only [e_x, e_q, e_t, e_s, m_k]; omega)) (t_ic_ne 48 44 rfl rfl (by first | with_reducible exact hI_R | with_reducible exact lcm_R | with_reducible exact band_R | with_reducible exact bor_R | with_reducible exact bshr_R | with_reducible exact bshl_R | omega | (simp (disch := omega) only [e_x, e_q, e_t, e_s, m_k]; omega)) (by first | with_reducible exact hI_R | with_reducible exact lcm_R | with_reducible exact band_R | with_reducible exact bor_R | with_reducible exact bshr_R | with_reducible exact bshl_R | omega | (simp (disch := omega) only [e_x, e_q, e_t, e_s, m_k]; omega)) (fun hc => ?_) (fun hc => ?_)))))))))) <;> (try (simp (disch := omega) only [e_x, e_q, e_t, e_s, m_k] at hc ⊢)) <;> (first | (exfalso; omega) | skip))
          | (show Rch _ _ _ _ _ 44 _ _ _; refine Rch.blk' (Rn_mono mt _ _) bl_L_goes_44 (i_iconst k_1 (t_goto 49 rfl ?_)))
          | (show Rch _ _ _ _ _ 48 _ _ _; refine Rch.blk' (Rn_mono mt _ _) bl_L_goes_48 (i_iconst k_0 (t_none ?_)))
          | (show Rch _ _ _ _ _ 49 _ _ _; refine Rch.blk' (Rn_mono mt _ _) bl_L_goes_49 (i_istore6 trivial (i_iload rfl (t_if_eq 78 56 rfl rfl (by first | with_reducible exact hI_R | with_reducible exact lcm_R | with_reducible exact band_R | with_reducible exact bor_R | with_reducible exact bshr_R | with_reducible exact bshl_R | omega | (simp (disch := omega) only [e_x, e_q, e_t, e_s, m_k]; omega)) (fun hc => ?_) (fun hc => ?_)))) <;> (first | (exfalso; omega) | skip))
          | (show Rch _ _ _ _ _ 56 _ _ _; refine Rch.blk' (Rn_mono mt _ _) bl_L_goes_56 (i_aload_n rfl (i_iload rfl (i_iload_n rfl (t_cs3 (Rn_mono mt _ _) 63 rfl (Nat.le_of_ble_eq_true rfl) ?_)))))
          | (show Rch _ _ _ _ _ 63 _ _ _; refine Rch.blk' (Rn_mono mt _ _) bl_L_goes_63 (t_if_lt 78 66 rfl rfl (by first | with_reducible exact hI_R | with_reducible exact lcm_R | with_reducible exact band_R | with_reducible exact bor_R | with_reducible exact bshr_R | with_reducible exact bshl_R | omega | (simp (disch := omega) only [e_x, e_q, e_t, e_s, m_k]; omega)) (fun hc => ?_) (fun hc => ?_)) <;> (first | (exfalso; omega) | skip))
          | (show Rch _ _ _ _ _ 66 _ _ _; refine Rch.blk' (Rn_mono mt _ _) bl_L_goes_66 (i_aload_n rfl (i_iload rfl (t_cs2 (Rn_mono mt _ _) 72 rfl (Nat.le_of_ble_eq_true rfl) ?_))))
          | (show Rch _ _ _ _ _ 72 _ _ _; refine Rch.blk' (Rn_mono mt _ _) bl_L_goes_72 (t_cs1 (Rn_mono mt _ _) 75 rfl (Nat.le_of_ble_eq_true rfl) ?_))
          | (show Rch _ _ _ _ _ 75 _ _ _; refine Rch.blk' (Rn_mono mt _ _) bl_L_goes_75 (t_goto 79 rfl ?_))
          | (show Rch _ _ _ _ _ 78 _ _ _; refine Rch.blk' (Rn_mono mt _ _) bl_L_goes_78 (i_iconst k_0 (t_none ?_)))
          | (show Rch _ _ _ _ _ 79 _ _ _; refine Rch.blk' (Rn_mono mt _ _) bl_L_goes_79 (i_istore7 trivial (i_iload rfl (i_iload rfl (t_if_eq 92 88 rfl rfl (by first | with_reducible exact hI_R | with_reducible exact lcm_R | with_reducible exact band_R | with_reducible exact bor_R | with_reducible exact bshr_R | with_reducible exact bshl_R | omega | (simp (disch := omega) only [e_x, e_q, e_t, e_s, m_k]; omega)) (fun hc => ?_) (fun hc => ?_))))) <;> (first | (exfalso; omega) | skip))
          | (show Rch _ _ _ _ _ 88 _ _ _; refine Rch.blk' (Rn_mono mt _ _) bl_L_goes_88 (i_iconst k_1 (t_goto 93 rfl ?_)))
          | (show Rch _ _ _ _ _ 92 _ _ _; refine Rch.blk' (Rn_mono mt _ _) bl_L_goes_92 (i_iconst k_0 (t_none ?_)))
          | (show Rch _ _ _ _ _ 93 _ _ _; refine Rch.blk' (Rn_mono mt _ _) bl_L_goes_93 (i_iadd (i_istore4 trivial (i_iload rfl (i_iload_n rfl (t_ic_le 107 102 rfl rfl (by first | with_reducible exact hI_R | with_reducible exact lcm_R | with_reducible exact band_R | with_reducible exact bor_R | with_reducible exact bshr_R | with_reducible exact bshl_R | omega | (simp (disch := omega) only [e_x, e_q, e_t, e_s, m_k]; omega)) (by first | with_reducible exact hI_R | with_reducible exact lcm_R | with_reducible exact band_R | with_reducible exact bor_R | with_reducible exact bshr_R | with_reducible exact bshl_R | omega | (simp (disch := omega) only [e_x, e_q, e_t, e_s, m_k]; omega)) (fun hc => ?_) (fun hc => ?_)))))) <;> (first | (exfalso; omega) | skip))
          | (show Rch _ _ _ _ _ 102 _ _ _; refine Rch.blk' (Rn_mono mt _ _) bl_L_goes_102 (i_iload rfl (t_goto 108 rfl ?_)))
          | (show Rch _ _ _ _ _ 107 _ _ _; refine Rch.blk' (Rn_mono mt _ _) bl_L_goes_107 (i_iload_n rfl (t_none ?_)))
          | (show Rch _ _ _ _ _ 108 _ _ _; refine Rch.blk' (Rn_mono mt _ _) bl_L_goes_108 (i_istore2 trivial (i_iload rfl (i_iload_n rfl (t_ic_le 120 115 rfl rfl (by first | with_reducible exact hI_R | with_reducible exact lcm_R | with_reducible exact band_R | with_reducible exact bor_R | with_reducible exact bshr_R | with_reducible exact bshl_R | omega | (simp (disch := omega) only [e_x, e_q, e_t, e_s, m_k]; omega)) (by first | with_reducible exact hI_R | with_reducible exact lcm_R | with_reducible exact band_R | with_reducible exact bor_R | with_reducible exact bshr_R | with_reducible exact bshl_R | omega | (simp (disch := omega) only [e_x, e_q, e_t, e_s, m_k]; omega)) (fun hc => ?_) (fun hc => ?_))))) <;> (first | (exfalso; omega) | skip))
          | (show Rch _ _ _ _ _ 115 _ _ _; refine Rch.blk' (Rn_mono mt _ _) bl_L_goes_115 (i_iload rfl (t_goto 121 rfl ?_)))
          | (show Rch _ _ _ _ _ 120 _ _ _; refine Rch.blk' (Rn_mono mt _ _) bl_L_goes_120 (i_iload_n rfl (t_none ?_)))
          | (show Rch _ _ _ _ _ 121 _ _ _; refine Rch.blk' (Rn_mono mt _ _) bl_L_goes_121 (i_istore3 trivial (i_iinc5 trivial k_1 (t_goto 11 rfl ?_))))
          | (show Rch _ _ _ _ _ 128 _ _ _; refine Rch.blk' (Rn_mono mt _ _) bl_L_goes_128 (i_iconst k_2 (i_iload_n rfl (i_imul (i_iload rfl (t_ic_le 140 136 rfl rfl (by first | with_reducible exact hI_R | with_reducible exact lcm_R | with_reducible exact band_R | with_reducible exact bor_R | with_reducible exact bshr_R | with_reducible exact bshl_R | omega | (simp (disch := omega) only [e_x, e_q, e_t, e_s, m_k]; omega)) (by first | with_reducible exact hI_R | with_reducible exact lcm_R | with_reducible exact band_R | with_reducible exact bor_R | with_reducible exact bshr_R | with_reducible exact bshl_R | omega | (simp (disch := omega) only [e_x, e_q, e_t, e_s, m_k]; omega)) (fun hc => ?_) (fun hc => ?_)))))) <;> (first | (exfalso; omega) | skip))
          | (show Rch _ _ _ _ _ 136 _ _ _; refine Rch.blk' (Rn_mono mt _ _) bl_L_goes_136 (i_iload_n rfl (t_goto 142 rfl ?_)))
          | (show Rch _ _ _ _ _ 140 _ _ _; refine Rch.blk' (Rn_mono mt _ _) bl_L_goes_140 (i_bipush k_m4 (t_none ?_)))
          | (show Rch _ _ _ _ _ 142 _ _ _; refine Rch.blk' (Rn_mono mt _ _) bl_L_goes_142 (t_iret ?_)))
      · have ihN := ihN hC
        clear ih1 ih0
        have hC : ¬ (sd G k = tn G ∧ sq G k < 36) := hC
        refine Rch.blk' (Rn_mono mt _ _) bl_L_goes_11 (i_iload rfl (i_aload_n rfl (i_bipush k_20 (i_iald (n := 64) rfl (by first | omega | (simp (disch := omega) only [e_n]; omega)) (by first | omega | (simp (disch := omega) only [e_n]; omega)) (by first | omega | (simp (disch := omega) only [e_n]; omega)) (t_ic_ge 128 20 rfl rfl (by first | with_reducible exact hI_R | with_reducible exact lcm_R | with_reducible exact band_R | with_reducible exact bor_R | with_reducible exact bshr_R | with_reducible exact bshl_R | omega | (simp (disch := omega) only [e_n]; omega)) (by first | with_reducible exact hI_R | with_reducible exact lcm_R | with_reducible exact band_R | with_reducible exact bor_R | with_reducible exact bshr_R | with_reducible exact bshl_R | omega | (simp (disch := omega) only [e_n]; omega)) (fun hc => ?_) (fun hc => ?_)))))) <;> (try (simp (disch := omega) only [e_n] at hc ⊢)) <;> (first | (exfalso; omega) | skip)
        repeat' (first
          | exact ihN _ _
          | (show Rn _ _ _ 83 _ _ _; refine c_L_idea (by assumption) (by assumption) (by omega) (by omega) (by omega) (by omega) (by omega) (fun _ _ _ _ => ?_))
          | (show Rn _ _ _ 86 _ _ _; refine c_L_heard (by assumption) (by assumption) (by omega) (by omega) (by omega) ?_)
          | (show Rn _ _ _ 87 _ _ _; refine c_L_bits (fun _ _ => ?_))
          | (show Rch _ _ _ _ _ 0 _ _ _; refine Rch.blk' (Rn_mono mt _ _) bl_L_goes_0 (i_bipush k_m4 (i_istore2 trivial (i_iconst k_0 (i_istore3 trivial (i_iconst k_0 (i_istore4 trivial (i_iconst k_0 (i_istore5 trivial (t_none ?_))))))))))
          | (show Rch _ _ _ _ _ 20 _ _ _; refine Rch.blk' (Rn_mono mt _ _) bl_L_goes_20 (i_aload_n rfl (i_bipush k_10 (i_iload rfl (i_iadd (i_iald (n := 64) rfl (by first | omega | (simp (disch := omega) only [e_x, e_q, e_t, e_s]; omega)) (by first | omega | (simp (disch := omega) only [e_x, e_q, e_t, e_s]; omega)) (by first | omega | (simp (disch := omega) only [e_x, e_q, e_t, e_s]; omega)) (t_if_lt 48 30 rfl rfl (by first | with_reducible exact hI_R | with_reducible exact lcm_R | with_reducible exact band_R | with_reducible exact bor_R | with_reducible exact bshr_R | with_reducible exact bshl_R | omega | (simp (disch := omega) only [e_x, e_q, e_t, e_s]; omega)) (fun hc => ?_) (fun hc => ?_))))))) <;> (try (simp (disch := omega) only [e_x, e_q, e_t, e_s] at hc ⊢)) <;> (first | (exfalso; omega) | skip))
          | (show Rch _ _ _ _ _ 30 _ _ _; refine Rch.blk' (Rn_mono mt _ _) bl_L_goes_30 (i_aload_n rfl (i_iload rfl (i_iald (n := 64) rfl (by first | omega | (simp (disch := omega) only [e_x, e_q, e_t, e_s]; omega)) (by first | omega | (simp (disch := omega) only [e_x, e_q, e_t, e_s]; omega)) (by first | omega | (simp (disch := omega) only [e_x, e_q, e_t, e_s]; omega)) (i_bipush k_100 (i_idiv (by first | omega | (simp (disch := omega) only [e_x, e_q, e_t, e_s]; omega)) (by first | omega | (simp (disch := omega) only [e_x, e_q, e_t, e_s]; omega)) (by first | omega | (simp (disch := omega) only [e_x, e_q, e_t, e_s]; omega)) (by first | omega | (simp (disch := omega) only [e_x, e_q, e_t, e_s]; omega)) (i_aload_n rfl (i_bipush k_22 (i_iald (n := 64) rfl (by first | omega | (simp (disch := omega) only [e_x, e_q, e_t, e_s]; omega)) (by first | omega | (simp (disch := omega) only [e_x, e_q, e_t, e_s]; omega)) (by first | omega | (simp (disch := omega) only [e_x, e_q, e_t, e_s]; omega)) (t_ic_ne 48 44 rfl rfl (by first | with_reducible exact hI_R | with_reducible exact lcm_R | with_reducible exact band_R | with_reducible exact bor_R | with_reducible exact bshr_R | with_reducible exact bshl_R | omega | (simp (disch := omega) only [e_x, e_q, e_t, e_s]; omega)) (by first | with_reducible exact hI_R | with_reducible exact lcm_R | with_reducible exact band_R | with_reducible exact bor_R | with_reducible exact bshr_R | with_reducible exact bshl_R | omega | (simp (disch := omega) only [e_x, e_q, e_t, e_s]; omega)) (fun hc => ?_) (fun hc => ?_)))))))))) <;> (try (simp (disch := omega) only [e_x, e_q, e_t, e_s] at hc ⊢)) <;> (first | (exfalso; omega) | skip))
          | (show Rch _ _ _ _ _ 44 _ _ _; refine Rch.blk' (Rn_mono mt _ _) bl_L_goes_44 (i_iconst k_1 (t_goto 49 rfl ?_)))
          | (show Rch _ _ _ _ _ 48 _ _ _; refine Rch.blk' (Rn_mono mt _ _) bl_L_goes_48 (i_iconst k_0 (t_none ?_)))
          | (show Rch _ _ _ _ _ 49 _ _ _; refine Rch.blk' (Rn_mono mt _ _) bl_L_goes_49 (i_istore6 trivial (i_iload rfl (t_if_eq 78 56 rfl rfl (by first | with_reducible exact hI_R | with_reducible exact lcm_R | with_reducible exact band_R | with_reducible exact bor_R | with_reducible exact bshr_R | with_reducible exact bshl_R | omega | (simp (disch := omega) only [e_x, e_q, e_t, e_s]; omega)) (fun hc => ?_) (fun hc => ?_)))) <;> (first | (exfalso; omega) | skip))
          | (show Rch _ _ _ _ _ 56 _ _ _; refine Rch.blk' (Rn_mono mt _ _) bl_L_goes_56 (i_aload_n rfl (i_iload rfl (i_iload_n rfl (t_cs3 (Rn_mono mt _ _) 63 rfl (Nat.le_of_ble_eq_true rfl) ?_)))))
          | (show Rch _ _ _ _ _ 63 _ _ _; refine Rch.blk' (Rn_mono mt _ _) bl_L_goes_63 (t_if_lt 78 66 rfl rfl (by first | with_reducible exact hI_R | with_reducible exact lcm_R | with_reducible exact band_R | with_reducible exact bor_R | with_reducible exact bshr_R | with_reducible exact bshl_R | omega | (simp (disch := omega) only [e_x, e_q, e_t, e_s]; omega)) (fun hc => ?_) (fun hc => ?_)) <;> (first | (exfalso; omega) | skip))
          | (show Rch _ _ _ _ _ 66 _ _ _; refine Rch.blk' (Rn_mono mt _ _) bl_L_goes_66 (i_aload_n rfl (i_iload rfl (t_cs2 (Rn_mono mt _ _) 72 rfl (Nat.le_of_ble_eq_true rfl) ?_))))
          | (show Rch _ _ _ _ _ 72 _ _ _; refine Rch.blk' (Rn_mono mt _ _) bl_L_goes_72 (t_cs1 (Rn_mono mt _ _) 75 rfl (Nat.le_of_ble_eq_true rfl) ?_))
          | (show Rch _ _ _ _ _ 75 _ _ _; refine Rch.blk' (Rn_mono mt _ _) bl_L_goes_75 (t_goto 79 rfl ?_))
          | (show Rch _ _ _ _ _ 78 _ _ _; refine Rch.blk' (Rn_mono mt _ _) bl_L_goes_78 (i_iconst k_0 (t_none ?_)))
          | (show Rch _ _ _ _ _ 79 _ _ _; refine Rch.blk' (Rn_mono mt _ _) bl_L_goes_79 (i_istore7 trivial (i_iload rfl (i_iload rfl (t_if_eq 92 88 rfl rfl (by first | with_reducible exact hI_R | with_reducible exact lcm_R | with_reducible exact band_R | with_reducible exact bor_R | with_reducible exact bshr_R | with_reducible exact bshl_R | omega | (simp (disch := omega) only [e_x, e_q, e_t, e_s]; omega)) (fun hc => ?_) (fun hc => ?_))))) <;> (first | (exfalso; omega) | skip))
          | (show Rch _ _ _ _ _ 88 _ _ _; refine Rch.blk' (Rn_mono mt _ _) bl_L_goes_88 (i_iconst k_1 (t_goto 93 rfl ?_)))
          | (show Rch _ _ _ _ _ 92 _ _ _; refine Rch.blk' (Rn_mono mt _ _) bl_L_goes_92 (i_iconst k_0 (t_none ?_)))
          | (show Rch _ _ _ _ _ 93 _ _ _; refine Rch.blk' (Rn_mono mt _ _) bl_L_goes_93 (i_iadd (i_istore4 trivial (i_iload rfl (i_iload_n rfl (t_ic_le 107 102 rfl rfl (by first | with_reducible exact hI_R | with_reducible exact lcm_R | with_reducible exact band_R | with_reducible exact bor_R | with_reducible exact bshr_R | with_reducible exact bshl_R | omega | (simp (disch := omega) only [e_x, e_q, e_t, e_s]; omega)) (by first | with_reducible exact hI_R | with_reducible exact lcm_R | with_reducible exact band_R | with_reducible exact bor_R | with_reducible exact bshr_R | with_reducible exact bshl_R | omega | (simp (disch := omega) only [e_x, e_q, e_t, e_s]; omega)) (fun hc => ?_) (fun hc => ?_)))))) <;> (first | (exfalso; omega) | skip))
          | (show Rch _ _ _ _ _ 102 _ _ _; refine Rch.blk' (Rn_mono mt _ _) bl_L_goes_102 (i_iload rfl (t_goto 108 rfl ?_)))
          | (show Rch _ _ _ _ _ 107 _ _ _; refine Rch.blk' (Rn_mono mt _ _) bl_L_goes_107 (i_iload_n rfl (t_none ?_)))
          | (show Rch _ _ _ _ _ 108 _ _ _; refine Rch.blk' (Rn_mono mt _ _) bl_L_goes_108 (i_istore2 trivial (i_iload rfl (i_iload_n rfl (t_ic_le 120 115 rfl rfl (by first | with_reducible exact hI_R | with_reducible exact lcm_R | with_reducible exact band_R | with_reducible exact bor_R | with_reducible exact bshr_R | with_reducible exact bshl_R | omega | (simp (disch := omega) only [e_x, e_q, e_t, e_s]; omega)) (by first | with_reducible exact hI_R | with_reducible exact lcm_R | with_reducible exact band_R | with_reducible exact bor_R | with_reducible exact bshr_R | with_reducible exact bshl_R | omega | (simp (disch := omega) only [e_x, e_q, e_t, e_s]; omega)) (fun hc => ?_) (fun hc => ?_))))) <;> (first | (exfalso; omega) | skip))
          | (show Rch _ _ _ _ _ 115 _ _ _; refine Rch.blk' (Rn_mono mt _ _) bl_L_goes_115 (i_iload rfl (t_goto 121 rfl ?_)))
          | (show Rch _ _ _ _ _ 120 _ _ _; refine Rch.blk' (Rn_mono mt _ _) bl_L_goes_120 (i_iload_n rfl (t_none ?_)))
          | (show Rch _ _ _ _ _ 121 _ _ _; refine Rch.blk' (Rn_mono mt _ _) bl_L_goes_121 (i_istore3 trivial (i_iinc5 trivial k_1 (t_goto 11 rfl ?_))))
          | (show Rch _ _ _ _ _ 128 _ _ _; refine Rch.blk' (Rn_mono mt _ _) bl_L_goes_128 (i_iconst k_2 (i_iload_n rfl (i_imul (i_iload rfl (t_ic_le 140 136 rfl rfl (by first | with_reducible exact hI_R | with_reducible exact lcm_R | with_reducible exact band_R | with_reducible exact bor_R | with_reducible exact bshr_R | with_reducible exact bshl_R | omega | (simp (disch := omega) only [e_x, e_q, e_t, e_s]; omega)) (by first | with_reducible exact hI_R | with_reducible exact lcm_R | with_reducible exact band_R | with_reducible exact bor_R | with_reducible exact bshr_R | with_reducible exact bshl_R | omega | (simp (disch := omega) only [e_x, e_q, e_t, e_s]; omega)) (fun hc => ?_) (fun hc => ?_)))))) <;> (first | (exfalso; omega) | skip))
          | (show Rch _ _ _ _ _ 136 _ _ _; refine Rch.blk' (Rn_mono mt _ _) bl_L_goes_136 (i_iload_n rfl (t_goto 142 rfl ?_)))
          | (show Rch _ _ _ _ _ 140 _ _ _; refine Rch.blk' (Rn_mono mt _ _) bl_L_goes_140 (i_bipush k_m4 (t_none ?_)))
          | (show Rch _ _ _ _ _ 142 _ _ _; refine Rch.blk' (Rn_mono mt _ _) bl_L_goes_142 (t_iret ?_)))
    · obtain rfl : k = nn G := by omega
      have g_c := CT_R hO (tn G)
      have q1 : cnt (OC G (tn G)) (nn G) < 2 * o → GB (cand G no0 y) (NH G 0) (nn G) = goer G no0 0 y := by
        intro hh
        have h9 : ¬ GB (cand G no0 y) (NH G 0) (nn G) < 0 := fun z => by rw [ho.1 z] at hh; omega
        unfold goer
        rw [← ho.2 h9, if_pos ⟨by omega, hh⟩]
      have q0 : ¬ cnt (OC G (tn G)) (nn G) < 2 * o → -4 = goer G no0 0 y := by
        intro hh
        unfold goer
        rw [if_neg]
        rintro ⟨a, c⟩
        rw [← ho.2 (by omega)] at c
        exact hh c
      refine Rch.blk' (Rn_mono mt _ _) bl_L_goes_11 (i_iload rfl (i_aload_n rfl (i_bipush k_20 (i_iald (n := 64) rfl (by first | omega | (simp (disch := omega) only [e_n]; omega)) (by first | omega | (simp (disch := omega) only [e_n]; omega)) (by first | omega | (simp (disch := omega) only [e_n]; omega)) (t_ic_ge 128 20 rfl rfl (by first | with_reducible exact hI_R | with_reducible exact lcm_R | with_reducible exact band_R | with_reducible exact bor_R | with_reducible exact bshr_R | with_reducible exact bshl_R | omega | (simp (disch := omega) only [e_n]; omega)) (by first | with_reducible exact hI_R | with_reducible exact lcm_R | with_reducible exact band_R | with_reducible exact bor_R | with_reducible exact bshr_R | with_reducible exact bshl_R | omega | (simp (disch := omega) only [e_n]; omega)) (fun hc => ?_) (fun hc => ?_)))))) <;> (try (simp (disch := omega) only [e_n] at hc ⊢)) <;> (first | (exfalso; omega) | skip)
      repeat' (first
        | exact hq _ (q1 (by omega)) (by omega)
        | exact hq _ (q0 (by omega)) (by omega)
        | (show Rn _ _ _ 83 _ _ _; refine c_L_idea (by assumption) (by assumption) (by omega) (by omega) (by omega) (by omega) (by omega) (fun _ _ _ _ => ?_))
        | (show Rn _ _ _ 86 _ _ _; refine c_L_heard (by assumption) (by assumption) (by omega) (by omega) (by omega) ?_)
        | (show Rn _ _ _ 87 _ _ _; refine c_L_bits (fun _ _ => ?_))
        | (show Rch _ _ _ _ _ 0 _ _ _; refine Rch.blk' (Rn_mono mt _ _) bl_L_goes_0 (i_bipush k_m4 (i_istore2 trivial (i_iconst k_0 (i_istore3 trivial (i_iconst k_0 (i_istore4 trivial (i_iconst k_0 (i_istore5 trivial (t_none ?_))))))))))
        | (show Rch _ _ _ _ _ 20 _ _ _; refine Rch.blk' (Rn_mono mt _ _) bl_L_goes_20 (i_aload_n rfl (i_bipush k_10 (i_iload rfl (i_iadd (i_iald (n := 64) rfl (by omega) (by omega) (by omega) (t_if_lt 48 30 rfl rfl (by first | with_reducible exact hI_R | with_reducible exact lcm_R | with_reducible exact band_R | with_reducible exact bor_R | with_reducible exact bshr_R | with_reducible exact bshl_R | omega) (fun hc => ?_) (fun hc => ?_))))))) <;> (first | (exfalso; omega) | skip))
        | (show Rch _ _ _ _ _ 30 _ _ _; refine Rch.blk' (Rn_mono mt _ _) bl_L_goes_30 (i_aload_n rfl (i_iload rfl (i_iald (n := 64) rfl (by omega) (by omega) (by omega) (i_bipush k_100 (i_idiv (by omega) (by omega) (by omega) (by omega) (i_aload_n rfl (i_bipush k_22 (i_iald (n := 64) rfl (by omega) (by omega) (by omega) (t_ic_ne 48 44 rfl rfl (by first | with_reducible exact hI_R | with_reducible exact lcm_R | with_reducible exact band_R | with_reducible exact bor_R | with_reducible exact bshr_R | with_reducible exact bshl_R | omega) (by first | with_reducible exact hI_R | with_reducible exact lcm_R | with_reducible exact band_R | with_reducible exact bor_R | with_reducible exact bshr_R | with_reducible exact bshl_R | omega) (fun hc => ?_) (fun hc => ?_)))))))))) <;> (first | (exfalso; omega) | skip))
        | (show Rch _ _ _ _ _ 44 _ _ _; refine Rch.blk' (Rn_mono mt _ _) bl_L_goes_44 (i_iconst k_1 (t_goto 49 rfl ?_)))
        | (show Rch _ _ _ _ _ 48 _ _ _; refine Rch.blk' (Rn_mono mt _ _) bl_L_goes_48 (i_iconst k_0 (t_none ?_)))
        | (show Rch _ _ _ _ _ 49 _ _ _; refine Rch.blk' (Rn_mono mt _ _) bl_L_goes_49 (i_istore6 trivial (i_iload rfl (t_if_eq 78 56 rfl rfl (by first | with_reducible exact hI_R | with_reducible exact lcm_R | with_reducible exact band_R | with_reducible exact bor_R | with_reducible exact bshr_R | with_reducible exact bshl_R | omega) (fun hc => ?_) (fun hc => ?_)))) <;> (first | (exfalso; omega) | skip))
        | (show Rch _ _ _ _ _ 56 _ _ _; refine Rch.blk' (Rn_mono mt _ _) bl_L_goes_56 (i_aload_n rfl (i_iload rfl (i_iload_n rfl (t_cs3 (Rn_mono mt _ _) 63 rfl (Nat.le_of_ble_eq_true rfl) ?_)))))
        | (show Rch _ _ _ _ _ 63 _ _ _; refine Rch.blk' (Rn_mono mt _ _) bl_L_goes_63 (t_if_lt 78 66 rfl rfl (by first | with_reducible exact hI_R | with_reducible exact lcm_R | with_reducible exact band_R | with_reducible exact bor_R | with_reducible exact bshr_R | with_reducible exact bshl_R | omega) (fun hc => ?_) (fun hc => ?_)) <;> (first | (exfalso; omega) | skip))
        | (show Rch _ _ _ _ _ 66 _ _ _; refine Rch.blk' (Rn_mono mt _ _) bl_L_goes_66 (i_aload_n rfl (i_iload rfl (t_cs2 (Rn_mono mt _ _) 72 rfl (Nat.le_of_ble_eq_true rfl) ?_))))
        | (show Rch _ _ _ _ _ 72 _ _ _; refine Rch.blk' (Rn_mono mt _ _) bl_L_goes_72 (t_cs1 (Rn_mono mt _ _) 75 rfl (Nat.le_of_ble_eq_true rfl) ?_))
        | (show Rch _ _ _ _ _ 75 _ _ _; refine Rch.blk' (Rn_mono mt _ _) bl_L_goes_75 (t_goto 79 rfl ?_))
        | (show Rch _ _ _ _ _ 78 _ _ _; refine Rch.blk' (Rn_mono mt _ _) bl_L_goes_78 (i_iconst k_0 (t_none ?_)))
        | (show Rch _ _ _ _ _ 79 _ _ _; refine Rch.blk' (Rn_mono mt _ _) bl_L_goes_79 (i_istore7 trivial (i_iload rfl (i_iload rfl (t_if_eq 92 88 rfl rfl (by first | with_reducible exact hI_R | with_reducible exact lcm_R | with_reducible exact band_R | with_reducible exact bor_R | with_reducible exact bshr_R | with_reducible exact bshl_R | omega) (fun hc => ?_) (fun hc => ?_))))) <;> (first | (exfalso; omega) | skip))
        | (show Rch _ _ _ _ _ 88 _ _ _; refine Rch.blk' (Rn_mono mt _ _) bl_L_goes_88 (i_iconst k_1 (t_goto 93 rfl ?_)))
        | (show Rch _ _ _ _ _ 92 _ _ _; refine Rch.blk' (Rn_mono mt _ _) bl_L_goes_92 (i_iconst k_0 (t_none ?_)))
        | (show Rch _ _ _ _ _ 93 _ _ _; refine Rch.blk' (Rn_mono mt _ _) bl_L_goes_93 (i_iadd (i_istore4 trivial (i_iload rfl (i_iload_n rfl (t_ic_le 107 102 rfl rfl (by first | with_reducible exact hI_R | with_reducible exact lcm_R | with_reducible exact band_R | with_reducible exact bor_R | with_reducible exact bshr_R | with_reducible exact bshl_R | omega) (by first | with_reducible exact hI_R | with_reducible exact lcm_R | with_reducible exact band_R | with_reducible exact bor_R | with_reducible exact bshr_R | with_reducible exact bshl_R | omega) (fun hc => ?_) (fun hc => ?_)))))) <;> (first | (exfalso; omega) | skip))
        | (show Rch _ _ _ _ _ 102 _ _ _; refine Rch.blk' (Rn_mono mt _ _) bl_L_goes_102 (i_iload rfl (t_goto 108 rfl ?_)))
        | (show Rch _ _ _ _ _ 107 _ _ _; refine Rch.blk' (Rn_mono mt _ _) bl_L_goes_107 (i_iload_n rfl (t_none ?_)))
        | (show Rch _ _ _ _ _ 108 _ _ _; refine Rch.blk' (Rn_mono mt _ _) bl_L_goes_108 (i_istore2 trivial (i_iload rfl (i_iload_n rfl (t_ic_le 120 115 rfl rfl (by first | with_reducible exact hI_R | with_reducible exact lcm_R | with_reducible exact band_R | with_reducible exact bor_R | with_reducible exact bshr_R | with_reducible exact bshl_R | omega) (by first | with_reducible exact hI_R | with_reducible exact lcm_R | with_reducible exact band_R | with_reducible exact bor_R | with_reducible exact bshr_R | with_reducible exact bshl_R | omega) (fun hc => ?_) (fun hc => ?_))))) <;> (first | (exfalso; omega) | skip))
        | (show Rch _ _ _ _ _ 115 _ _ _; refine Rch.blk' (Rn_mono mt _ _) bl_L_goes_115 (i_iload rfl (t_goto 121 rfl ?_)))
        | (show Rch _ _ _ _ _ 120 _ _ _; refine Rch.blk' (Rn_mono mt _ _) bl_L_goes_120 (i_iload_n rfl (t_none ?_)))
        | (show Rch _ _ _ _ _ 121 _ _ _; refine Rch.blk' (Rn_mono mt _ _) bl_L_goes_121 (i_istore3 trivial (i_iinc5 trivial k_1 (t_goto 11 rfl ?_))))
        | (show Rch _ _ _ _ _ 128 _ _ _; refine Rch.blk' (Rn_mono mt _ _) bl_L_goes_128 (i_iconst k_2 (i_iload_n rfl (i_imul (i_iload rfl (t_ic_le 140 136 rfl rfl (by first | with_reducible exact hI_R | with_reducible exact lcm_R | with_reducible exact band_R | with_reducible exact bor_R | with_reducible exact bshr_R | with_reducible exact bshl_R | omega) (by first | with_reducible exact hI_R | with_reducible exact lcm_R | with_reducible exact band_R | with_reducible exact bor_R | with_reducible exact bshr_R | with_reducible exact bshl_R | omega) (fun hc => ?_) (fun hc => ?_)))))) <;> (first | (exfalso; omega) | skip))
        | (show Rch _ _ _ _ _ 136 _ _ _; refine Rch.blk' (Rn_mono mt _ _) bl_L_goes_136 (i_iload_n rfl (t_goto 142 rfl ?_)))
        | (show Rch _ _ _ _ _ 140 _ _ _; refine Rch.blk' (Rn_mono mt _ _) bl_L_goes_140 (i_bipush k_m4 (t_none ?_)))
        | (show Rch _ _ _ _ _ 142 _ _ _; refine Rch.blk' (Rn_mono mt _ _) bl_L_goes_142 (t_iret ?_)))
  have key0 := key 0 (by omega) (by omega) 0 none none ⟨fun _ => rfl, fun z => absurd (show (-4 : Int) < 0 by omega) z⟩
  repeat' (first
    | exact key0
    | (show Rn _ _ _ 83 _ _ _; refine c_L_idea (by assumption) (by assumption) (by omega) (by omega) (by omega) (by omega) (by omega) (fun _ _ _ _ => ?_))
    | (show Rn _ _ _ 86 _ _ _; refine c_L_heard (by assumption) (by assumption) (by omega) (by omega) (by omega) ?_)
    | (show Rn _ _ _ 87 _ _ _; refine c_L_bits (fun _ _ => ?_))
    | (show Rch _ _ _ _ _ 0 _ _ _; refine Rch.blk' (Rn_mono mt _ _) bl_L_goes_0 (i_bipush k_m4 (i_istore2 trivial (i_iconst k_0 (i_istore3 trivial (i_iconst k_0 (i_istore4 trivial (i_iconst k_0 (i_istore5 trivial (t_none ?_))))))))))
    | (show Rch _ _ _ _ _ 20 _ _ _; refine Rch.blk' (Rn_mono mt _ _) bl_L_goes_20 (i_aload_n rfl (i_bipush k_10 (i_iload rfl (i_iadd (i_iald (n := 64) rfl (by omega) (by omega) (by omega) (t_if_lt 48 30 rfl rfl (by first | with_reducible exact hI_R | with_reducible exact lcm_R | with_reducible exact band_R | with_reducible exact bor_R | with_reducible exact bshr_R | with_reducible exact bshl_R | omega) (fun hc => ?_) (fun hc => ?_))))))) <;> (first | (exfalso; omega) | skip))
    | (show Rch _ _ _ _ _ 30 _ _ _; refine Rch.blk' (Rn_mono mt _ _) bl_L_goes_30 (i_aload_n rfl (i_iload rfl (i_iald (n := 64) rfl (by omega) (by omega) (by omega) (i_bipush k_100 (i_idiv (by omega) (by omega) (by omega) (by omega) (i_aload_n rfl (i_bipush k_22 (i_iald (n := 64) rfl (by omega) (by omega) (by omega) (t_ic_ne 48 44 rfl rfl (by first | with_reducible exact hI_R | with_reducible exact lcm_R | with_reducible exact band_R | with_reducible exact bor_R | with_reducible exact bshr_R | with_reducible exact bshl_R | omega) (by first | with_reducible exact hI_R | with_reducible exact lcm_R | with_reducible exact band_R | with_reducible exact bor_R | with_reducible exact bshr_R | with_reducible exact bshl_R | omega) (fun hc => ?_) (fun hc => ?_)))))))))) <;> (first | (exfalso; omega) | skip))
    | (show Rch _ _ _ _ _ 44 _ _ _; refine Rch.blk' (Rn_mono mt _ _) bl_L_goes_44 (i_iconst k_1 (t_goto 49 rfl ?_)))
    | (show Rch _ _ _ _ _ 48 _ _ _; refine Rch.blk' (Rn_mono mt _ _) bl_L_goes_48 (i_iconst k_0 (t_none ?_)))
    | (show Rch _ _ _ _ _ 49 _ _ _; refine Rch.blk' (Rn_mono mt _ _) bl_L_goes_49 (i_istore6 trivial (i_iload rfl (t_if_eq 78 56 rfl rfl (by first | with_reducible exact hI_R | with_reducible exact lcm_R | with_reducible exact band_R | with_reducible exact bor_R | with_reducible exact bshr_R | with_reducible exact bshl_R | omega) (fun hc => ?_) (fun hc => ?_)))) <;> (first | (exfalso; omega) | skip))
    | (show Rch _ _ _ _ _ 56 _ _ _; refine Rch.blk' (Rn_mono mt _ _) bl_L_goes_56 (i_aload_n rfl (i_iload rfl (i_iload_n rfl (t_cs3 (Rn_mono mt _ _) 63 rfl (Nat.le_of_ble_eq_true rfl) ?_)))))
    | (show Rch _ _ _ _ _ 63 _ _ _; refine Rch.blk' (Rn_mono mt _ _) bl_L_goes_63 (t_if_lt 78 66 rfl rfl (by first | with_reducible exact hI_R | with_reducible exact lcm_R | with_reducible exact band_R | with_reducible exact bor_R | with_reducible exact bshr_R | with_reducible exact bshl_R | omega) (fun hc => ?_) (fun hc => ?_)) <;> (first | (exfalso; omega) | skip))
    | (show Rch _ _ _ _ _ 66 _ _ _; refine Rch.blk' (Rn_mono mt _ _) bl_L_goes_66 (i_aload_n rfl (i_iload rfl (t_cs2 (Rn_mono mt _ _) 72 rfl (Nat.le_of_ble_eq_true rfl) ?_))))
    | (show Rch _ _ _ _ _ 72 _ _ _; refine Rch.blk' (Rn_mono mt _ _) bl_L_goes_72 (t_cs1 (Rn_mono mt _ _) 75 rfl (Nat.le_of_ble_eq_true rfl) ?_))
    | (show Rch _ _ _ _ _ 75 _ _ _; refine Rch.blk' (Rn_mono mt _ _) bl_L_goes_75 (t_goto 79 rfl ?_))
    | (show Rch _ _ _ _ _ 78 _ _ _; refine Rch.blk' (Rn_mono mt _ _) bl_L_goes_78 (i_iconst k_0 (t_none ?_)))
    | (show Rch _ _ _ _ _ 79 _ _ _; refine Rch.blk' (Rn_mono mt _ _) bl_L_goes_79 (i_istore7 trivial (i_iload rfl (i_iload rfl (t_if_eq 92 88 rfl rfl (by first | with_reducible exact hI_R | with_reducible exact lcm_R | with_reducible exact band_R | with_reducible exact bor_R | with_reducible exact bshr_R | with_reducible exact bshl_R | omega) (fun hc => ?_) (fun hc => ?_))))) <;> (first | (exfalso; omega) | skip))
    | (show Rch _ _ _ _ _ 88 _ _ _; refine Rch.blk' (Rn_mono mt _ _) bl_L_goes_88 (i_iconst k_1 (t_goto 93 rfl ?_)))
    | (show Rch _ _ _ _ _ 92 _ _ _; refine Rch.blk' (Rn_mono mt _ _) bl_L_goes_92 (i_iconst k_0 (t_none ?_)))
    | (show Rch _ _ _ _ _ 93 _ _ _; refine Rch.blk' (Rn_mono mt _ _) bl_L_goes_93 (i_iadd (i_istore4 trivial (i_iload rfl (i_iload_n rfl (t_ic_le 107 102 rfl rfl (by first | with_reducible exact hI_R | with_reducible exact lcm_R | with_reducible exact band_R | with_reducible exact bor_R | with_reducible exact bshr_R | with_reducible exact bshl_R | omega) (by first | with_reducible exact hI_R | with_reducible exact lcm_R | with_reducible exact band_R | with_reducible exact bor_R | with_reducible exact bshr_R | with_reducible exact bshl_R | omega) (fun hc => ?_) (fun hc => ?_)))))) <;> (first | (exfalso; omega) | skip))
    | (show Rch _ _ _ _ _ 102 _ _ _; refine Rch.blk' (Rn_mono mt _ _) bl_L_goes_102 (i_iload rfl (t_goto 108 rfl ?_)))
    | (show Rch _ _ _ _ _ 107 _ _ _; refine Rch.blk' (Rn_mono mt _ _) bl_L_goes_107 (i_iload_n rfl (t_none ?_)))
    | (show Rch _ _ _ _ _ 108 _ _ _; refine Rch.blk' (Rn_mono mt _ _) bl_L_goes_108 (i_istore2 trivial (i_iload rfl (i_iload_n rfl (t_ic_le 120 115 rfl rfl (by first | with_reducible exact hI_R | with_reducible exact lcm_R | with_reducible exact band_R | with_reducible exact bor_R | with_reducible exact bshr_R | with_reducible exact bshl_R | omega) (by first | with_reducible exact hI_R | with_reducible exact lcm_R | with_reducible exact band_R | with_reducible exact bor_R | with_reducible exact bshr_R | with_reducible exact bshl_R | omega) (fun hc => ?_) (fun hc => ?_))))) <;> (first | (exfalso; omega) | skip))
    | (show Rch _ _ _ _ _ 115 _ _ _; refine Rch.blk' (Rn_mono mt _ _) bl_L_goes_115 (i_iload rfl (t_goto 121 rfl ?_)))
    | (show Rch _ _ _ _ _ 120 _ _ _; refine Rch.blk' (Rn_mono mt _ _) bl_L_goes_120 (i_iload_n rfl (t_none ?_)))
    | (show Rch _ _ _ _ _ 121 _ _ _; refine Rch.blk' (Rn_mono mt _ _) bl_L_goes_121 (i_istore3 trivial (i_iinc5 trivial k_1 (t_goto 11 rfl ?_))))
    | (show Rch _ _ _ _ _ 128 _ _ _; refine Rch.blk' (Rn_mono mt _ _) bl_L_goes_128 (i_iconst k_2 (i_iload_n rfl (i_imul (i_iload rfl (t_ic_le 140 136 rfl rfl (by first | with_reducible exact hI_R | with_reducible exact lcm_R | with_reducible exact band_R | with_reducible exact bor_R | with_reducible exact bshr_R | with_reducible exact bshl_R | omega) (by first | with_reducible exact hI_R | with_reducible exact lcm_R | with_reducible exact band_R | with_reducible exact bor_R | with_reducible exact bshr_R | with_reducible exact bshl_R | omega) (fun hc => ?_) (fun hc => ?_)))))) <;> (first | (exfalso; omega) | skip))
    | (show Rch _ _ _ _ _ 136 _ _ _; refine Rch.blk' (Rn_mono mt _ _) bl_L_goes_136 (i_iload_n rfl (t_goto 142 rfl ?_)))
    | (show Rch _ _ _ _ _ 140 _ _ _; refine Rch.blk' (Rn_mono mt _ _) bl_L_goes_140 (i_bipush k_m4 (t_none ?_)))
    | (show Rch _ _ _ _ _ 142 _ _ _; refine Rch.blk' (Rn_mono mt _ _) bl_L_goes_142 (t_iret ?_)))
theorem c_L_day (hG : RV h G) (hO : OKB G) (hy : dy G < 900000) (hq : ∀ h', RV h' (DAY G no0 0) → FrV h h' → Q none h') : Rn mt L (d + 6) 89 [ar 12 0] h Q := by
  refine Rn.intro iL_day rfl rfl ?_
  show Rch bL_day _ _ _ _ 0 [some (ar 12 0), none, none, none] [] _
  have e_d := hG.d
  have g_d := hO.2.2.2.1
  have g_t := hO.2.1
  have g_h := hO.2.2.1
  have hz : inR (dy G + 1) := ⟨by omega, by omega⟩
  have e_e := fun h => @hI_eq h 12 0 (Int.toNat 21) _ hz
  refine Rch.blk' (Rn_mono mt _ _) bl_L_day_0 (i_aload_n rfl (i_bipush k_21 (i_dup2 rfl (i_iald (n := 64) rfl (by first | omega | (simp (disch := omega) only [e_d, e_e]; omega)) (by first | omega | (simp (disch := omega) only [e_d, e_e]; omega)) (by first | omega | (simp (disch := omega) only [e_d, e_e]; omega)) (i_iconst k_1 (i_iadd (i_iast (n := 64) rfl rfl (by first | omega | (simp (disch := omega) only [e_d, e_e]; omega)) (by first | omega | (simp (disch := omega) only [e_d, e_e]; omega)) (by first | omega | (simp (disch := omega) only [e_d, e_e]; omega)) (i_aload_n rfl (i_aload_n rfl (i_bipush k_21 (i_iald (n := 64) rfl (by first | omega | (simp (disch := omega) only [e_d, e_e]; omega)) (by first | omega | (simp (disch := omega) only [e_d, e_e]; omega)) (by first | omega | (simp (disch := omega) only [e_d, e_e]; omega)) (t_cs2 (Rn_mono mt _ _) 16 rfl (Nat.le_of_ble_eq_true rfl) ?_)))))))))))) <;> (try (simp (disch := omega) only [e_d, e_e]))
  have hG1 := hG.set_d hO hz
  have hO1 : OKB (setd G (dy G + 1)) := OKB_setd hO (by omega)
  have hF1 : FrV h (mset h 12 0 (Int.toNat 21) (I (dy G + 1))) := FrV.rf.ms
  generalize mset h 12 0 (Int.toNat 21) (I (dy G + 1)) = h1 at hG1 hF1 ⊢
  have e_d1 : hI h1 12 0 (Int.toNat 21) = dy G + 1 := hG1.d
  have e_o1 : hI h1 12 0 (Int.toNat 23) = th G := hG1.o
  have e_t1 : hI h1 12 0 (Int.toNat 22) = tn G := hG1.t
  refine c_L_goes hG1 hO1 (by omega) (by omega) (fun g hg hgR => ?_)
  by_cases hg4 : g = -4
  · have hg' : goer (setd G (dy G + 1)) no0 0 (dy G + 1) = -4 := hg.symm.trans hg4
    have kN : ∀ v, v = (if th G < 9999 then th G + 1 else 9999) → Q none (mset (mset h1 12 0 (Int.toNat 23) (I v)) 12 0 (Int.toNat 22) (I (1 - tn G))) := by
      intro v hv
      refine hq _ ?_ ((hF1.ms).ms)
      rw [DAY_no hg', ← hv]
      exact (hG1.set_h hO1 ⟨by omega, by omega⟩).set_t (OKB_seth hO1 ⟨by omega, by omega⟩) ⟨by omega, by omega⟩
    clear hq
    repeat' (first
      | exact kN _ (by omega)
      | (show Rn _ _ _ 88 _ _ _; refine c_L_goes (by assumption) (by assumption) (by omega) (by omega) (fun _ _ _ => ?_))
      | (show Rn _ _ _ 83 _ _ _; refine c_L_idea (by assumption) (by assumption) (by omega) (by omega) (by omega) (by omega) (by omega) (fun _ _ _ _ => ?_))
      | (show Rn _ _ _ 78 _ _ _; refine c_L_at (by assumption) (by assumption) (by omega) (fun _ _ _ => ?_) (fun _ => ?_))
      | (show Rch _ _ _ _ _ 0 _ _ _; refine Rch.blk' (Rn_mono mt _ _) bl_L_day_0 (i_aload_n rfl (i_bipush k_21 (i_dup2 rfl (i_iald (n := 64) rfl (by first | omega | (simp (disch := omega) only [e_o1, e_t1, hI_nk]; omega)) (by first | omega | (simp (disch := omega) only [e_o1, e_t1, hI_nk]; omega)) (by first | omega | (simp (disch := omega) only [e_o1, e_t1, hI_nk]; omega)) (i_iconst k_1 (i_iadd (i_iast (n := 64) rfl rfl (by first | omega | (simp (disch := omega) only [e_o1, e_t1, hI_nk]; omega)) (by first | omega | (simp (disch := omega) only [e_o1, e_t1, hI_nk]; omega)) (by first | omega | (simp (disch := omega) only [e_o1, e_t1, hI_nk]; omega)) (i_aload_n rfl (i_aload_n rfl (i_bipush k_21 (i_iald (n := 64) rfl (by first | omega | (simp (disch := omega) only [e_o1, e_t1, hI_nk]; omega)) (by first | omega | (simp (disch := omega) only [e_o1, e_t1, hI_nk]; omega)) (by first | omega | (simp (disch := omega) only [e_o1, e_t1, hI_nk]; omega)) (t_cs2 (Rn_mono mt _ _) 16 rfl (Nat.le_of_ble_eq_true rfl) ?_)))))))))))) <;> (try (simp (disch := omega) only [e_o1, e_t1, hI_nk])))
      | (show Rch _ _ _ _ _ 16 _ _ _; refine Rch.blk' (Rn_mono mt _ _) bl_L_day_16 (i_istore1 trivial (i_iload_n rfl (t_if_ge 26 21 rfl rfl (by first | with_reducible exact hI_R | with_reducible exact lcm_R | with_reducible exact band_R | with_reducible exact bor_R | with_reducible exact bshr_R | with_reducible exact bshl_R | omega | (simp (disch := omega) only [e_o1, e_t1, hI_nk]; omega)) (fun hc => ?_) (fun hc => ?_)))) <;> (first | (exfalso; omega) | skip))
      | (show Rch _ _ _ _ _ 21 _ _ _; refine Rch.blk' (Rn_mono mt _ _) bl_L_day_21 (i_bipush k_m9 (t_goto 35 rfl ?_)))
      | (show Rch _ _ _ _ _ 26 _ _ _; refine Rch.blk' (Rn_mono mt _ _) bl_L_day_26 (i_aload_n rfl (i_iload_n rfl (i_aload_n rfl (i_bipush k_21 (i_iald (n := 64) rfl (by first | omega | (simp (disch := omega) only [e_o1, e_t1, hI_nk]; omega)) (by first | omega | (simp (disch := omega) only [e_o1, e_t1, hI_nk]; omega)) (by first | omega | (simp (disch := omega) only [e_o1, e_t1, hI_nk]; omega)) (t_cs3 (Rn_mono mt _ _) 35 rfl (Nat.le_of_ble_eq_true rfl) ?_)))))) <;> (try (simp (disch := omega) only [e_o1, e_t1, hI_nk])))
      | (show Rch _ _ _ _ _ 35 _ _ _; refine Rch.blk' (Rn_mono mt _ _) bl_L_day_35 (i_istore2 trivial (i_iload_n rfl (t_if_ge 44 40 rfl rfl (by first | with_reducible exact hI_R | with_reducible exact lcm_R | with_reducible exact band_R | with_reducible exact bor_R | with_reducible exact bshr_R | with_reducible exact bshl_R | omega | (simp (disch := omega) only [e_o1, e_t1, hI_nk]; omega)) (fun hc => ?_) (fun hc => ?_)))) <;> (first | (exfalso; omega) | skip))
      | (show Rch _ _ _ _ _ 40 _ _ _; refine Rch.blk' (Rn_mono mt _ _) bl_L_day_40 (i_iconst k_m1 (t_goto 49 rfl ?_)))
      | (show Rch _ _ _ _ _ 44 _ _ _; refine Rch.blk' (Rn_mono mt _ _) bl_L_day_44 (i_aload_n rfl (i_iload_n rfl (t_cs2 (Rn_mono mt _ _) 49 rfl (Nat.le_of_ble_eq_true rfl) ?_))))
      | (show Rch _ _ _ _ _ 49 _ _ _; refine Rch.blk' (Rn_mono mt _ _) bl_L_day_49 (i_istore3 trivial (i_aload_n rfl (i_bipush k_23 (i_dup2 rfl (i_iald (n := 64) rfl (by first | omega | (simp (disch := omega) only [e_o1, e_t1, hI_nk]; omega)) (by first | omega | (simp (disch := omega) only [e_o1, e_t1, hI_nk]; omega)) (by first | omega | (simp (disch := omega) only [e_o1, e_t1, hI_nk]; omega)) (i_iload_n rfl (t_if_ge 73 59 rfl rfl (by first | with_reducible exact hI_R | with_reducible exact lcm_R | with_reducible exact band_R | with_reducible exact bor_R | with_reducible exact bshr_R | with_reducible exact bshl_R | omega | (simp (disch := omega) only [e_o1, e_t1, hI_nk]; omega)) (fun hc => ?_) (fun hc => ?_)))))))) <;> (try (simp (disch := omega) only [e_o1, e_t1, hI_nk] at hc ⊢)) <;> (first | (exfalso; omega) | skip))
      | (show Rch _ _ _ _ _ 59 _ _ _; refine Rch.blk' (Rn_mono mt _ _) bl_L_day_59 (i_aload_n rfl (i_bipush k_23 (i_iald (n := 64) rfl (by first | omega | (simp (disch := omega) only [e_o1, e_t1, hI_nk]; omega)) (by first | omega | (simp (disch := omega) only [e_o1, e_t1, hI_nk]; omega)) (by first | omega | (simp (disch := omega) only [e_o1, e_t1, hI_nk]; omega)) (i_sipush k_9999 (t_ic_ge 73 69 rfl rfl (by first | with_reducible exact hI_R | with_reducible exact lcm_R | with_reducible exact band_R | with_reducible exact bor_R | with_reducible exact bshr_R | with_reducible exact bshl_R | omega | (simp (disch := omega) only [e_o1, e_t1, hI_nk]; omega)) (by first | with_reducible exact hI_R | with_reducible exact lcm_R | with_reducible exact band_R | with_reducible exact bor_R | with_reducible exact bshr_R | with_reducible exact bshl_R | omega | (simp (disch := omega) only [e_o1, e_t1, hI_nk]; omega)) (fun hc => ?_) (fun hc => ?_)))))) <;> (try (simp (disch := omega) only [e_o1, e_t1, hI_nk] at hc ⊢)) <;> (first | (exfalso; omega) | skip))
      | (show Rch _ _ _ _ _ 69 _ _ _; refine Rch.blk' (Rn_mono mt _ _) bl_L_day_69 (i_iconst k_1 (t_goto 74 rfl ?_)))
      | (show Rch _ _ _ _ _ 73 _ _ _; refine Rch.blk' (Rn_mono mt _ _) bl_L_day_73 (i_iconst k_0 (t_none ?_)))
      | (show Rch _ _ _ _ _ 74 _ _ _; refine Rch.blk' (Rn_mono mt _ _) bl_L_day_74 (i_iadd (i_iast rfl rfl (by first | omega | (simp (disch := omega) only [e_o1, e_t1, hI_nk]; omega)) (by simp only [aln]; omega) (by simp only [aln]; omega) (i_iload_n rfl (t_if_lt 88 80 rfl rfl (by first | with_reducible exact hI_R | with_reducible exact lcm_R | with_reducible exact band_R | with_reducible exact bor_R | with_reducible exact bshr_R | with_reducible exact bshl_R | omega | (simp (disch := omega) only [e_o1, e_t1, hI_nk]; omega)) (fun hc => ?_) (fun hc => ?_))))) <;> (first | (exfalso; omega) | skip))
      | (show Rch _ _ _ _ _ 80 _ _ _; refine Rch.blk' (Rn_mono mt _ _) bl_L_day_80 (i_aload_n rfl (i_bipush k_10 (i_iload_n rfl (i_iadd (i_bipush k_m4 (i_iast (n := 64) rfl rfl (by first | omega | (simp (disch := omega) only [e_o1, e_t1, hI_nk]; omega)) (by first | omega | (simp (disch := omega) only [e_o1, e_t1, hI_nk]; omega)) (by first | omega | (simp (disch := omega) only [e_o1, e_t1, hI_nk]; omega)) (t_none ?_))))))))
      | (show Rch _ _ _ _ _ 88 _ _ _; refine Rch.blk' (Rn_mono mt _ _) bl_L_day_88 (i_iload_n rfl (t_if_lt 99 92 rfl rfl (by first | with_reducible exact hI_R | with_reducible exact lcm_R | with_reducible exact band_R | with_reducible exact bor_R | with_reducible exact bshr_R | with_reducible exact bshl_R | omega | (simp (disch := omega) only [e_o1, e_t1, hI_nk]; omega)) (fun hc => ?_) (fun hc => ?_))) <;> (first | (exfalso; omega) | skip))
      | (show Rch _ _ _ _ _ 92 _ _ _; refine Rch.blk' (Rn_mono mt _ _) bl_L_day_92 (i_aload_n rfl (i_bipush k_10 (i_iload_n rfl (i_iadd (i_iload_n rfl (i_iast (n := 64) rfl rfl (by first | omega | (simp (disch := omega) only [e_o1, e_t1, hI_nk]; omega)) (by first | omega | (simp (disch := omega) only [e_o1, e_t1, hI_nk]; omega)) (by first | omega | (simp (disch := omega) only [e_o1, e_t1, hI_nk]; omega)) (t_none ?_))))))))
      | (show Rch _ _ _ _ _ 99 _ _ _; refine Rch.blk' (Rn_mono mt _ _) bl_L_day_99 (i_aload_n rfl (i_bipush k_22 (i_iconst k_1 (i_aload_n rfl (i_bipush k_22 (i_iald (n := 64) rfl (by first | omega | (simp (disch := omega) only [e_o1, e_t1, hI_nk]; omega)) (by first | omega | (simp (disch := omega) only [e_o1, e_t1, hI_nk]; omega)) (by first | omega | (simp (disch := omega) only [e_o1, e_t1, hI_nk]; omega)) (i_isub (i_iast (n := 64) rfl rfl (by first | omega | (simp (disch := omega) only [e_o1, e_t1, hI_nk]; omega)) (by first | omega | (simp (disch := omega) only [e_o1, e_t1, hI_nk]; omega)) (by first | omega | (simp (disch := omega) only [e_o1, e_t1, hI_nk]; omega)) (t_vret ?_))))))))) <;> (try (simp (disch := omega) only [e_o1, e_t1, hI_nk]))))
  · have hgo := goer_R (G := setd G (dy G + 1)) (M := no0) (ra := 0) (y := dy G + 1) hO1
    rw [← hg] at hgo
    obtain ⟨g0, g1, gc⟩ : 0 ≤ g ∧ g < nn (setd G (dy G + 1)) ∧ cand (setd G (dy G + 1)) no0 (dy G + 1) g := by
      rcases hgo with e | e
      · exact absurd e hg4
      · exact e
    have gsq := gc.2.1
    have gid := gc.2.2.2
    have gn1 := hO1.n
    clear hgo
    refine Rch.blk' (Rn_mono mt _ _) bl_L_day_16 (i_istore1 trivial (i_iload_n rfl (t_if_ge 26 21 rfl rfl (by first | with_reducible exact hI_R | with_reducible exact lcm_R | with_reducible exact band_R | with_reducible exact bor_R | with_reducible exact bshr_R | with_reducible exact bshl_R | omega) (fun hc => ?_) (fun hc => ?_)))) <;> (first | (exfalso; omega) | skip)
    refine Rch.blk' (Rn_mono mt _ _) bl_L_day_26 (i_aload_n rfl (i_iload_n rfl (i_aload_n rfl (i_bipush k_21 (i_iald (n := 64) rfl (by first | omega | (simp (disch := omega) only [e_d1]; omega)) (by first | omega | (simp (disch := omega) only [e_d1]; omega)) (by first | omega | (simp (disch := omega) only [e_d1]; omega)) (t_cs3 (Rn_mono mt _ _) 35 rfl (Nat.le_of_ble_eq_true rfl) ?_)))))) <;> (try (simp (disch := omega) only [e_d1]))
    refine c_L_idea hG1 hO1 g0 g1 gsq (by omega) (by omega) (fun s hs s0 s1 => ?_)
    have hsR := @ide_R (setd G (dy G + 1)) g (dy G + 1)
    have s2 : 0 ≤ s := by omega
    refine Rch.blk' (Rn_mono mt _ _) bl_L_day_35 (i_istore2 trivial (i_iload_n rfl (t_if_ge 44 40 rfl rfl (by first | with_reducible exact hI_R | with_reducible exact lcm_R | with_reducible exact band_R | with_reducible exact bor_R | with_reducible exact bshr_R | with_reducible exact bshl_R | omega) (fun hc => ?_) (fun hc => ?_)))) <;> (first | (exfalso; omega) | skip)
    refine Rch.blk' (Rn_mono mt _ _) bl_L_day_44 (i_aload_n rfl (i_iload_n rfl (t_cs2 (Rn_mono mt _ _) 49 rfl (Nat.le_of_ble_eq_true rfl) ?_)))
    have hoR := ons_R (setd G (dy G + 1)) hO1 s
    have hmid : ∀ o : Int, ((o = -1 ∧ ons (setd G (dy G + 1)) s = -4) ∨ (0 ≤ o ∧ o < nn (setd G (dy G + 1)) ∧ o = ons (setd G (dy G + 1)) s)) → Rch bL_day (Rn mt L (d + 5)) L (fun _ _ _ _ => False) Q 49 [some (ar 12 0), some (ai (I g)), some (ai (I s)), none] [ai (I o)] h1 := by
      intro o ho
      have e_th : seth (setd G (dy G + 1)) (th G + 0) = setd G (dy G + 1) := by rw [Int.add_zero]; rfl
      have hG2 := hG1.set_h hO1 (z := th G + 0) ⟨by omega, by omega⟩
      rw [e_th] at hG2
      have kG : ∀ h3 : Mem, RV h3 (tof (setd G (dy G + 1)) (ons (setd G (dy G + 1)) s)) → FrV h h3 → RH L bL_day (d + 5) Q 92 [some (ar 12 0), some (ai (I g)), some (ai (I s)), some (ai (I o))] h3 := by
        intro h3 hG3 hF3
        have hO3 := OKB_tof hO1 (ons (setd G (dy G + 1)) s)
        have hf3 := ons_tof hO1 s2 s1
        have hG4 := hG3.mv hO3 g0 (by rw [nn_tof]; exact g1) s2 (by omega)
        rw [m4_p s1] at hG4
        have hO4 := OKB_mov hO3 (z := g) s2 (by omega) (fun _ => Or.inl hf3)
        have e_t4 : hI (mset h3 12 0 (10 + g).toNat (I s)) 12 0 (Int.toNat 22) = tn G := by rw [hG4.t]; unfold tof; split <;> rfl
        have kE : Q none (mset (mset h3 12 0 (10 + g).toNat (I s)) 12 0 (Int.toNat 22) (I (1 - tn G))) := by
          refine hq _ ?_ ((hF3.ms).ms)
          rw [DAY_go hg.symm hg4 hs.symm]
          exact hG4.set_t hO4 ⟨by omega, by omega⟩
        repeat' (first
          | exact kE
          | (show Rn _ _ _ 88 _ _ _; refine c_L_goes (by assumption) (by assumption) (by omega) (by omega) (fun _ _ _ => ?_))
          | (show Rn _ _ _ 83 _ _ _; refine c_L_idea (by assumption) (by assumption) (by omega) (by omega) (by omega) (by omega) (by omega) (fun _ _ _ _ => ?_))
          | (show Rn _ _ _ 78 _ _ _; refine c_L_at (by assumption) (by assumption) (by omega) (fun _ _ _ => ?_) (fun _ => ?_))
          | (show Rch _ _ _ _ _ 0 _ _ _; refine Rch.blk' (Rn_mono mt _ _) bl_L_day_0 (i_aload_n rfl (i_bipush k_21 (i_dup2 rfl (i_iald (n := 64) rfl (by first | omega | (simp (disch := omega) only [e_t4]; omega)) (by first | omega | (simp (disch := omega) only [e_t4]; omega)) (by first | omega | (simp (disch := omega) only [e_t4]; omega)) (i_iconst k_1 (i_iadd (i_iast (n := 64) rfl rfl (by first | omega | (simp (disch := omega) only [e_t4]; omega)) (by first | omega | (simp (disch := omega) only [e_t4]; omega)) (by first | omega | (simp (disch := omega) only [e_t4]; omega)) (i_aload_n rfl (i_aload_n rfl (i_bipush k_21 (i_iald (n := 64) rfl (by first | omega | (simp (disch := omega) only [e_t4]; omega)) (by first | omega | (simp (disch := omega) only [e_t4]; omega)) (by first | omega | (simp (disch := omega) only [e_t4]; omega)) (t_cs2 (Rn_mono mt _ _) 16 rfl (Nat.le_of_ble_eq_true rfl) ?_)))))))))))) <;> (try (simp (disch := omega) only [e_t4])))
          | (show Rch _ _ _ _ _ 16 _ _ _; refine Rch.blk' (Rn_mono mt _ _) bl_L_day_16 (i_istore1 trivial (i_iload_n rfl (t_if_ge 26 21 rfl rfl (by first | with_reducible exact hI_R | with_reducible exact lcm_R | with_reducible exact band_R | with_reducible exact bor_R | with_reducible exact bshr_R | with_reducible exact bshl_R | omega | (simp (disch := omega) only [e_t4]; omega)) (fun hc => ?_) (fun hc => ?_)))) <;> (first | (exfalso; omega) | skip))
          | (show Rch _ _ _ _ _ 21 _ _ _; refine Rch.blk' (Rn_mono mt _ _) bl_L_day_21 (i_bipush k_m9 (t_goto 35 rfl ?_)))
          | (show Rch _ _ _ _ _ 26 _ _ _; refine Rch.blk' (Rn_mono mt _ _) bl_L_day_26 (i_aload_n rfl (i_iload_n rfl (i_aload_n rfl (i_bipush k_21 (i_iald (n := 64) rfl (by first | omega | (simp (disch := omega) only [e_t4]; omega)) (by first | omega | (simp (disch := omega) only [e_t4]; omega)) (by first | omega | (simp (disch := omega) only [e_t4]; omega)) (t_cs3 (Rn_mono mt _ _) 35 rfl (Nat.le_of_ble_eq_true rfl) ?_)))))) <;> (try (simp (disch := omega) only [e_t4])))
          | (show Rch _ _ _ _ _ 35 _ _ _; refine Rch.blk' (Rn_mono mt _ _) bl_L_day_35 (i_istore2 trivial (i_iload_n rfl (t_if_ge 44 40 rfl rfl (by first | with_reducible exact hI_R | with_reducible exact lcm_R | with_reducible exact band_R | with_reducible exact bor_R | with_reducible exact bshr_R | with_reducible exact bshl_R | omega | (simp (disch := omega) only [e_t4]; omega)) (fun hc => ?_) (fun hc => ?_)))) <;> (first | (exfalso; omega) | skip))
          | (show Rch _ _ _ _ _ 40 _ _ _; refine Rch.blk' (Rn_mono mt _ _) bl_L_day_40 (i_iconst k_m1 (t_goto 49 rfl ?_)))
          | (show Rch _ _ _ _ _ 44 _ _ _; refine Rch.blk' (Rn_mono mt _ _) bl_L_day_44 (i_aload_n rfl (i_iload_n rfl (t_cs2 (Rn_mono mt _ _) 49 rfl (Nat.le_of_ble_eq_true rfl) ?_))))
          | (show Rch _ _ _ _ _ 49 _ _ _; refine Rch.blk' (Rn_mono mt _ _) bl_L_day_49 (i_istore3 trivial (i_aload_n rfl (i_bipush k_23 (i_dup2 rfl (i_iald (n := 64) rfl (by first | omega | (simp (disch := omega) only [e_t4]; omega)) (by first | omega | (simp (disch := omega) only [e_t4]; omega)) (by first | omega | (simp (disch := omega) only [e_t4]; omega)) (i_iload_n rfl (t_if_ge 73 59 rfl rfl (by first | with_reducible exact hI_R | with_reducible exact lcm_R | with_reducible exact band_R | with_reducible exact bor_R | with_reducible exact bshr_R | with_reducible exact bshl_R | omega | (simp (disch := omega) only [e_t4]; omega)) (fun hc => ?_) (fun hc => ?_)))))))) <;> (try (simp (disch := omega) only [e_t4] at hc ⊢)) <;> (first | (exfalso; omega) | skip))
          | (show Rch _ _ _ _ _ 59 _ _ _; refine Rch.blk' (Rn_mono mt _ _) bl_L_day_59 (i_aload_n rfl (i_bipush k_23 (i_iald (n := 64) rfl (by first | omega | (simp (disch := omega) only [e_t4]; omega)) (by first | omega | (simp (disch := omega) only [e_t4]; omega)) (by first | omega | (simp (disch := omega) only [e_t4]; omega)) (i_sipush k_9999 (t_ic_ge 73 69 rfl rfl (by first | with_reducible exact hI_R | with_reducible exact lcm_R | with_reducible exact band_R | with_reducible exact bor_R | with_reducible exact bshr_R | with_reducible exact bshl_R | omega | (simp (disch := omega) only [e_t4]; omega)) (by first | with_reducible exact hI_R | with_reducible exact lcm_R | with_reducible exact band_R | with_reducible exact bor_R | with_reducible exact bshr_R | with_reducible exact bshl_R | omega | (simp (disch := omega) only [e_t4]; omega)) (fun hc => ?_) (fun hc => ?_)))))) <;> (try (simp (disch := omega) only [e_t4] at hc ⊢)) <;> (first | (exfalso; omega) | skip))
          | (show Rch _ _ _ _ _ 69 _ _ _; refine Rch.blk' (Rn_mono mt _ _) bl_L_day_69 (i_iconst k_1 (t_goto 74 rfl ?_)))
          | (show Rch _ _ _ _ _ 73 _ _ _; refine Rch.blk' (Rn_mono mt _ _) bl_L_day_73 (i_iconst k_0 (t_none ?_)))
          | (show Rch _ _ _ _ _ 74 _ _ _; refine Rch.blk' (Rn_mono mt _ _) bl_L_day_74 (i_iadd (i_iast rfl rfl (by first | omega | (simp (disch := omega) only [e_t4]; omega)) (by simp only [aln]; omega) (by simp only [aln]; omega) (i_iload_n rfl (t_if_lt 88 80 rfl rfl (by first | with_reducible exact hI_R | with_reducible exact lcm_R | with_reducible exact band_R | with_reducible exact bor_R | with_reducible exact bshr_R | with_reducible exact bshl_R | omega | (simp (disch := omega) only [e_t4]; omega)) (fun hc => ?_) (fun hc => ?_))))) <;> (first | (exfalso; omega) | skip))
          | (show Rch _ _ _ _ _ 80 _ _ _; refine Rch.blk' (Rn_mono mt _ _) bl_L_day_80 (i_aload_n rfl (i_bipush k_10 (i_iload_n rfl (i_iadd (i_bipush k_m4 (i_iast (n := 64) rfl rfl (by first | omega | (simp (disch := omega) only [e_t4]; omega)) (by first | omega | (simp (disch := omega) only [e_t4]; omega)) (by first | omega | (simp (disch := omega) only [e_t4]; omega)) (t_none ?_))))))))
          | (show Rch _ _ _ _ _ 88 _ _ _; refine Rch.blk' (Rn_mono mt _ _) bl_L_day_88 (i_iload_n rfl (t_if_lt 99 92 rfl rfl (by first | with_reducible exact hI_R | with_reducible exact lcm_R | with_reducible exact band_R | with_reducible exact bor_R | with_reducible exact bshr_R | with_reducible exact bshl_R | omega | (simp (disch := omega) only [e_t4]; omega)) (fun hc => ?_) (fun hc => ?_))) <;> (first | (exfalso; omega) | skip))
          | (show Rch _ _ _ _ _ 92 _ _ _; refine Rch.blk' (Rn_mono mt _ _) bl_L_day_92 (i_aload_n rfl (i_bipush k_10 (i_iload_n rfl (i_iadd (i_iload_n rfl (i_iast (n := 64) rfl rfl (by first | omega | (simp (disch := omega) only [e_t4]; omega)) (by first | omega | (simp (disch := omega) only [e_t4]; omega)) (by first | omega | (simp (disch := omega) only [e_t4]; omega)) (t_none ?_))))))))
          | (show Rch _ _ _ _ _ 99 _ _ _; refine Rch.blk' (Rn_mono mt _ _) bl_L_day_99 (i_aload_n rfl (i_bipush k_22 (i_iconst k_1 (i_aload_n rfl (i_bipush k_22 (i_iald (n := 64) rfl (by first | omega | (simp (disch := omega) only [e_t4]; omega)) (by first | omega | (simp (disch := omega) only [e_t4]; omega)) (by first | omega | (simp (disch := omega) only [e_t4]; omega)) (i_isub (i_iast (n := 64) rfl rfl (by first | omega | (simp (disch := omega) only [e_t4]; omega)) (by first | omega | (simp (disch := omega) only [e_t4]; omega)) (by first | omega | (simp (disch := omega) only [e_t4]; omega)) (t_vret ?_))))))))) <;> (try (simp (disch := omega) only [e_t4]))))
      rcases ho with ⟨rfl, e⟩ | ⟨o0, o1, e⟩
      · have kG := kG (mset h1 12 0 (Int.toNat 23) (I (th G + 0))) (by rw [tof, if_pos e]; exact hG2) (hF1.ms)
        repeat' (first
          | exact kG
          | (show Rn _ _ _ 88 _ _ _; refine c_L_goes (by assumption) (by assumption) (by omega) (by omega) (fun _ _ _ => ?_))
          | (show Rn _ _ _ 83 _ _ _; refine c_L_idea (by assumption) (by assumption) (by omega) (by omega) (by omega) (by omega) (by omega) (fun _ _ _ _ => ?_))
          | (show Rn _ _ _ 78 _ _ _; refine c_L_at (by assumption) (by assumption) (by omega) (fun _ _ _ => ?_) (fun _ => ?_))
          | (show Rch _ _ _ _ _ 0 _ _ _; refine Rch.blk' (Rn_mono mt _ _) bl_L_day_0 (i_aload_n rfl (i_bipush k_21 (i_dup2 rfl (i_iald (n := 64) rfl (by first | omega | (simp (disch := omega) only [e_o1]; omega)) (by first | omega | (simp (disch := omega) only [e_o1]; omega)) (by first | omega | (simp (disch := omega) only [e_o1]; omega)) (i_iconst k_1 (i_iadd (i_iast (n := 64) rfl rfl (by first | omega | (simp (disch := omega) only [e_o1]; omega)) (by first | omega | (simp (disch := omega) only [e_o1]; omega)) (by first | omega | (simp (disch := omega) only [e_o1]; omega)) (i_aload_n rfl (i_aload_n rfl (i_bipush k_21 (i_iald (n := 64) rfl (by first | omega | (simp (disch := omega) only [e_o1]; omega)) (by first | omega | (simp (disch := omega) only [e_o1]; omega)) (by first | omega | (simp (disch := omega) only [e_o1]; omega)) (t_cs2 (Rn_mono mt _ _) 16 rfl (Nat.le_of_ble_eq_true rfl) ?_)))))))))))) <;> (try (simp (disch := omega) only [e_o1])))
          | (show Rch _ _ _ _ _ 16 _ _ _; refine Rch.blk' (Rn_mono mt _ _) bl_L_day_16 (i_istore1 trivial (i_iload_n rfl (t_if_ge 26 21 rfl rfl (by first | with_reducible exact hI_R | with_reducible exact lcm_R | with_reducible exact band_R | with_reducible exact bor_R | with_reducible exact bshr_R | with_reducible exact bshl_R | omega | (simp (disch := omega) only [e_o1]; omega)) (fun hc => ?_) (fun hc => ?_)))) <;> (first | (exfalso; omega) | skip))
          | (show Rch _ _ _ _ _ 21 _ _ _; refine Rch.blk' (Rn_mono mt _ _) bl_L_day_21 (i_bipush k_m9 (t_goto 35 rfl ?_)))
          | (show Rch _ _ _ _ _ 26 _ _ _; refine Rch.blk' (Rn_mono mt _ _) bl_L_day_26 (i_aload_n rfl (i_iload_n rfl (i_aload_n rfl (i_bipush k_21 (i_iald (n := 64) rfl (by first | omega | (simp (disch := omega) only [e_o1]; omega)) (by first | omega | (simp (disch := omega) only [e_o1]; omega)) (by first | omega | (simp (disch := omega) only [e_o1]; omega)) (t_cs3 (Rn_mono mt _ _) 35 rfl (Nat.le_of_ble_eq_true rfl) ?_)))))) <;> (try (simp (disch := omega) only [e_o1])))
          | (show Rch _ _ _ _ _ 35 _ _ _; refine Rch.blk' (Rn_mono mt _ _) bl_L_day_35 (i_istore2 trivial (i_iload_n rfl (t_if_ge 44 40 rfl rfl (by first | with_reducible exact hI_R | with_reducible exact lcm_R | with_reducible exact band_R | with_reducible exact bor_R | with_reducible exact bshr_R | with_reducible exact bshl_R | omega | (simp (disch := omega) only [e_o1]; omega)) (fun hc => ?_) (fun hc => ?_)))) <;> (first | (exfalso; omega) | skip))
          | (show Rch _ _ _ _ _ 40 _ _ _; refine Rch.blk' (Rn_mono mt _ _) bl_L_day_40 (i_iconst k_m1 (t_goto 49 rfl ?_)))
          | (show Rch _ _ _ _ _ 44 _ _ _; refine Rch.blk' (Rn_mono mt _ _) bl_L_day_44 (i_aload_n rfl (i_iload_n rfl (t_cs2 (Rn_mono mt _ _) 49 rfl (Nat.le_of_ble_eq_true rfl) ?_))))
          | (show Rch _ _ _ _ _ 49 _ _ _; refine Rch.blk' (Rn_mono mt _ _) bl_L_day_49 (i_istore3 trivial (i_aload_n rfl (i_bipush k_23 (i_dup2 rfl (i_iald (n := 64) rfl (by first | omega | (simp (disch := omega) only [e_o1]; omega)) (by first | omega | (simp (disch := omega) only [e_o1]; omega)) (by first | omega | (simp (disch := omega) only [e_o1]; omega)) (i_iload_n rfl (t_if_ge 73 59 rfl rfl (by first | with_reducible exact hI_R | with_reducible exact lcm_R | with_reducible exact band_R | with_reducible exact bor_R | with_reducible exact bshr_R | with_reducible exact bshl_R | omega | (simp (disch := omega) only [e_o1]; omega)) (fun hc => ?_) (fun hc => ?_)))))))) <;> (try (simp (disch := omega) only [e_o1] at hc ⊢)) <;> (first | (exfalso; omega) | skip))
          | (show Rch _ _ _ _ _ 59 _ _ _; refine Rch.blk' (Rn_mono mt _ _) bl_L_day_59 (i_aload_n rfl (i_bipush k_23 (i_iald (n := 64) rfl (by first | omega | (simp (disch := omega) only [e_o1]; omega)) (by first | omega | (simp (disch := omega) only [e_o1]; omega)) (by first | omega | (simp (disch := omega) only [e_o1]; omega)) (i_sipush k_9999 (t_ic_ge 73 69 rfl rfl (by first | with_reducible exact hI_R | with_reducible exact lcm_R | with_reducible exact band_R | with_reducible exact bor_R | with_reducible exact bshr_R | with_reducible exact bshl_R | omega | (simp (disch := omega) only [e_o1]; omega)) (by first | with_reducible exact hI_R | with_reducible exact lcm_R | with_reducible exact band_R | with_reducible exact bor_R | with_reducible exact bshr_R | with_reducible exact bshl_R | omega | (simp (disch := omega) only [e_o1]; omega)) (fun hc => ?_) (fun hc => ?_)))))) <;> (try (simp (disch := omega) only [e_o1] at hc ⊢)) <;> (first | (exfalso; omega) | skip))
          | (show Rch _ _ _ _ _ 69 _ _ _; refine Rch.blk' (Rn_mono mt _ _) bl_L_day_69 (i_iconst k_1 (t_goto 74 rfl ?_)))
          | (show Rch _ _ _ _ _ 73 _ _ _; refine Rch.blk' (Rn_mono mt _ _) bl_L_day_73 (i_iconst k_0 (t_none ?_)))
          | (show Rch _ _ _ _ _ 74 _ _ _; refine Rch.blk' (Rn_mono mt _ _) bl_L_day_74 (i_iadd (i_iast rfl rfl (by first | omega | (simp (disch := omega) only [e_o1]; omega)) (by simp only [aln]; omega) (by simp only [aln]; omega) (i_iload_n rfl (t_if_lt 88 80 rfl rfl (by first | with_reducible exact hI_R | with_reducible exact lcm_R | with_reducible exact band_R | with_reducible exact bor_R | with_reducible exact bshr_R | with_reducible exact bshl_R | omega | (simp (disch := omega) only [e_o1]; omega)) (fun hc => ?_) (fun hc => ?_))))) <;> (first | (exfalso; omega) | skip))
          | (show Rch _ _ _ _ _ 80 _ _ _; refine Rch.blk' (Rn_mono mt _ _) bl_L_day_80 (i_aload_n rfl (i_bipush k_10 (i_iload_n rfl (i_iadd (i_bipush k_m4 (i_iast (n := 64) rfl rfl (by first | omega | (simp (disch := omega) only [e_o1]; omega)) (by first | omega | (simp (disch := omega) only [e_o1]; omega)) (by first | omega | (simp (disch := omega) only [e_o1]; omega)) (t_none ?_))))))))
          | (show Rch _ _ _ _ _ 88 _ _ _; refine Rch.blk' (Rn_mono mt _ _) bl_L_day_88 (i_iload_n rfl (t_if_lt 99 92 rfl rfl (by first | with_reducible exact hI_R | with_reducible exact lcm_R | with_reducible exact band_R | with_reducible exact bor_R | with_reducible exact bshr_R | with_reducible exact bshl_R | omega | (simp (disch := omega) only [e_o1]; omega)) (fun hc => ?_) (fun hc => ?_))) <;> (first | (exfalso; omega) | skip))
          | (show Rch _ _ _ _ _ 99 _ _ _; refine Rch.blk' (Rn_mono mt _ _) bl_L_day_99 (i_aload_n rfl (i_bipush k_22 (i_iconst k_1 (i_aload_n rfl (i_bipush k_22 (i_iald (n := 64) rfl (by first | omega | (simp (disch := omega) only [e_o1]; omega)) (by first | omega | (simp (disch := omega) only [e_o1]; omega)) (by first | omega | (simp (disch := omega) only [e_o1]; omega)) (i_isub (i_iast (n := 64) rfl rfl (by first | omega | (simp (disch := omega) only [e_o1]; omega)) (by first | omega | (simp (disch := omega) only [e_o1]; omega)) (by first | omega | (simp (disch := omega) only [e_o1]; omega)) (t_vret ?_))))))))) <;> (try (simp (disch := omega) only [e_o1]))))
      · have hG3 := hG2.mv hO1 (z := o) (s := 36) o0 o1 (by omega) (by omega)
        rw [m4_n rfl] at hG3
        have kG := kG (mset (mset h1 12 0 (Int.toNat 23) (I (th G + 0))) 12 0 (10 + o).toNat (I (-4))) (by rw [tof, if_neg (by omega), ← e]; exact hG3) ((hF1.ms).ms)
        repeat' (first
          | exact kG
          | (show Rn _ _ _ 88 _ _ _; refine c_L_goes (by assumption) (by assumption) (by omega) (by omega) (fun _ _ _ => ?_))
          | (show Rn _ _ _ 83 _ _ _; refine c_L_idea (by assumption) (by assumption) (by omega) (by omega) (by omega) (by omega) (by omega) (fun _ _ _ _ => ?_))
          | (show Rn _ _ _ 78 _ _ _; refine c_L_at (by assumption) (by assumption) (by omega) (fun _ _ _ => ?_) (fun _ => ?_))
          | (show Rch _ _ _ _ _ 0 _ _ _; refine Rch.blk' (Rn_mono mt _ _) bl_L_day_0 (i_aload_n rfl (i_bipush k_21 (i_dup2 rfl (i_iald (n := 64) rfl (by first | omega | (simp (disch := omega) only [e_o1]; omega)) (by first | omega | (simp (disch := omega) only [e_o1]; omega)) (by first | omega | (simp (disch := omega) only [e_o1]; omega)) (i_iconst k_1 (i_iadd (i_iast (n := 64) rfl rfl (by first | omega | (simp (disch := omega) only [e_o1]; omega)) (by first | omega | (simp (disch := omega) only [e_o1]; omega)) (by first | omega | (simp (disch := omega) only [e_o1]; omega)) (i_aload_n rfl (i_aload_n rfl (i_bipush k_21 (i_iald (n := 64) rfl (by first | omega | (simp (disch := omega) only [e_o1]; omega)) (by first | omega | (simp (disch := omega) only [e_o1]; omega)) (by first | omega | (simp (disch := omega) only [e_o1]; omega)) (t_cs2 (Rn_mono mt _ _) 16 rfl (Nat.le_of_ble_eq_true rfl) ?_)))))))))))) <;> (try (simp (disch := omega) only [e_o1])))
          | (show Rch _ _ _ _ _ 16 _ _ _; refine Rch.blk' (Rn_mono mt _ _) bl_L_day_16 (i_istore1 trivial (i_iload_n rfl (t_if_ge 26 21 rfl rfl (by first | with_reducible exact hI_R | with_reducible exact lcm_R | with_reducible exact band_R | with_reducible exact bor_R | with_reducible exact bshr_R | with_reducible exact bshl_R | omega | (simp (disch := omega) only [e_o1]; omega)) (fun hc => ?_) (fun hc => ?_)))) <;> (first | (exfalso; omega) | skip))
          | (show Rch _ _ _ _ _ 21 _ _ _; refine Rch.blk' (Rn_mono mt _ _) bl_L_day_21 (i_bipush k_m9 (t_goto 35 rfl ?_)))
          | (show Rch _ _ _ _ _ 26 _ _ _; refine Rch.blk' (Rn_mono mt _ _) bl_L_day_26 (i_aload_n rfl (i_iload_n rfl (i_aload_n rfl (i_bipush k_21 (i_iald (n := 64) rfl (by first | omega | (simp (disch := omega) only [e_o1]; omega)) (by first | omega | (simp (disch := omega) only [e_o1]; omega)) (by first | omega | (simp (disch := omega) only [e_o1]; omega)) (t_cs3 (Rn_mono mt _ _) 35 rfl (Nat.le_of_ble_eq_true rfl) ?_)))))) <;> (try (simp (disch := omega) only [e_o1])))
          | (show Rch _ _ _ _ _ 35 _ _ _; refine Rch.blk' (Rn_mono mt _ _) bl_L_day_35 (i_istore2 trivial (i_iload_n rfl (t_if_ge 44 40 rfl rfl (by first | with_reducible exact hI_R | with_reducible exact lcm_R | with_reducible exact band_R | with_reducible exact bor_R | with_reducible exact bshr_R | with_reducible exact bshl_R | omega | (simp (disch := omega) only [e_o1]; omega)) (fun hc => ?_) (fun hc => ?_)))) <;> (first | (exfalso; omega) | skip))
          | (show Rch _ _ _ _ _ 40 _ _ _; refine Rch.blk' (Rn_mono mt _ _) bl_L_day_40 (i_iconst k_m1 (t_goto 49 rfl ?_)))
          | (show Rch _ _ _ _ _ 44 _ _ _; refine Rch.blk' (Rn_mono mt _ _) bl_L_day_44 (i_aload_n rfl (i_iload_n rfl (t_cs2 (Rn_mono mt _ _) 49 rfl (Nat.le_of_ble_eq_true rfl) ?_))))
          | (show Rch _ _ _ _ _ 49 _ _ _; refine Rch.blk' (Rn_mono mt _ _) bl_L_day_49 (i_istore3 trivial (i_aload_n rfl (i_bipush k_23 (i_dup2 rfl (i_iald (n := 64) rfl (by first | omega | (simp (disch := omega) only [e_o1]; omega)) (by first | omega | (simp (disch := omega) only [e_o1]; omega)) (by first | omega | (simp (disch := omega) only [e_o1]; omega)) (i_iload_n rfl (t_if_ge 73 59 rfl rfl (by first | with_reducible exact hI_R | with_reducible exact lcm_R | with_reducible exact band_R | with_reducible exact bor_R | with_reducible exact bshr_R | with_reducible exact bshl_R | omega | (simp (disch := omega) only [e_o1]; omega)) (fun hc => ?_) (fun hc => ?_)))))))) <;> (try (simp (disch := omega) only [e_o1] at hc ⊢)) <;> (first | (exfalso; omega) | skip))
          | (show Rch _ _ _ _ _ 59 _ _ _; refine Rch.blk' (Rn_mono mt _ _) bl_L_day_59 (i_aload_n rfl (i_bipush k_23 (i_iald (n := 64) rfl (by first | omega | (simp (disch := omega) only [e_o1]; omega)) (by first | omega | (simp (disch := omega) only [e_o1]; omega)) (by first | omega | (simp (disch := omega) only [e_o1]; omega)) (i_sipush k_9999 (t_ic_ge 73 69 rfl rfl (by first | with_reducible exact hI_R | with_reducible exact lcm_R | with_reducible exact band_R | with_reducible exact bor_R | with_reducible exact bshr_R | with_reducible exact bshl_R | omega | (simp (disch := omega) only [e_o1]; omega)) (by first | with_reducible exact hI_R | with_reducible exact lcm_R | with_reducible exact band_R | with_reducible exact bor_R | with_reducible exact bshr_R | with_reducible exact bshl_R | omega | (simp (disch := omega) only [e_o1]; omega)) (fun hc => ?_) (fun hc => ?_)))))) <;> (try (simp (disch := omega) only [e_o1] at hc ⊢)) <;> (first | (exfalso; omega) | skip))
          | (show Rch _ _ _ _ _ 69 _ _ _; refine Rch.blk' (Rn_mono mt _ _) bl_L_day_69 (i_iconst k_1 (t_goto 74 rfl ?_)))
          | (show Rch _ _ _ _ _ 73 _ _ _; refine Rch.blk' (Rn_mono mt _ _) bl_L_day_73 (i_iconst k_0 (t_none ?_)))
          | (show Rch _ _ _ _ _ 74 _ _ _; refine Rch.blk' (Rn_mono mt _ _) bl_L_day_74 (i_iadd (i_iast rfl rfl (by first | omega | (simp (disch := omega) only [e_o1]; omega)) (by simp only [aln]; omega) (by simp only [aln]; omega) (i_iload_n rfl (t_if_lt 88 80 rfl rfl (by first | with_reducible exact hI_R | with_reducible exact lcm_R | with_reducible exact band_R | with_reducible exact bor_R | with_reducible exact bshr_R | with_reducible exact bshl_R | omega | (simp (disch := omega) only [e_o1]; omega)) (fun hc => ?_) (fun hc => ?_))))) <;> (first | (exfalso; omega) | skip))
          | (show Rch _ _ _ _ _ 80 _ _ _; refine Rch.blk' (Rn_mono mt _ _) bl_L_day_80 (i_aload_n rfl (i_bipush k_10 (i_iload_n rfl (i_iadd (i_bipush k_m4 (i_iast (n := 64) rfl rfl (by first | omega | (simp (disch := omega) only [e_o1]; omega)) (by first | omega | (simp (disch := omega) only [e_o1]; omega)) (by first | omega | (simp (disch := omega) only [e_o1]; omega)) (t_none ?_))))))))
          | (show Rch _ _ _ _ _ 88 _ _ _; refine Rch.blk' (Rn_mono mt _ _) bl_L_day_88 (i_iload_n rfl (t_if_lt 99 92 rfl rfl (by first | with_reducible exact hI_R | with_reducible exact lcm_R | with_reducible exact band_R | with_reducible exact bor_R | with_reducible exact bshr_R | with_reducible exact bshl_R | omega | (simp (disch := omega) only [e_o1]; omega)) (fun hc => ?_) (fun hc => ?_))) <;> (first | (exfalso; omega) | skip))
          | (show Rch _ _ _ _ _ 99 _ _ _; refine Rch.blk' (Rn_mono mt _ _) bl_L_day_99 (i_aload_n rfl (i_bipush k_22 (i_iconst k_1 (i_aload_n rfl (i_bipush k_22 (i_iald (n := 64) rfl (by first | omega | (simp (disch := omega) only [e_o1]; omega)) (by first | omega | (simp (disch := omega) only [e_o1]; omega)) (by first | omega | (simp (disch := omega) only [e_o1]; omega)) (i_isub (i_iast (n := 64) rfl rfl (by first | omega | (simp (disch := omega) only [e_o1]; omega)) (by first | omega | (simp (disch := omega) only [e_o1]; omega)) (by first | omega | (simp (disch := omega) only [e_o1]; omega)) (t_vret ?_))))))))) <;> (try (simp (disch := omega) only [e_o1]))))
    refine c_L_at hG1 hO1 (Or.inl ⟨s2, s1⟩) (fun a b _ => hmid _ (Or.inr ⟨a, b, rfl⟩)) (fun a => hmid _ (Or.inl ⟨rfl, a⟩))
theorem c_L_days (hG : RV h G) (hO : OKB G) {n : Int} (n0 : 0 ≤ n) (n1 : n ≤ 1000) (hy : dy G < 800000) (hq : ∀ h', RV h' (DN G no0 n) → FrV h h' → Q none h') : Rn mt L (d + 7) 90 [ar 12 0, ai (I n)] h Q := by
  refine Rn.intro iL_days rfl rfl ?_
  show Rch bL_days _ _ _ _ 0 [some (ar 12 0), some (ai (I n)), none] [] _
  have key : ∀ k : Int, k ≤ n → 0 ≤ k → ∀ h', RV h' (DN G no0 k) → FrV h h' → RH L bL_days (d + 6) Q 2 [some (ar 12 0), some (ai (I n)), some (ai (I k))] h' := by
    refine up_ind (fun k hk ih hk0 h' hG' hF' => ?_)
    obtain ⟨hO', -, hd', -⟩ := DN_f (M := no0) hO k hk0
    by_cases hk1 : k < n
    · have ih := ih hk1 (by omega)
      rw [DN_up hk0] at ih
      refine Rch.blk' (Rn_mono mt _ _) bl_L_days_2 (i_iload_n rfl (i_iload_n rfl (t_ic_ge 17 7 rfl rfl (by first | with_reducible exact hI_R | with_reducible exact lcm_R | with_reducible exact band_R | with_reducible exact bor_R | with_reducible exact bshr_R | with_reducible exact bshl_R | omega) (by first | with_reducible exact hI_R | with_reducible exact lcm_R | with_reducible exact band_R | with_reducible exact bor_R | with_reducible exact bshr_R | with_reducible exact bshl_R | omega) (fun hc => ?_) (fun hc => ?_)))) <;> (first | (exfalso; omega) | skip)
      refine Rch.blk' (Rn_mono mt _ _) bl_L_days_7 (i_aload_n rfl (t_cs1 (Rn_mono mt _ _) 11 rfl (Nat.le_of_ble_eq_true rfl) ?_))
      refine c_L_day hG' hO' (by omega) (fun h2 hG2 hF2 => ?_)
      repeat' (first
        | exact ih _ hG2 (hF'.tr hF2)
        | (show Rch _ _ _ _ _ 0 _ _ _; refine Rch.blk' (Rn_mono mt _ _) bl_L_days_0 (i_iconst k_0 (i_istore2 trivial (t_none ?_))))
        | (show Rch _ _ _ _ _ 7 _ _ _; refine Rch.blk' (Rn_mono mt _ _) bl_L_days_7 (i_aload_n rfl (t_cs1 (Rn_mono mt _ _) 11 rfl (Nat.le_of_ble_eq_true rfl) ?_)))
        | (show Rch _ _ _ _ _ 11 _ _ _; refine Rch.blk' (Rn_mono mt _ _) bl_L_days_11 (i_iinc2 trivial k_1 (t_goto 2 rfl ?_)))
        | (show Rch _ _ _ _ _ 17 _ _ _; refine Rch.blk' (Rn_mono mt _ _) bl_L_days_17 (t_vret ?_)))
    · obtain rfl : k = n := by omega
      refine Rch.blk' (Rn_mono mt _ _) bl_L_days_2 (i_iload_n rfl (i_iload_n rfl (t_ic_ge 17 7 rfl rfl (by first | with_reducible exact hI_R | with_reducible exact lcm_R | with_reducible exact band_R | with_reducible exact bor_R | with_reducible exact bshr_R | with_reducible exact bshl_R | omega) (by first | with_reducible exact hI_R | with_reducible exact lcm_R | with_reducible exact band_R | with_reducible exact bor_R | with_reducible exact bshr_R | with_reducible exact bshl_R | omega) (fun hc => ?_) (fun hc => ?_)))) <;> (first | (exfalso; omega) | skip)
      repeat' (first
        | exact hq _ hG' hF'
        | (show Rch _ _ _ _ _ 0 _ _ _; refine Rch.blk' (Rn_mono mt _ _) bl_L_days_0 (i_iconst k_0 (i_istore2 trivial (t_none ?_))))
        | (show Rch _ _ _ _ _ 7 _ _ _; refine Rch.blk' (Rn_mono mt _ _) bl_L_days_7 (i_aload_n rfl (t_cs1 (Rn_mono mt _ _) 11 rfl (Nat.le_of_ble_eq_true rfl) ?_)))
        | (show Rch _ _ _ _ _ 11 _ _ _; refine Rch.blk' (Rn_mono mt _ _) bl_L_days_11 (i_iinc2 trivial k_1 (t_goto 2 rfl ?_)))
        | (show Rch _ _ _ _ _ 17 _ _ _; refine Rch.blk' (Rn_mono mt _ _) bl_L_days_17 (t_vret ?_)))
  repeat' (first
    | exact key 0 (by omega) (by omega) _ hG FrV.rf
    | (show Rch _ _ _ _ _ 0 _ _ _; refine Rch.blk' (Rn_mono mt _ _) bl_L_days_0 (i_iconst k_0 (i_istore2 trivial (t_none ?_))))
    | (show Rch _ _ _ _ _ 7 _ _ _; refine Rch.blk' (Rn_mono mt _ _) bl_L_days_7 (i_aload_n rfl (t_cs1 (Rn_mono mt _ _) 11 rfl (Nat.le_of_ble_eq_true rfl) ?_)))
    | (show Rch _ _ _ _ _ 11 _ _ _; refine Rch.blk' (Rn_mono mt _ _) bl_L_days_11 (i_iinc2 trivial k_1 (t_goto 2 rfl ?_)))
    | (show Rch _ _ _ _ _ 17 _ _ _; refine Rch.blk' (Rn_mono mt _ _) bl_L_days_17 (t_vret ?_)))
end C72

