/-! THE LAW'S LOOP: one round of it -/
def LRt : Option AV → Mem → Prop := fun v _ => v = some (ai (I 1))
/-- the round's ints -/
abbrev hI_v (h : Mem) (i k : Int) : Int := hI h 22 0 (i + k).toNat
def lvOf (i : Int) (u5 u6 u7 : Option AV) : Lc := [some (ar 22 0), some (ar 2 0), some (ar 3 0), some (ar 23 0), some (ai (I i)), u5, u6, u7]
/-- where a round stops: at its end, before element's call, before the long array's reading, before toss's call -/
def LStop (N : Nat) (i : Int) : Nat → Lc → List AV → Mem → Prop := fun pc ls st h =>
  (pc = 23 ∧ st = [] ∧ INV h ∧ i + 6 ≤ (N : Int) ∧ ∃ u5 u6 u7, ls = lvOf (i + 6) u5 u6 u7) ∨
  (pc = 1386 ∧ i + 6 ≤ (N : Int) ∧ INV h ∧ st = [ar 23 0, ai (I (hI h 22 0 (i + 2).toNat)), ai (I (hI h 22 0 (i + 1).toNat)), ar 2 0] ∧ ∃ u5 u6 u7, ls = lvOf i u5 u6 u7) ∨
  (pc = 1427 ∧ i + 6 ≤ (N : Int) ∧ INV h ∧ st = [ai (I 0), ar 23 0] ∧ ∃ u5 u7, ls = lvOf i u5 (some (al (lng (h 23 0) 0))) u7) ∨
  (pc = 1544 ∧ i + 6 ≤ (N : Int) ∧ INV h ∧ st = [ai (I (hI h 22 0 (i + 1).toNat)), ar 2 0] ∧ ∃ u5 u6 u7, ls = lvOf i u5 u6 u7)
section LOOP
variable {e N : Nat} {h : Mem} {i : Int} {u5 u6 u7 : Option AV} {Stop : Nat → Lc → List AV → Mem → Prop} {Rt : Option AV → Mem → Prop}
def EndAt (Stop : Nat → Lc → List AV → Mem → Prop) (i : Int) : Prop := ∀ (h : Mem) (u5 u6 u7 : Option AV), INV h → Stop 23 (lvOf (i + 6) u5 u6 u7) [] h
theorem LStop_end {N : Nat} {i : Int} (i1 : i + 6 ≤ (N : Int)) : EndAt (LStop N i) i := fun h u5 u6 u7 hI => Or.inl ⟨rfl, rfl, hI, i1, u5, u6, u7, rfl⟩
theorem ll_end (hI : INV h) (hn : N ≤ 3072) (i0 : 0 ≤ i) (i1 : i + 6 ≤ (N : Int)) (hS : EndAt Stop i) : Rch bL_law (Rn mt (e + 20)) (N + 1) Stop Rt 1562 [some (ar 22 0), some (ar 2 0), some (ar 3 0), some (ar 23 0), some (ai (I i)), u5, u6, u7] [] h := by
  refine Rch.blk' (Rn_mono mt _) bl_L_law_1562 (i_iinc4 trivial k_6 (t_goto 23 rfl ?_))
  exact Rch.stop (hS h u5 u6 u7 hI)
theorem ll_1372 (hI : INV h) (hn : N ≤ 3072) (i0 : 0 ≤ i) (i1 : i + 6 ≤ (N : Int)) : Rch bL_law (Rn mt (e + 20)) (N + 1) (LStop N i) LRt 1372 [some (ar 22 0), some (ar 2 0), some (ar 3 0), some (ar 23 0), some (ai (I i)), u5, u6, u7] [] h := by
  refine Rch.blk' (Rn_mono mt _) bl_L_law_1372 (i_aload_n rfl (i_aload_n rfl (i_iload rfl (i_iconst k_1 (i_iadd (i_iald rfl (by omega) (by simp only [aln]; omega) (by simp only [aln]; omega) (i_aload_n rfl (i_iload rfl (i_iconst k_2 (i_iadd (i_iald rfl (by omega) (by simp only [aln]; omega) (by simp only [aln]; omega) (i_aload_n rfl (t_none ?_)))))))))))))
  exact Rch.stop (Or.inr (Or.inl ⟨rfl, i1, hI, rfl, u5, u6, u7, rfl⟩))
theorem ll_1537 (hI : INV h) (hn : N ≤ 3072) (i0 : 0 ≤ i) (i1 : i + 6 ≤ (N : Int)) : Rch bL_law (Rn mt (e + 20)) (N + 1) (LStop N i) LRt 1537 [some (ar 22 0), some (ar 2 0), some (ar 3 0), some (ar 23 0), some (ai (I i)), u5, u6, u7] [] h := by
  refine Rch.blk' (Rn_mono mt _) bl_L_law_1537 (i_aload_n rfl (i_aload_n rfl (i_iload rfl (i_iconst k_1 (i_iadd (i_iald rfl (by omega) (by simp only [aln]; omega) (by simp only [aln]; omega) (t_none ?_)))))))
  exact Rch.stop (Or.inr (Or.inr (Or.inr ⟨rfl, i1, hI, rfl, u5, u6, u7, rfl⟩)))
theorem ll_start (hI : INV h) (hn : N ≤ 3072) (i0 : 0 ≤ i) (i1 : i ≤ (N : Int)) : Rch bL_law (Rn mt (e + 20)) (N + 1) (LStop N i) LRt 23 [some (ar 22 0), some (ar 2 0), some (ar 3 0), some (ar 23 0), some (ai (I i)), u5, u6, u7] [] h := by
  have e_n : Int32.ofNat N = I ((N : Nat) : Int) := I_nn rfl
  refine Rch.blk' (Rn_mono mt _) bl_L_law_23 (i_iload rfl (i_aload_n rfl (i_alen rfl (I_nn rfl) (i_bipush k_6 (i_isub (t_ic_gt 1568 33 rfl rfl (by first | with_reducible exact hI_R | with_reducible exact lcm_R | with_reducible exact band_R | with_reducible exact bor_R | with_reducible exact bshr_R | with_reducible exact bshl_R | omega) (by first | with_reducible exact hI_R | with_reducible exact lcm_R | with_reducible exact band_R | with_reducible exact bor_R | with_reducible exact bshr_R | with_reducible exact bshl_R | omega) (fun hc => ?_) (fun hc => ?_))))))) <;> (first | (exfalso; omega) | skip)
  · skip
    refine Rch.blk' (Rn_mono mt _) bl_L_law_1568 (i_iconst k_1 (t_zret (by omega) ?_))
    exact rfl
  · have i1 : i + 6 ≤ (N : Int) := by omega
    have hk : ∀ h2, INV h2 → FX h h2 → Rch bL_law (Rn mt (e + 20)) (N + 1) (LStop N i) LRt 1562 [some (ar 22 0), some (ar 2 0), some (ar 3 0), some (ar 23 0), some (ai (I i)), u5, u6, u7] [] h2 := fun h2 hI2 _ => ll_end hI2 hn i0 i1 (LStop_end i1)
    refine Rch.blk' (Rn_mono mt _) bl_L_law_33 (i_aload_n rfl (i_iload rfl (i_iald rfl (by omega) (by simp only [aln]; omega) (by simp only [aln]; omega) (i_bipush k_63 (i_iand (t_tsw 0 37 1562 rfl rfl (by omega) rfl (by first | with_reducible exact hI_R | with_reducible exact lcm_R | with_reducible exact band_R | with_reducible exact bor_R | with_reducible exact bshr_R | with_reducible exact bshl_R | omega) (by omega) (sw_c 0 208 1 rfl rfl (by first | with_reducible exact hI_R | with_reducible exact lcm_R | with_reducible exact band_R | with_reducible exact bor_R | with_reducible exact bshr_R | with_reducible exact bshl_R | omega) (by omega) rfl (fun hc => ?_) (sw_c 1 233 2 rfl rfl (by first | with_reducible exact hI_R | with_reducible exact lcm_R | with_reducible exact band_R | with_reducible exact bor_R | with_reducible exact bshr_R | with_reducible exact bshl_R | omega) (by omega) rfl (fun hc => ?_) (sw_c 2 270 3 rfl rfl (by first | with_reducible exact hI_R | with_reducible exact lcm_R | with_reducible exact band_R | with_reducible exact bor_R | with_reducible exact bshr_R | with_reducible exact bshl_R | omega) (by omega) rfl (fun hc => ?_) (sw_c 3 295 4 rfl rfl (by first | with_reducible exact hI_R | with_reducible exact lcm_R | with_reducible exact band_R | with_reducible exact bor_R | with_reducible exact bshr_R | with_reducible exact bshl_R | omega) (by omega) rfl (fun hc => ?_) (sw_c 4 344 5 rfl rfl (by first | with_reducible exact hI_R | with_reducible exact lcm_R | with_reducible exact band_R | with_reducible exact bor_R | with_reducible exact bshr_R | with_reducible exact bshl_R | omega) (by omega) rfl (fun hc => ?_) (sw_c 5 381 6 rfl rfl (by first | with_reducible exact hI_R | with_reducible exact lcm_R | with_reducible exact band_R | with_reducible exact bor_R | with_reducible exact bshr_R | with_reducible exact bshl_R | omega) (by omega) rfl (fun hc => ?_) (sw_c 6 406 7 rfl rfl (by first | with_reducible exact hI_R | with_reducible exact lcm_R | with_reducible exact band_R | with_reducible exact bor_R | with_reducible exact bshr_R | with_reducible exact bshl_R | omega) (by omega) rfl (fun hc => ?_) (sw_c 7 431 8 rfl rfl (by first | with_reducible exact hI_R | with_reducible exact lcm_R | with_reducible exact band_R | with_reducible exact bor_R | with_reducible exact bshr_R | with_reducible exact bshl_R | omega) (by omega) rfl (fun hc => ?_) (sw_c 8 456 9 rfl rfl (by first | with_reducible exact hI_R | with_reducible exact lcm_R | with_reducible exact band_R | with_reducible exact bor_R | with_reducible exact bshr_R | with_reducible exact bshl_R | omega) (by omega) rfl (fun hc => ?_) (sw_c 9 493 10 rfl rfl (by first | with_reducible exact hI_R | with_reducible exact lcm_R | with_reducible exact band_R | with_reducible exact bor_R | with_reducible exact bshr_R | with_reducible exact bshl_R | omega) (by omega) rfl (fun hc => ?_) (sw_c 10 530 11 rfl rfl (by first | with_reducible exact hI_R | with_reducible exact lcm_R | with_reducible exact band_R | with_reducible exact bor_R | with_reducible exact bshr_R | with_reducible exact bshl_R | omega) (by omega) rfl (fun hc => ?_) (sw_c 11 555 12 rfl rfl (by first | with_reducible exact hI_R | with_reducible exact lcm_R | with_reducible exact band_R | with_reducible exact bor_R | with_reducible exact bshr_R | with_reducible exact bshl_R | omega) (by omega) rfl (fun hc => ?_) (sw_c 12 568 13 rfl rfl (by first | with_reducible exact hI_R | with_reducible exact lcm_R | with_reducible exact band_R | with_reducible exact bor_R | with_reducible exact bshr_R | with_reducible exact bshl_R | omega) (by omega) rfl (fun hc => ?_) (sw_c 13 593 14 rfl rfl (by first | with_reducible exact hI_R | with_reducible exact lcm_R | with_reducible exact band_R | with_reducible exact bor_R | with_reducible exact bshr_R | with_reducible exact bshl_R | omega) (by omega) rfl (fun hc => ?_) (sw_c 14 618 15 rfl rfl (by first | with_reducible exact hI_R | with_reducible exact lcm_R | with_reducible exact band_R | with_reducible exact bor_R | with_reducible exact bshr_R | with_reducible exact bshl_R | omega) (by omega) rfl (fun hc => ?_) (sw_c 15 643 16 rfl rfl (by first | with_reducible exact hI_R | with_reducible exact lcm_R | with_reducible exact band_R | with_reducible exact bor_R | with_reducible exact bshr_R | with_reducible exact bshl_R | omega) (by omega) rfl (fun hc => ?_) (sw_c 16 692 17 rfl rfl (by first | with_reducible exact hI_R | with_reducible exact lcm_R | with_reducible exact band_R | with_reducible exact bor_R | with_reducible exact bshr_R | with_reducible exact bshl_R | omega) (by omega) rfl (fun hc => ?_) (sw_c 17 717 18 rfl rfl (by first | with_reducible exact hI_R | with_reducible exact lcm_R | with_reducible exact band_R | with_reducible exact bor_R | with_reducible exact bshr_R | with_reducible exact bshl_R | omega) (by omega) rfl (fun hc => ?_) (sw_c 18 754 19 rfl rfl (by first | with_reducible exact hI_R | with_reducible exact lcm_R | with_reducible exact band_R | with_reducible exact bor_R | with_reducible exact bshr_R | with_reducible exact bshl_R | omega) (by omega) rfl (fun hc => ?_) (sw_c 19 791 20 rfl rfl (by first | with_reducible exact hI_R | with_reducible exact lcm_R | with_reducible exact band_R | with_reducible exact bor_R | with_reducible exact bshr_R | with_reducible exact bshl_R | omega) (by omega) rfl (fun hc => ?_) (sw_c 20 816 21 rfl rfl (by first | with_reducible exact hI_R | with_reducible exact lcm_R | with_reducible exact band_R | with_reducible exact bor_R | with_reducible exact bshr_R | with_reducible exact bshl_R | omega) (by omega) rfl (fun hc => ?_) (sw_c 21 865 22 rfl rfl (by first | with_reducible exact hI_R | with_reducible exact lcm_R | with_reducible exact band_R | with_reducible exact bor_R | with_reducible exact bshr_R | with_reducible exact bshl_R | omega) (by omega) rfl (fun hc => ?_) (sw_c 22 914 23 rfl rfl (by first | with_reducible exact hI_R | with_reducible exact lcm_R | with_reducible exact band_R | with_reducible exact bor_R | with_reducible exact bshr_R | with_reducible exact bshl_R | omega) (by omega) rfl (fun hc => ?_) (sw_c 23 963 24 rfl rfl (by first | with_reducible exact hI_R | with_reducible exact lcm_R | with_reducible exact band_R | with_reducible exact bor_R | with_reducible exact bshr_R | with_reducible exact bshl_R | omega) (by omega) rfl (fun hc => ?_) (sw_c 24 1025 25 rfl rfl (by first | with_reducible exact hI_R | with_reducible exact lcm_R | with_reducible exact band_R | with_reducible exact bor_R | with_reducible exact bshr_R | with_reducible exact bshl_R | omega) (by omega) rfl (fun hc => ?_) (sw_c 25 1063 26 rfl rfl (by first | with_reducible exact hI_R | with_reducible exact lcm_R | with_reducible exact band_R | with_reducible exact bor_R | with_reducible exact bshr_R | with_reducible exact bshl_R | omega) (by omega) rfl (fun hc => ?_) (sw_c 26 1088 27 rfl rfl (by first | with_reducible exact hI_R | with_reducible exact lcm_R | with_reducible exact band_R | with_reducible exact bor_R | with_reducible exact bshr_R | with_reducible exact bshl_R | omega) (by omega) rfl (fun hc => ?_) (sw_c 27 1113 28 rfl rfl (by first | with_reducible exact hI_R | with_reducible exact lcm_R | with_reducible exact band_R | with_reducible exact bor_R | with_reducible exact bshr_R | with_reducible exact bshl_R | omega) (by omega) rfl (fun hc => ?_) (sw_c 28 1162 29 rfl rfl (by first | with_reducible exact hI_R | with_reducible exact lcm_R | with_reducible exact band_R | with_reducible exact bor_R | with_reducible exact bshr_R | with_reducible exact bshl_R | omega) (by omega) rfl (fun hc => ?_) (sw_c 29 1175 30 rfl rfl (by first | with_reducible exact hI_R | with_reducible exact lcm_R | with_reducible exact band_R | with_reducible exact bor_R | with_reducible exact bshr_R | with_reducible exact bshl_R | omega) (by omega) rfl (fun hc => ?_) (sw_c 30 1188 31 rfl rfl (by first | with_reducible exact hI_R | with_reducible exact lcm_R | with_reducible exact band_R | with_reducible exact bor_R | with_reducible exact bshr_R | with_reducible exact bshl_R | omega) (by omega) rfl (fun hc => ?_) (sw_c 31 1213 32 rfl rfl (by first | with_reducible exact hI_R | with_reducible exact lcm_R | with_reducible exact band_R | with_reducible exact bor_R | with_reducible exact bshr_R | with_reducible exact bshl_R | omega) (by omega) rfl (fun hc => ?_) (sw_c 32 1274 33 rfl rfl (by first | with_reducible exact hI_R | with_reducible exact lcm_R | with_reducible exact band_R | with_reducible exact bor_R | with_reducible exact bshr_R | with_reducible exact bshl_R | omega) (by omega) rfl (fun hc => ?_) (sw_c 33 1323 34 rfl rfl (by first | with_reducible exact hI_R | with_reducible exact lcm_R | with_reducible exact band_R | with_reducible exact bor_R | with_reducible exact bshr_R | with_reducible exact bshl_R | omega) (by omega) rfl (fun hc => ?_) (sw_c 34 1372 35 rfl rfl (by first | with_reducible exact hI_R | with_reducible exact lcm_R | with_reducible exact band_R | with_reducible exact bor_R | with_reducible exact bshr_R | with_reducible exact bshl_R | omega) (by omega) rfl (fun hc => ?_) (sw_c 35 1439 36 rfl rfl (by first | with_reducible exact hI_R | with_reducible exact lcm_R | with_reducible exact band_R | with_reducible exact bor_R | with_reducible exact bshr_R | with_reducible exact bshl_R | omega) (by omega) rfl (fun hc => ?_) (sw_c 36 1512 37 rfl rfl (by first | with_reducible exact hI_R | with_reducible exact lcm_R | with_reducible exact band_R | with_reducible exact bor_R | with_reducible exact bshr_R | with_reducible exact bshl_R | omega) (by omega) rfl (fun hc => ?_) (sw_c 37 1537 38 rfl rfl (by first | with_reducible exact hI_R | with_reducible exact lcm_R | with_reducible exact band_R | with_reducible exact bor_R | with_reducible exact bshr_R | with_reducible exact bshl_R | omega) (by omega) rfl (fun hc => ?_) sw_n)))))))))))))))))))))))))))))))))))))) (fun hc => ?_))))))) <;> (first | (exfalso; omega) | skip)
    all_goals first
      | exact ll_end hI hn i0 i1 (LStop_end i1)
      | exact ll_1372 hI hn i0 i1
      | exact ll_1537 hI hn i0 i1
      | exact lw_game hI hn i0 i1 hk
      | exact lw_piece hI hn i0 i1 hk
      | exact lw_on hI hn i0 i1 hk
      | exact lw_comes hI hn i0 i1 hk
      | exact lw_stands hI hn i0 i1 hk
      | exact lw_takes hI hn i0 i1 hk
      | exact lw_turn hI hn i0 i1 hk
      | exact lw_days hI hn i0 i1 hk
      | exact lw_squareThen hI hn i0 i1 hk
      | exact lw_then hI hn i0 i1 hk
      | exact lw_falls hI hn i0 i1 hk
      | exact lw_still hI hn i0 i1 hk
      | exact lw_next hI hn i0 i1 hk
      | exact lw_heard hI hn i0 i1 hk
      | exact lw_danger hI hn i0 i1 hk
      | exact lw_stand hI hn i0 i1 hk
      | exact lw_off hI hn i0 i1 hk
      | exact lw_ears hI hn i0 i1 hk
      | exact lw_side hI hn i0 i1 hk
      | exact lw_free hI hn i0 i1 hk
      | exact lw_whatIs hI hn i0 i1 hk
      | exact lw_whereFrom hI hn i0 i1 hk
      | exact lw_two hI hn i0 i1 hk
      | exact lw_rain hI hn i0 i1 hk
      | exact lw_share hI hn i0 i1 hk
      | exact lw_forged hI hn i0 i1 hk
      | exact lw_judge hI hn i0 i1 hk
      | exact lw_games hI hn i0 i1 hk
      | exact lw_image hI hn i0 i1 hk
      | exact lw_restore hI hn i0 i1 hk
      | exact lw_count hI hn i0 i1 hk
      | exact lw_keep hI hn i0 i1 hk
      | exact lw_row hI hn i0 i1 hk
      | exact lw_put hI hn i0 i1 hk
      | exact lw_copy hI hn i0 i1 hk
      | exact lw_cost hI hn i0 i1 hk
/-- behind toss -/
theorem ll_1547 {G Gi : Bd} {T : Int} {S : Sv} (hI : IW h G T Gi S) (hn : N ≤ 3072) (i0 : 0 ≤ i) (i1 : i + 6 ≤ (N : Int)) (hS : EndAt Stop i) : Rch bL_law (Rn mt (e + 20)) (N + 1) Stop Rt 1547 [some (ar 22 0), some (ar 2 0), some (ar 3 0), some (ar 23 0), some (ai (I i)), u5, u6, u7] [ai (I (vToss S (hI_v h i 1)))] h := by
  obtain ⟨A, B, ⟨hO, hy⟩, hT, hGi, hK, hE⟩ := hI
  refine Rch.blk' (Rn_mono mt _) bl_L_law_1547 (i_aload_n rfl (i_aload_n rfl (i_iload rfl (i_iconst k_1 (i_iadd (i_iald rfl (by omega) (by simp only [aln]; omega) (by simp only [aln]; omega) (t_cv2 (Rn_mono mt _) 1557 rfl (Nat.le_of_ble_eq_true rfl) ?_)))))))
  refine c_X4_toss B.2.2.2 hK hI_R (fun v h2 hv hJ => ?_)
  subst hv
  refine Rch.blk' (Rn_mono mt _) bl_L_law_1557 (t_ic_same 1562 rfl ?_)
  exact ll_end ⟨G, T, Gi, S, A.fb hJ.fb, B.jy hJ, ⟨hO, hy⟩, hT, hGi, hK, hE⟩ hn i0 i1 hS
theorem lng_hI {f g : Nat → Int32} (h0 : (f 0).toInt = (g 0).toInt) (h1 : (f 1).toInt = (g 1).toInt) : lng f = lng g := by
  unfold lng; rw [h0, h1]
theorem ll_1436 (hI : INV h) (hn : N ≤ 3072) (i0 : 0 ≤ i) (i1 : i + 6 ≤ (N : Int)) (hS : EndAt Stop i) : Rch bL_law (Rn mt (e + 20)) (N + 1) Stop Rt 1436 [some (ar 22 0), some (ar 2 0), some (ar 3 0), some (ar 23 0), some (ai (I i)), u5, u6, u7] [] h := by
  refine Rch.blk' (Rn_mono mt _) bl_L_law_1436 (t_goto 1562 rfl ?_)
  exact ll_end hI hn i0 i1 hS
/-- behind element -/
theorem ll_1389 {G Gi : Bd} {T : Int} {S : Sv} (hI : IW h G T Gi S) (hn : N ≤ 3072) (i0 : 0 ≤ i) (i1 : i + 6 ≤ (N : Int)) (hS : EndAt Stop i) (hS2 : ∀ (h : Mem) (u5 u7 : Option AV), INV h → Stop 1427 (lvOf i u5 (some (al (lng (h 23 0) 0))) u7) [ai (I 0), ar 23 0] h) (hl : vThr S (hI_v h i 1) (hI_v h i 2) = 0 → lng (h 23 0) 0 = L (vElt S (hI_v h i 1) (hI_v h i 2))) : Rch bL_law (Rn mt (e + 20)) (N + 1) Stop Rt 1389 [some (ar 22 0), some (ar 2 0), some (ar 3 0), some (ar 23 0), some (ai (I i)), u5, u6, u7] [ai (I (vThr S (hI_v h i 1) (hI_v h i 2)))] h := by
  obtain ⟨A, B, ⟨hO, hy⟩, hT, hGi, hK, hE⟩ := hI
  have g0 : 0 ≤ vThr S (hI_v h i 1) (hI_v h i 2) ∧ vThr S (hI_v h i 1) (hI_v h i 2) ≤ 2 := by unfold vThr; omega
  refine Rch.blk' (Rn_mono mt _) bl_L_law_1389 (i_istore5 trivial (i_aload_n rfl (i_aload_n rfl (i_iload rfl (i_iconst k_1 (i_iadd (i_iald rfl (by omega) (by simp only [aln]; omega) (by simp only [aln]; omega) (i_aload_n rfl (i_iload rfl (i_iconst k_2 (i_iadd (i_iald rfl (by omega) (by simp only [aln]; omega) (by simp only [aln]; omega) (t_cv3 (Rn_mono mt _) 1407 rfl (Nat.le_of_ble_eq_true rfl) ?_)))))))))))))
  refine c_X4_element B.2.2.2 hK hI_R hI_R (fun h2 e16 hJ => ?_)
  have hINV : INV h2 := ⟨G, T, Gi, S, A.fb hJ.fb, B.jy hJ, ⟨hO, hy⟩, hT, hGi, hK, hE⟩
  have e_l : lng (h2 23 0) = lng (h 23 0) := lng_hI (hJ.fb 23 0 0 (by omega)) (hJ.fb 23 0 1 (by omega))
  refine Rch.blk' (Rn_mono mt _) bl_L_law_1407 (i_lstore6 trivial (i_aload_n rfl (t_cv1 (Rn_mono mt _) 1413 rfl (Nat.le_of_ble_eq_true rfl) ?_)))
  refine c_X4_thrown ?_
  rw [e16]
  refine Rch.blk' (Rn_mono mt _) bl_L_law_1413 (i_iload rfl (t_ic_same 1420 rfl ?_))
  refine Rch.blk' (Rn_mono mt _) bl_L_law_1420 (i_iload rfl (t_if_ne 1436 1425 rfl rfl (by first | with_reducible exact hI_R | with_reducible exact lcm_R | with_reducible exact band_R | with_reducible exact bor_R | with_reducible exact bshr_R | with_reducible exact bshl_R | omega) (fun hc => ?_) (fun hc => ?_))) <;> (first | (exfalso; omega) | skip)
  · exact ll_1436 hINV hn i0 i1 hS
  · have e0 : vThr S (hI_v h i 1) (hI_v h i 2) = 0 := by omega
    have e_2 : lng (h2 23 0) 0 = L (vElt S (hI_v h i 1) (hI_v h i 2)) := by rw [e_l]; exact hl e0
    refine Rch.blk' (Rn_mono mt _) bl_L_law_1425 (i_aload_n rfl (i_iconst k_0 (t_none ?_)))
    refine Rch.stop ?_
    have h9 := hS2 h2 (some (ai (I (vThr S (hI_v h i 1) (hI_v h i 2))))) none hINV
    rw [e_2] at h9
    exact h9
/-- behind the long array's reading -/
theorem ll_1428 {v : Int64} (hI : INV h) (hn : N ≤ 3072) (i0 : 0 ≤ i) (i1 : i + 6 ≤ (N : Int)) (hS : EndAt Stop i) : Rch bL_law (Rn mt (e + 20)) (N + 1) Stop Rt 1428 [some (ar 22 0), some (ar 2 0), some (ar 3 0), some (ar 23 0), some (ai (I i)), u5, some (al v), u7] [al v] h := by
  refine Rch.blk' (Rn_mono mt _) bl_L_law_1428 (i_lload rfl (t_lc_same 1436 rfl rfl ?_))
  exact ll_1436 hI hn i0 i1 hS
end LOOP

