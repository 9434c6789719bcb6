/-! CHANGES, the reference's -/
section R1
variable {h : Mem} {w : Nat} {G : Bd} {M : Int → Prop} {ra : Int}
theorem RR.set_d (H : RR h w G M ra) {z : Int} (hz : inR z) {j : Nat} (hj : j = 1) : RR (mset h 12 w j (I z)) w (setd G z) M ra := by
  subst hj
  refine ⟨?_, ?_, ?_, ?_, ?_, ?_, fun p p0 p1 => ⟨?_, ?_, ?_, ?_⟩⟩
  · rw [hI_nk (by omega)]; exact H.1
  · rw [hI_eq hz]; rfl
  · rw [hI_nk (by omega)]; exact H.2.2.1
  · rw [hI_nk (by omega)]; exact H.2.2.2.1
  · rw [hI_nk (by omega)]; exact H.2.2.2.2.1
  · rw [hI_nk (by omega)]; exact H.2.2.2.2.2.1
  · rw [hI_nk (by omega)]; exact H.k p0 p1
  · rw [hI_nk (by omega)]; exact H.f p0 p1
  · rw [hI_nk (by omega)]; exact H.s p0 p1
  · rw [hI_nk (by omega)]; exact H.q p0 p1
theorem RR.set_t (H : RR h w G M ra) {z : Int} (hz : inR z) {j : Nat} (hj : j = 2) : RR (mset h 12 w j (I z)) w (sett G z) M ra := by
  subst hj
  refine ⟨?_, ?_, ?_, ?_, ?_, ?_, fun p p0 p1 => ⟨?_, ?_, ?_, ?_⟩⟩
  · rw [hI_nk (by omega)]; exact H.1
  · rw [hI_nk (by omega)]; exact H.2.1
  · rw [hI_eq hz]; rfl
  · rw [hI_nk (by omega)]; exact H.2.2.2.1
  · rw [hI_nk (by omega)]; exact H.2.2.2.2.1
  · rw [hI_nk (by omega)]; exact H.2.2.2.2.2.1
  · rw [hI_nk (by omega)]; exact H.k p0 p1
  · rw [hI_nk (by omega)]; exact H.f p0 p1
  · rw [hI_nk (by omega)]; exact H.s p0 p1
  · rw [hI_nk (by omega)]; exact H.q p0 p1
theorem RR.set_h (H : RR h w G M ra) {z : Int} (hz : inR z) {j : Nat} (hj : j = 3) : RR (mset h 12 w j (I z)) w (seth G z) M ra := by
  subst hj
  refine ⟨?_, ?_, ?_, ?_, ?_, ?_, fun p p0 p1 => ⟨?_, ?_, ?_, ?_⟩⟩
  · rw [hI_nk (by omega)]; exact H.1
  · rw [hI_nk (by omega)]; exact H.2.1
  · rw [hI_nk (by omega)]; exact H.2.2.1
  · rw [hI_eq hz]; rfl
  · rw [hI_nk (by omega)]; exact H.2.2.2.2.1
  · rw [hI_nk (by omega)]; exact H.2.2.2.2.2.1
  · rw [hI_nk (by omega)]; exact H.k p0 p1
  · rw [hI_nk (by omega)]; exact H.f p0 p1
  · rw [hI_nk (by omega)]; exact H.s p0 p1
  · rw [hI_nk (by omega)]; exact H.q p0 p1
theorem RR.set_m (H : RR h w G M ra) {M' : Int → Prop} {z : Int} (hz : z = BT M') {j : Nat} (hj : j = 4) : RR (mset h 12 w j (I z)) w G M' ra := by
  subst hj; subst hz
  have := @BT_R M'
  refine ⟨?_, ?_, ?_, ?_, ?_, ?_, fun p p0 p1 => ⟨?_, ?_, ?_, ?_⟩⟩
  · rw [hI_nk (by omega)]; exact H.1
  · rw [hI_nk (by omega)]; exact H.2.1
  · rw [hI_nk (by omega)]; exact H.2.2.1
  · rw [hI_nk (by omega)]; exact H.2.2.2.1
  · rw [hI_eq ⟨by omega, by omega⟩]
  · rw [hI_nk (by omega)]; exact H.2.2.2.2.2.1
  · rw [hI_nk (by omega)]; exact H.k p0 p1
  · rw [hI_nk (by omega)]; exact H.f p0 p1
  · rw [hI_nk (by omega)]; exact H.s p0 p1
  · rw [hI_nk (by omega)]; exact H.q p0 p1
theorem RR.set_r (H : RR h w G M ra) {z : Int} (hz : inR z) {j : Nat} (hj : j = 5) : RR (mset h 12 w j (I z)) w G M z := by
  subst hj
  refine ⟨?_, ?_, ?_, ?_, ?_, ?_, fun p p0 p1 => ⟨?_, ?_, ?_, ?_⟩⟩
  · rw [hI_nk (by omega)]; exact H.1
  · rw [hI_nk (by omega)]; exact H.2.1
  · rw [hI_nk (by omega)]; exact H.2.2.1
  · rw [hI_nk (by omega)]; exact H.2.2.2.1
  · rw [hI_nk (by omega)]; exact H.2.2.2.2.1
  · rw [hI_eq hz]
  · rw [hI_nk (by omega)]; exact H.k p0 p1
  · rw [hI_nk (by omega)]; exact H.f p0 p1
  · rw [hI_nk (by omega)]; exact H.s p0 p1
  · rw [hI_nk (by omega)]; exact H.q p0 p1
theorem RR.set_q (H : RR h w G M ra) {z s v : Int} (z0 : 0 ≤ z) (s0 : 0 ≤ s) (s1 : s ≤ 36) (hv : v = m4 s) {j : Nat} (hj : j = (6 + 4 * z + 3).toNat) : RR (mset h 12 w j (I v)) w (mov G z s) M ra := by
  subst hj; subst hv
  have hv : inR (m4 s) := by unfold m4; omega
  refine ⟨?_, ?_, ?_, ?_, ?_, ?_, fun p p0 p1 => ⟨?_, ?_, ?_, ?_⟩⟩
  · rw [hI_nk (by omega)]; exact H.1
  · rw [hI_nk (by omega)]; exact H.2.1
  · rw [hI_nk (by omega)]; exact H.2.2.1
  · rw [hI_nk (by omega)]; exact H.2.2.2.1
  · rw [hI_nk (by omega)]; exact H.2.2.2.2.1
  · rw [hI_nk (by omega)]; exact H.2.2.2.2.2.1
  · rw [hI_nk (by omega)]; exact H.k p0 p1
  · rw [hI_nk (by omega)]; exact H.f p0 p1
  · rw [hI_nk (by omega)]; exact H.s p0 p1
  · rw [sq_mov]
    by_cases pz : p = z
    · subst pz; rw [hI_eq hv, if_pos rfl]
    · rw [hI_nk (by omega), if_neg pz]; exact H.q p0 p1
theorem RR.set_k (H : RR h w G M ra) {z v : Int} (z0 : 0 ≤ z) (hv : inR v) {j : Nat} (hj : j = (6 + 4 * z + 0).toNat) : RR (mset h 12 w j (I v)) w (stk G z v (fg G z)) M ra := by
  subst hj
  refine ⟨?_, ?_, ?_, ?_, ?_, ?_, fun p p0 p1 => ⟨?_, ?_, ?_, ?_⟩⟩
  · rw [hI_nk (by omega)]; exact H.1
  · rw [hI_nk (by omega)]; exact H.2.1
  · rw [hI_nk (by omega)]; exact H.2.2.1
  · rw [hI_nk (by omega)]; exact H.2.2.2.1
  · rw [hI_nk (by omega)]; exact H.2.2.2.2.1
  · rw [hI_nk (by omega)]; exact H.2.2.2.2.2.1
  · show _ = if p = z then v else kd G p
    by_cases pz : p = z
    · subst pz; rw [hI_eq hv, if_pos rfl]
    · rw [hI_nk (by omega), if_neg pz]; exact H.k p0 p1
  · show _ = if p = z then fg G z else fg G p
    rw [hI_nk (by omega)]
    by_cases pz : p = z
    · subst pz; rw [if_pos rfl]; exact H.f p0 p1
    · rw [if_neg pz]; exact H.f p0 p1
  · rw [hI_nk (by omega)]; exact H.s p0 p1
  · rw [hI_nk (by omega)]; exact H.q p0 p1
theorem RR.set_f (H : RR h w G M ra) {z v : Int} (z0 : 0 ≤ z) (hv : inR v) {j : Nat} (hj : j = (6 + 4 * z + 1).toNat) : RR (mset h 12 w j (I v)) w (stk G z (kd G z) v) M ra := by
  subst hj
  refine ⟨?_, ?_, ?_, ?_, ?_, ?_, fun p p0 p1 => ⟨?_, ?_, ?_, ?_⟩⟩
  · rw [hI_nk (by omega)]; exact H.1
  · rw [hI_nk (by omega)]; exact H.2.1
  · rw [hI_nk (by omega)]; exact H.2.2.1
  · rw [hI_nk (by omega)]; exact H.2.2.2.1
  · rw [hI_nk (by omega)]; exact H.2.2.2.2.1
  · rw [hI_nk (by omega)]; exact H.2.2.2.2.2.1
  · show _ = if p = z then kd G z else kd G p
    rw [hI_nk (by omega)]
    by_cases pz : p = z
    · subst pz; rw [if_pos rfl]; exact H.k p0 p1
    · rw [if_neg pz]; exact H.k p0 p1
  · show _ = if p = z then v else fg G p
    by_cases pz : p = z
    · subst pz; rw [hI_eq hv, if_pos rfl]
    · rw [hI_nk (by omega), if_neg pz]; exact H.f p0 p1
  · rw [hI_nk (by omega)]; exact H.s p0 p1
  · rw [hI_nk (by omega)]; exact H.q p0 p1
end R1
theorem stk_stk (G : Bd) (z k f : Int) : stk (stk G z k (fg G z)) z (kd (stk G z k (fg G z)) z) f = stk G z k f := by
  have e1 : (fun i => if i = z then kd (stk G z k (fg G z)) z else kd (stk G z k (fg G z)) i) = fun i => if i = z then k else kd G i := by
    funext i
    show (if i = z then (if z = z then k else kd G z) else (if i = z then k else kd G i)) = _
    rw [if_pos rfl]
    split <;> rfl
  have e2 : (fun i => if i = z then f else fg (stk G z k (fg G z)) i) = fun i => if i = z then f else fg G i := by
    funext i
    show (if i = z then f else (if i = z then fg G z else fg G i)) = _
    split <;> rfl
  show mkB (nn G) (tn G) (th G) (dy G) (fun i => if i = z then kd (stk G z k (fg G z)) z else kd (stk G z k (fg G z)) i) (fun i => if i = z then f else fg (stk G z k (fg G z)) i) (sd G) (sq G) = _
  rw [e1, e2]
  rfl
section C8
variable {d : Nat} {h : Mem} {Q : Option AV → Mem → Prop} {b : Nat} {G : Bd} {M : Int → Prop} {ra : Int}
theorem c_X4_copies {b1 : Nat} (hG : RR h b1 G M ra) (hO : OKB G) (hb : ¬ b1 = b) (hq : ∀ h', RR h' b G M ra → FrR h h' b → Q none h') : Rn mt (d + 1) 108 [ar 12 b1, ar 12 b] h Q := by
  refine Rn.intro iX4_copies rfl rfl ?_
  show Rch bX4_copies _ _ _ _ 0 [some (ar 12 b1), some (ar 12 b), none] [] _
  have g_n := hO.n
  have key : ∀ k : Int, k ≤ 46 → 0 ≤ k → ∀ h', (∀ j : Int, 0 ≤ j → j < k → hI h' 12 b j.toNat = hI h 12 b1 j.toNat) → FrR h h' b → RH bX4_copies d Q 2 [some (ar 12 b1), some (ar 12 b), some (ai (I k))] h' := by
    refine up_ind (fun k hk ih hk0 h' hj hF => ?_)
    by_cases hk1 : k < 46
    · have e1 : hI h' 12 b1 k.toNat = hI h 12 b1 k.toNat := hF 12 b1 _ (fun z => hb z.2)
      have ih := ih hk1 (by omega) (mset h' 12 b k.toNat (I (hI h' 12 b1 k.toNat))) (fun j j0 j1 => by
        by_cases e : j = k
        · subst e; rw [hI_eq hI_R]; exact e1
        · rw [hI_nk (by omega)]; exact hj j j0 (by omega)) hF.ms
      refine Rch.blk' (Rn_mono mt _) bl_X4_copies_2 (i_iload_n rfl (i_bipush k_46 (t_ic_ge 20 8 rfl rfl (by first | exact hI_R | exact band_R | exact bor_R | exact bshr_R | exact lcm_R | omega) (by first | exact hI_R | exact band_R | exact bor_R | exact bshr_R | exact lcm_R | omega) (fun hc => ?_) (fun hc => ?_)))) <;> (first | (exfalso; omega) | skip)
      repeat' (first
        | exact ih
        | (show Rch _ _ _ _ _ 0 _ _ _; refine Rch.blk' (Rn_mono mt _) bl_X4_copies_0 (i_iconst k_0 (i_istore2 trivial (t_none ?_))))
        | (show Rch _ _ _ _ _ 8 _ _ _; refine Rch.blk' (Rn_mono mt _) bl_X4_copies_8 (i_aload_n rfl (i_iload_n rfl (i_aload_n rfl (i_iload_n rfl (i_iald (n := 46) rfl (by omega) (by omega) (by omega) (i_iast (n := 46) rfl rfl (by omega) (by omega) (by omega) (i_iinc2 trivial k_1 (t_goto 2 rfl ?_)))))))))
        | (show Rch _ _ _ _ _ 20 _ _ _; refine Rch.blk' (Rn_mono mt _) bl_X4_copies_20 (t_vret ?_)))
    · obtain rfl : k = 46 := by omega
      refine Rch.blk' (Rn_mono mt _) bl_X4_copies_2 (i_iload_n rfl (i_bipush k_46 (t_ic_ge 20 8 rfl rfl (by first | exact hI_R | exact band_R | exact bor_R | exact bshr_R | exact lcm_R | omega) (by first | exact hI_R | exact band_R | exact bor_R | exact bshr_R | exact lcm_R | omega) (fun hc => ?_) (fun hc => ?_)))) <;> (first | (exfalso; omega) | skip)
      refine Rch.blk' (Rn_mono mt _) bl_X4_copies_20 (t_vret ?_)
      refine hq h' ⟨?_, ?_, ?_, ?_, ?_, ?_, fun p p0 p1 => ⟨?_, ?_, ?_, ?_⟩⟩ hF
      · exact (hj 0 (by omega) (by omega)).trans hG.1
      · exact (hj 1 (by omega) (by omega)).trans hG.2.1
      · exact (hj 2 (by omega) (by omega)).trans hG.2.2.1
      · exact (hj 3 (by omega) (by omega)).trans hG.2.2.2.1
      · exact (hj 4 (by omega) (by omega)).trans hG.2.2.2.2.1
      · exact (hj 5 (by omega) (by omega)).trans hG.2.2.2.2.2.1
      · exact (hj _ (by omega) (by omega)).trans (hG.k p0 p1)
      · exact (hj _ (by omega) (by omega)).trans (hG.f p0 p1)
      · exact (hj _ (by omega) (by omega)).trans (hG.s p0 p1)
      · exact (hj _ (by omega) (by omega)).trans (hG.q p0 p1)
  repeat' (first
    | exact key 0 (by omega) (by omega) h (fun j _ _ => by omega) FrR.rf
    | (show Rch _ _ _ _ _ 0 _ _ _; refine Rch.blk' (Rn_mono mt _) bl_X4_copies_0 (i_iconst k_0 (i_istore2 trivial (t_none ?_))))
    | (show Rch _ _ _ _ _ 8 _ _ _; refine Rch.blk' (Rn_mono mt _) bl_X4_copies_8 (i_aload_n rfl (i_iload_n rfl (i_aload_n rfl (i_iload_n rfl (i_iald (n := 46) rfl (by omega) (by omega) (by omega) (i_iast (n := 46) rfl rfl (by omega) (by omega) (by omega) (i_iinc2 trivial k_1 (t_goto 2 rfl ?_)))))))))
    | (show Rch _ _ _ _ _ 20 _ _ _; refine Rch.blk' (Rn_mono mt _) bl_X4_copies_20 (t_vret ?_)))
theorem c_X4_day (hG : RR h b G M ra) (hO : OKB G) (hra : ra = 0 ∨ ra = 1) (hy : dy G < 900000) (hq : ∀ h', RR h' b (DAY G M ra) M ra → FrR h h' b → Q none h') : Rn mt (d + 7) 137 [ar 12 b] h Q := by
  refine Rn.intro iX4_day rfl rfl ?_
  show Rch bX4_day _ _ _ _ 0 [some (ar 12 b), none, none, none] [] _
  have e_d := hG.d
  have g_d := hO.2.2.2.1
  have g_t := hO.2.1
  have g_h := hO.2.2.1
  have hz : inR (dy G + 1) := ⟨by omega, by omega⟩
  have e_e := fun h => @hI_eq h 12 b (Int.toNat 1) _ hz
  refine Rch.blk' (Rn_mono mt _) bl_X4_day_0 (i_aload_n rfl (i_iconst k_1 (i_dup2 rfl (i_iald (n := 46) rfl (by first | omega | (simp (disch := omega) only [e_d, e_e]; omega)) (by first | omega | (simp (disch := omega) only [e_d, e_e]; omega)) (by first | omega | (simp (disch := omega) only [e_d, e_e]; omega)) (i_iconst k_1 (i_iadd (i_iast (n := 46) rfl rfl (by first | omega | (simp (disch := omega) only [e_d, e_e]; omega)) (by first | omega | (simp (disch := omega) only [e_d, e_e]; omega)) (by first | omega | (simp (disch := omega) only [e_d, e_e]; omega)) (i_aload_n rfl (i_aload_n rfl (i_iconst k_1 (i_iald (n := 46) rfl (by first | omega | (simp (disch := omega) only [e_d, e_e]; omega)) (by first | omega | (simp (disch := omega) only [e_d, e_e]; omega)) (by first | omega | (simp (disch := omega) only [e_d, e_e]; omega)) (t_cs2 (Rn_mono mt _) 14 rfl (Nat.le_of_ble_eq_true rfl) ?_)))))))))))) <;> (try (simp (disch := omega) only [e_d, e_e]))
  have hG1 := hG.set_d hz (j := Int.toNat 1) rfl
  have hO1 : OKB (setd G (dy G + 1)) := OKB_setd hO (by omega)
  have hF1 : FrR h (mset h 12 b (Int.toNat 1) (I (dy G + 1))) b := FrR.rf.ms
  generalize mset h 12 b (Int.toNat 1) (I (dy G + 1)) = h1 at hG1 hF1 ⊢
  have e_d1 : hI h1 12 b (Int.toNat 1) = dy G + 1 := hG1.d
  have e_o1 : hI h1 12 b (Int.toNat 3) = th G := hG1.o
  have e_t1 : hI h1 12 b (Int.toNat 2) = tn G := hG1.t
  refine c_X4_goesOn (M := M) hG1 hO1 hra (by omega) (by omega) (fun g hg hgR => ?_)
  by_cases hg4 : g = -4
  · have hg' : goer (setd G (dy G + 1)) M ra (dy G + 1) = -4 := hg.symm.trans hg4
    have e_3 : ∀ v, hI (mset h1 12 b (Int.toNat 3) (I v)) 12 b (Int.toNat 2) = tn G := fun v => by rw [hI_nk (by decide)]; exact e_t1
    have kN : ∀ v, v = (if th G < 9999 then th G + 1 else 9999) → Q none (mset (mset h1 12 b (Int.toNat 3) (I v)) 12 b (Int.toNat 2) (I (1 - tn G))) := by
      intro v hv
      refine hq _ ?_ hF1.ms.ms
      rw [DAY_no hg', ← hv]
      exact (hG1.set_h ⟨by omega, by omega⟩ rfl).set_t ⟨by omega, by omega⟩ rfl
    repeat' (first
      | exact kN _ (by omega)
      | (show Rn _ _ 136 _ _ _; refine c_X4_goesOn (by assumption) (by assumption) (by omega) (by omega) (by omega) (fun _ _ _ => ?_))
      | (show Rn _ _ 107 _ _ _; refine c_X4_least (by omega) (by omega) (fun _ => ?_) (fun _ => ?_))
      | (show Rn _ _ 128 _ _ _; refine c_X4_idea (by assumption) (by assumption) (by omega) (by omega) (by omega) (by omega) (fun _ _ _ _ _ _ => ?_) (fun _ => ?_))
      | (show Rn _ _ 117 _ _ _; refine c_X4_onSquare (by assumption) (by assumption) (by omega) (by omega) (fun _ _ _ => ?_) (fun _ => ?_))
      | (show Rn _ _ 109 _ _ _; refine c_X4_of ?_)
      | (show Rch _ _ _ _ _ 0 _ _ _; refine Rch.blk' (Rn_mono mt _) bl_X4_day_0 (i_aload_n rfl (i_iconst k_1 (i_dup2 rfl (i_iald (n := 46) rfl (by first | omega | (simp (disch := omega) only [e_o1, e_3]; omega)) (by first | omega | (simp (disch := omega) only [e_o1, e_3]; omega)) (by first | omega | (simp (disch := omega) only [e_o1, e_3]; omega)) (i_iconst k_1 (i_iadd (i_iast (n := 46) rfl rfl (by first | omega | (simp (disch := omega) only [e_o1, e_3]; omega)) (by first | omega | (simp (disch := omega) only [e_o1, e_3]; omega)) (by first | omega | (simp (disch := omega) only [e_o1, e_3]; omega)) (i_aload_n rfl (i_aload_n rfl (i_iconst k_1 (i_iald (n := 46) rfl (by first | omega | (simp (disch := omega) only [e_o1, e_3]; omega)) (by first | omega | (simp (disch := omega) only [e_o1, e_3]; omega)) (by first | omega | (simp (disch := omega) only [e_o1, e_3]; omega)) (t_cs2 (Rn_mono mt _) 14 rfl (Nat.le_of_ble_eq_true rfl) ?_)))))))))))) <;> (try (simp (disch := omega) only [e_o1, e_3])))
      | (show Rch _ _ _ _ _ 14 _ _ _; refine Rch.blk' (Rn_mono mt _) bl_X4_day_14 (i_istore1 trivial (i_iload_n rfl (t_if_ge 36 19 rfl rfl (by first | exact hI_R | exact band_R | exact bor_R | exact bshr_R | exact lcm_R | omega | (simp (disch := omega) only [e_o1, e_3]; omega)) (fun hc => ?_) (fun hc => ?_)))) <;> (first | (exfalso; omega) | skip))
      | (show Rch _ _ _ _ _ 19 _ _ _; refine Rch.blk' (Rn_mono mt _) bl_X4_day_19 (i_aload_n rfl (i_iconst k_3 (i_sipush k_9999 (i_aload_n rfl (i_iconst k_3 (i_iald (n := 46) rfl (by first | omega | (simp (disch := omega) only [e_o1, e_3]; omega)) (by first | omega | (simp (disch := omega) only [e_o1, e_3]; omega)) (by first | omega | (simp (disch := omega) only [e_o1, e_3]; omega)) (i_iconst k_1 (i_iadd (t_cs2 (Rn_mono mt _) 32 rfl (Nat.le_of_ble_eq_true rfl) ?_))))))))) <;> (try (simp (disch := omega) only [e_o1, e_3])))
      | (show Rch _ _ _ _ _ 32 _ _ _; refine Rch.blk' (Rn_mono mt _) bl_X4_day_32 (i_iast rfl rfl (by first | omega | (simp (disch := omega) only [e_o1, e_3]; omega)) (by simp only [aln]; omega) (by simp only [aln]; omega) (t_goto 72 rfl ?_)))
      | (show Rch _ _ _ _ _ 36 _ _ _; refine Rch.blk' (Rn_mono mt _) bl_X4_day_36 (i_aload_n rfl (i_iload_n rfl (i_aload_n rfl (i_iconst k_1 (i_iald (n := 46) rfl (by first | omega | (simp (disch := omega) only [e_o1, e_3]; omega)) (by first | omega | (simp (disch := omega) only [e_o1, e_3]; omega)) (by first | omega | (simp (disch := omega) only [e_o1, e_3]; omega)) (t_cs3 (Rn_mono mt _) 44 rfl (Nat.le_of_ble_eq_true rfl) ?_)))))) <;> (try (simp (disch := omega) only [e_o1, e_3])))
      | (show Rch _ _ _ _ _ 44 _ _ _; refine Rch.blk' (Rn_mono mt _) bl_X4_day_44 (i_istore2 trivial (i_aload_n rfl (i_iload_n rfl (t_cs2 (Rn_mono mt _) 50 rfl (Nat.le_of_ble_eq_true rfl) ?_)))))
      | (show Rch _ _ _ _ _ 50 _ _ _; refine Rch.blk' (Rn_mono mt _) bl_X4_day_50 (i_istore3 trivial (i_iload_n rfl (t_if_lt 64 55 rfl rfl (by first | exact hI_R | exact band_R | exact bor_R | exact bshr_R | exact lcm_R | omega | (simp (disch := omega) only [e_o1, e_3]; omega)) (fun hc => ?_) (fun hc => ?_)))) <;> (first | (exfalso; omega) | skip))
      | (show Rch _ _ _ _ _ 55 _ _ _; refine Rch.blk' (Rn_mono mt _) bl_X4_day_55 (i_aload_n rfl (i_iload_n rfl (i_iconst k_3 (t_cs2 (Rn_mono mt _) 61 rfl (Nat.le_of_ble_eq_true rfl) ?_)))))
      | (show Rch _ _ _ _ _ 61 _ _ _; refine Rch.blk' (Rn_mono mt _) bl_X4_day_61 (i_bipush k_m4 (i_iast rfl rfl (by first | omega | (simp (disch := omega) only [e_o1, e_3]; omega)) (by simp only [aln]; omega) (by simp only [aln]; omega) (t_none ?_))))
      | (show Rch _ _ _ _ _ 64 _ _ _; refine Rch.blk' (Rn_mono mt _) bl_X4_day_64 (i_aload_n rfl (i_iload_n rfl (i_iconst k_3 (t_cs2 (Rn_mono mt _) 70 rfl (Nat.le_of_ble_eq_true rfl) ?_)))))
      | (show Rch _ _ _ _ _ 70 _ _ _; refine Rch.blk' (Rn_mono mt _) bl_X4_day_70 (i_iload_n rfl (i_iast rfl rfl (by first | omega | (simp (disch := omega) only [e_o1, e_3]; omega)) (by simp only [aln]; omega) (by simp only [aln]; omega) (t_none ?_))))
      | (show Rch _ _ _ _ _ 72 _ _ _; refine Rch.blk' (Rn_mono mt _) bl_X4_day_72 (i_aload_n rfl (i_iconst k_2 (i_iconst k_1 (i_aload_n rfl (i_iconst k_2 (i_iald (n := 46) rfl (by first | omega | (simp (disch := omega) only [e_o1, e_3]; omega)) (by first | omega | (simp (disch := omega) only [e_o1, e_3]; omega)) (by first | omega | (simp (disch := omega) only [e_o1, e_3]; omega)) (i_isub (i_iast (n := 46) rfl rfl (by first | omega | (simp (disch := omega) only [e_o1, e_3]; omega)) (by first | omega | (simp (disch := omega) only [e_o1, e_3]; omega)) (by first | omega | (simp (disch := omega) only [e_o1, e_3]; omega)) (t_vret ?_))))))))) <;> (try (simp (disch := omega) only [e_o1, e_3]))))
  · have hgo := goer_R (G := setd G (dy G + 1)) (M := M) (ra := ra) (y := dy G + 1) hO1
    rw [← hg] at hgo
    obtain ⟨g0, g1, gc⟩ : 0 ≤ g ∧ g < nn (setd G (dy G + 1)) ∧ cand (setd G (dy G + 1)) M (dy G + 1) g := by
      rcases hgo with e | e
      · exact absurd e hg4
      · exact e
    have gsq := gc.2.1
    have gmu := gc.2.2.1
    have gid := gc.2.2.2
    have gn1 := hO1.n
    clear hgo
    refine Rch.blk' (Rn_mono mt _) bl_X4_day_14 (i_istore1 trivial (i_iload_n rfl (t_if_ge 36 19 rfl rfl (by first | exact hI_R | exact band_R | exact bor_R | exact bshr_R | exact lcm_R | omega) (fun hc => ?_) (fun hc => ?_)))) <;> (first | (exfalso; omega) | skip)
    refine Rch.blk' (Rn_mono mt _) bl_X4_day_36 (i_aload_n rfl (i_iload_n rfl (i_aload_n rfl (i_iconst k_1 (i_iald (n := 46) rfl (by first | omega | (simp (disch := omega) only [e_d1]; omega)) (by first | omega | (simp (disch := omega) only [e_d1]; omega)) (by first | omega | (simp (disch := omega) only [e_d1]; omega)) (t_cs3 (Rn_mono mt _) 44 rfl (Nat.le_of_ble_eq_true rfl) ?_)))))) <;> (try (simp (disch := omega) only [e_d1]))
    refine c_X4_idea hG1 hO1 g0 g1 (by omega) (by omega) (fun _ _ s hs s0 s1 => ?_) (fun hx => hx.elim (fun hx => by exfalso; omega) (fun hx => absurd hx gmu))
    have hsR := @ide_R (setd G (dy G + 1)) g (dy G + 1)
    have s2 : 0 ≤ s := by omega
    have hmid : ∀ (x : Int) (h2 : Mem), RR h2 b (tof (setd G (dy G + 1)) (ons (setd G (dy G + 1)) s)) M ra → FrR h1 h2 b → Rch bX4_day (Rn mt (d + 6)) 0 (fun _ _ _ _ => False) Q 64 [some (ar 12 b), some (ai (I g)), some (ai (I s)), some (ai (I x))] [] h2 := by
      intro x h2 hG2 hF2
      have hG3 := hG2.set_q (z := g) (s := s) (v := s) (j := (6 + 4 * g + 3).toNat) g0 s2 (by omega) (m4_p s1).symm rfl
      have e_t3 : hI (mset h2 12 b (6 + 4 * g + 3).toNat (I s)) 12 b (Int.toNat 2) = tn G := by rw [hG3.t]; unfold tof; split <;> rfl
      have kG : Q none (mset (mset h2 12 b (6 + 4 * g + 3).toNat (I s)) 12 b (Int.toNat 2) (I (1 - tn G))) := by
        refine hq _ ?_ (hF1.tr hF2).ms.ms
        rw [DAY_go hg.symm hg4 hs.symm]
        exact hG3.set_t ⟨by omega, by omega⟩ rfl
      repeat' (first
        | exact kG
        | (show Rn _ _ 136 _ _ _; refine c_X4_goesOn (by assumption) (by assumption) (by omega) (by omega) (by omega) (fun _ _ _ => ?_))
        | (show Rn _ _ 107 _ _ _; refine c_X4_least (by omega) (by omega) (fun _ => ?_) (fun _ => ?_))
        | (show Rn _ _ 128 _ _ _; refine c_X4_idea (by assumption) (by assumption) (by omega) (by omega) (by omega) (by omega) (fun _ _ _ _ _ _ => ?_) (fun _ => ?_))
        | (show Rn _ _ 117 _ _ _; refine c_X4_onSquare (by assumption) (by assumption) (by omega) (by omega) (fun _ _ _ => ?_) (fun _ => ?_))
        | (show Rn _ _ 109 _ _ _; refine c_X4_of ?_)
        | (show Rch _ _ _ _ _ 0 _ _ _; refine Rch.blk' (Rn_mono mt _) bl_X4_day_0 (i_aload_n rfl (i_iconst k_1 (i_dup2 rfl (i_iald (n := 46) rfl (by first | omega | (simp (disch := omega) only [e_t3]; omega)) (by first | omega | (simp (disch := omega) only [e_t3]; omega)) (by first | omega | (simp (disch := omega) only [e_t3]; omega)) (i_iconst k_1 (i_iadd (i_iast (n := 46) rfl rfl (by first | omega | (simp (disch := omega) only [e_t3]; omega)) (by first | omega | (simp (disch := omega) only [e_t3]; omega)) (by first | omega | (simp (disch := omega) only [e_t3]; omega)) (i_aload_n rfl (i_aload_n rfl (i_iconst k_1 (i_iald (n := 46) rfl (by first | omega | (simp (disch := omega) only [e_t3]; omega)) (by first | omega | (simp (disch := omega) only [e_t3]; omega)) (by first | omega | (simp (disch := omega) only [e_t3]; omega)) (t_cs2 (Rn_mono mt _) 14 rfl (Nat.le_of_ble_eq_true rfl) ?_)))))))))))) <;> (try (simp (disch := omega) only [e_t3])))
        | (show Rch _ _ _ _ _ 14 _ _ _; refine Rch.blk' (Rn_mono mt _) bl_X4_day_14 (i_istore1 trivial (i_iload_n rfl (t_if_ge 36 19 rfl rfl (by first | exact hI_R | exact band_R | exact bor_R | exact bshr_R | exact lcm_R | omega | (simp (disch := omega) only [e_t3]; omega)) (fun hc => ?_) (fun hc => ?_)))) <;> (first | (exfalso; omega) | skip))
        | (show Rch _ _ _ _ _ 19 _ _ _; refine Rch.blk' (Rn_mono mt _) bl_X4_day_19 (i_aload_n rfl (i_iconst k_3 (i_sipush k_9999 (i_aload_n rfl (i_iconst k_3 (i_iald (n := 46) rfl (by first | omega | (simp (disch := omega) only [e_t3]; omega)) (by first | omega | (simp (disch := omega) only [e_t3]; omega)) (by first | omega | (simp (disch := omega) only [e_t3]; omega)) (i_iconst k_1 (i_iadd (t_cs2 (Rn_mono mt _) 32 rfl (Nat.le_of_ble_eq_true rfl) ?_))))))))) <;> (try (simp (disch := omega) only [e_t3])))
        | (show Rch _ _ _ _ _ 32 _ _ _; refine Rch.blk' (Rn_mono mt _) bl_X4_day_32 (i_iast rfl rfl (by first | omega | (simp (disch := omega) only [e_t3]; omega)) (by simp only [aln]; omega) (by simp only [aln]; omega) (t_goto 72 rfl ?_)))
        | (show Rch _ _ _ _ _ 36 _ _ _; refine Rch.blk' (Rn_mono mt _) bl_X4_day_36 (i_aload_n rfl (i_iload_n rfl (i_aload_n rfl (i_iconst k_1 (i_iald (n := 46) rfl (by first | omega | (simp (disch := omega) only [e_t3]; omega)) (by first | omega | (simp (disch := omega) only [e_t3]; omega)) (by first | omega | (simp (disch := omega) only [e_t3]; omega)) (t_cs3 (Rn_mono mt _) 44 rfl (Nat.le_of_ble_eq_true rfl) ?_)))))) <;> (try (simp (disch := omega) only [e_t3])))
        | (show Rch _ _ _ _ _ 44 _ _ _; refine Rch.blk' (Rn_mono mt _) bl_X4_day_44 (i_istore2 trivial (i_aload_n rfl (i_iload_n rfl (t_cs2 (Rn_mono mt _) 50 rfl (Nat.le_of_ble_eq_true rfl) ?_)))))
        | (show Rch _ _ _ _ _ 50 _ _ _; refine Rch.blk' (Rn_mono mt _) bl_X4_day_50 (i_istore3 trivial (i_iload_n rfl (t_if_lt 64 55 rfl rfl (by first | exact hI_R | exact band_R | exact bor_R | exact bshr_R | exact lcm_R | omega | (simp (disch := omega) only [e_t3]; omega)) (fun hc => ?_) (fun hc => ?_)))) <;> (first | (exfalso; omega) | skip))
        | (show Rch _ _ _ _ _ 55 _ _ _; refine Rch.blk' (Rn_mono mt _) bl_X4_day_55 (i_aload_n rfl (i_iload_n rfl (i_iconst k_3 (t_cs2 (Rn_mono mt _) 61 rfl (Nat.le_of_ble_eq_true rfl) ?_)))))
        | (show Rch _ _ _ _ _ 61 _ _ _; refine Rch.blk' (Rn_mono mt _) bl_X4_day_61 (i_bipush k_m4 (i_iast rfl rfl (by first | omega | (simp (disch := omega) only [e_t3]; omega)) (by simp only [aln]; omega) (by simp only [aln]; omega) (t_none ?_))))
        | (show Rch _ _ _ _ _ 64 _ _ _; refine Rch.blk' (Rn_mono mt _) bl_X4_day_64 (i_aload_n rfl (i_iload_n rfl (i_iconst k_3 (t_cs2 (Rn_mono mt _) 70 rfl (Nat.le_of_ble_eq_true rfl) ?_)))))
        | (show Rch _ _ _ _ _ 70 _ _ _; refine Rch.blk' (Rn_mono mt _) bl_X4_day_70 (i_iload_n rfl (i_iast rfl rfl (by first | omega | (simp (disch := omega) only [e_t3]; omega)) (by simp only [aln]; omega) (by simp only [aln]; omega) (t_none ?_))))
        | (show Rch _ _ _ _ _ 72 _ _ _; refine Rch.blk' (Rn_mono mt _) bl_X4_day_72 (i_aload_n rfl (i_iconst k_2 (i_iconst k_1 (i_aload_n rfl (i_iconst k_2 (i_iald (n := 46) rfl (by first | omega | (simp (disch := omega) only [e_t3]; omega)) (by first | omega | (simp (disch := omega) only [e_t3]; omega)) (by first | omega | (simp (disch := omega) only [e_t3]; omega)) (i_isub (i_iast (n := 46) rfl rfl (by first | omega | (simp (disch := omega) only [e_t3]; omega)) (by first | omega | (simp (disch := omega) only [e_t3]; omega)) (by first | omega | (simp (disch := omega) only [e_t3]; omega)) (t_vret ?_))))))))) <;> (try (simp (disch := omega) only [e_t3]))))
    refine Rch.blk' (Rn_mono mt _) bl_X4_day_44 (i_istore2 trivial (i_aload_n rfl (i_iload_n rfl (t_cs2 (Rn_mono mt _) 50 rfl (Nat.le_of_ble_eq_true rfl) ?_))))
    refine c_X4_onSquare hG1 hO1 s2 s1 (fun o0 o1 o2 => ?_) (fun o0 => ?_)
    · have hG2 := hG1.set_q (z := ons (setd G (dy G + 1)) s) (s := 36) (v := -4) (j := (6 + 4 * ons (setd G (dy G + 1)) s + 3).toNat) o0 (by omega) (by omega) rfl rfl
      have e9 : tof (setd G (dy G + 1)) (ons (setd G (dy G + 1)) s) = mov (setd G (dy G + 1)) (ons (setd G (dy G + 1)) s) 36 := if_neg (by omega)
      have hm := hmid (ons (setd G (dy G + 1)) s) _ (by rw [e9]; exact hG2) FrR.rf.ms
      repeat' (first
        | exact hm
        | (show Rn _ _ 136 _ _ _; refine c_X4_goesOn (by assumption) (by assumption) (by omega) (by omega) (by omega) (fun _ _ _ => ?_))
        | (show Rn _ _ 107 _ _ _; refine c_X4_least (by omega) (by omega) (fun _ => ?_) (fun _ => ?_))
        | (show Rn _ _ 128 _ _ _; refine c_X4_idea (by assumption) (by assumption) (by omega) (by omega) (by omega) (by omega) (fun _ _ _ _ _ _ => ?_) (fun _ => ?_))
        | (show Rn _ _ 117 _ _ _; refine c_X4_onSquare (by assumption) (by assumption) (by omega) (by omega) (fun _ _ _ => ?_) (fun _ => ?_))
        | (show Rn _ _ 109 _ _ _; refine c_X4_of ?_)
        | (show Rch _ _ _ _ _ 0 _ _ _; refine Rch.blk' (Rn_mono mt _) bl_X4_day_0 (i_aload_n rfl (i_iconst k_1 (i_dup2 rfl (i_iald (n := 46) rfl (by omega) (by omega) (by omega) (i_iconst k_1 (i_iadd (i_iast (n := 46) rfl rfl (by omega) (by omega) (by omega) (i_aload_n rfl (i_aload_n rfl (i_iconst k_1 (i_iald (n := 46) rfl (by omega) (by omega) (by omega) (t_cs2 (Rn_mono mt _) 14 rfl (Nat.le_of_ble_eq_true rfl) ?_)))))))))))))
        | (show Rch _ _ _ _ _ 14 _ _ _; refine Rch.blk' (Rn_mono mt _) bl_X4_day_14 (i_istore1 trivial (i_iload_n rfl (t_if_ge 36 19 rfl rfl (by first | exact hI_R | exact band_R | exact bor_R | exact bshr_R | exact lcm_R | omega) (fun hc => ?_) (fun hc => ?_)))) <;> (first | (exfalso; omega) | skip))
        | (show Rch _ _ _ _ _ 19 _ _ _; refine Rch.blk' (Rn_mono mt _) bl_X4_day_19 (i_aload_n rfl (i_iconst k_3 (i_sipush k_9999 (i_aload_n rfl (i_iconst k_3 (i_iald (n := 46) rfl (by omega) (by omega) (by omega) (i_iconst k_1 (i_iadd (t_cs2 (Rn_mono mt _) 32 rfl (Nat.le_of_ble_eq_true rfl) ?_))))))))))
        | (show Rch _ _ _ _ _ 32 _ _ _; refine Rch.blk' (Rn_mono mt _) bl_X4_day_32 (i_iast rfl rfl (by omega) (by simp only [aln]; omega) (by simp only [aln]; omega) (t_goto 72 rfl ?_)))
        | (show Rch _ _ _ _ _ 36 _ _ _; refine Rch.blk' (Rn_mono mt _) bl_X4_day_36 (i_aload_n rfl (i_iload_n rfl (i_aload_n rfl (i_iconst k_1 (i_iald (n := 46) rfl (by omega) (by omega) (by omega) (t_cs3 (Rn_mono mt _) 44 rfl (Nat.le_of_ble_eq_true rfl) ?_)))))))
        | (show Rch _ _ _ _ _ 44 _ _ _; refine Rch.blk' (Rn_mono mt _) bl_X4_day_44 (i_istore2 trivial (i_aload_n rfl (i_iload_n rfl (t_cs2 (Rn_mono mt _) 50 rfl (Nat.le_of_ble_eq_true rfl) ?_)))))
        | (show Rch _ _ _ _ _ 50 _ _ _; refine Rch.blk' (Rn_mono mt _) bl_X4_day_50 (i_istore3 trivial (i_iload_n rfl (t_if_lt 64 55 rfl rfl (by first | exact hI_R | exact band_R | exact bor_R | exact bshr_R | exact lcm_R | omega) (fun hc => ?_) (fun hc => ?_)))) <;> (first | (exfalso; omega) | skip))
        | (show Rch _ _ _ _ _ 55 _ _ _; refine Rch.blk' (Rn_mono mt _) bl_X4_day_55 (i_aload_n rfl (i_iload_n rfl (i_iconst k_3 (t_cs2 (Rn_mono mt _) 61 rfl (Nat.le_of_ble_eq_true rfl) ?_)))))
        | (show Rch _ _ _ _ _ 61 _ _ _; refine Rch.blk' (Rn_mono mt _) bl_X4_day_61 (i_bipush k_m4 (i_iast rfl rfl (by omega) (by simp only [aln]; omega) (by simp only [aln]; omega) (t_none ?_))))
        | (show Rch _ _ _ _ _ 70 _ _ _; refine Rch.blk' (Rn_mono mt _) bl_X4_day_70 (i_iload_n rfl (i_iast rfl rfl (by omega) (by simp only [aln]; omega) (by simp only [aln]; omega) (t_none ?_))))
        | (show Rch _ _ _ _ _ 72 _ _ _; refine Rch.blk' (Rn_mono mt _) bl_X4_day_72 (i_aload_n rfl (i_iconst k_2 (i_iconst k_1 (i_aload_n rfl (i_iconst k_2 (i_iald (n := 46) rfl (by omega) (by omega) (by omega) (i_isub (i_iast (n := 46) rfl rfl (by omega) (by omega) (by omega) (t_vret ?_)))))))))))
    · have e9 : tof (setd G (dy G + 1)) (ons (setd G (dy G + 1)) s) = setd G (dy G + 1) := if_pos o0
      have hm := hmid (-1) _ (by rw [e9]; exact hG1) FrR.rf
      repeat' (first
        | exact hm
        | (show Rn _ _ 136 _ _ _; refine c_X4_goesOn (by assumption) (by assumption) (by omega) (by omega) (by omega) (fun _ _ _ => ?_))
        | (show Rn _ _ 107 _ _ _; refine c_X4_least (by omega) (by omega) (fun _ => ?_) (fun _ => ?_))
        | (show Rn _ _ 128 _ _ _; refine c_X4_idea (by assumption) (by assumption) (by omega) (by omega) (by omega) (by omega) (fun _ _ _ _ _ _ => ?_) (fun _ => ?_))
        | (show Rn _ _ 117 _ _ _; refine c_X4_onSquare (by assumption) (by assumption) (by omega) (by omega) (fun _ _ _ => ?_) (fun _ => ?_))
        | (show Rn _ _ 109 _ _ _; refine c_X4_of ?_)
        | (show Rch _ _ _ _ _ 0 _ _ _; refine Rch.blk' (Rn_mono mt _) bl_X4_day_0 (i_aload_n rfl (i_iconst k_1 (i_dup2 rfl (i_iald (n := 46) rfl (by omega) (by omega) (by omega) (i_iconst k_1 (i_iadd (i_iast (n := 46) rfl rfl (by omega) (by omega) (by omega) (i_aload_n rfl (i_aload_n rfl (i_iconst k_1 (i_iald (n := 46) rfl (by omega) (by omega) (by omega) (t_cs2 (Rn_mono mt _) 14 rfl (Nat.le_of_ble_eq_true rfl) ?_)))))))))))))
        | (show Rch _ _ _ _ _ 14 _ _ _; refine Rch.blk' (Rn_mono mt _) bl_X4_day_14 (i_istore1 trivial (i_iload_n rfl (t_if_ge 36 19 rfl rfl (by first | exact hI_R | exact band_R | exact bor_R | exact bshr_R | exact lcm_R | omega) (fun hc => ?_) (fun hc => ?_)))) <;> (first | (exfalso; omega) | skip))
        | (show Rch _ _ _ _ _ 19 _ _ _; refine Rch.blk' (Rn_mono mt _) bl_X4_day_19 (i_aload_n rfl (i_iconst k_3 (i_sipush k_9999 (i_aload_n rfl (i_iconst k_3 (i_iald (n := 46) rfl (by omega) (by omega) (by omega) (i_iconst k_1 (i_iadd (t_cs2 (Rn_mono mt _) 32 rfl (Nat.le_of_ble_eq_true rfl) ?_))))))))))
        | (show Rch _ _ _ _ _ 32 _ _ _; refine Rch.blk' (Rn_mono mt _) bl_X4_day_32 (i_iast rfl rfl (by omega) (by simp only [aln]; omega) (by simp only [aln]; omega) (t_goto 72 rfl ?_)))
        | (show Rch _ _ _ _ _ 36 _ _ _; refine Rch.blk' (Rn_mono mt _) bl_X4_day_36 (i_aload_n rfl (i_iload_n rfl (i_aload_n rfl (i_iconst k_1 (i_iald (n := 46) rfl (by omega) (by omega) (by omega) (t_cs3 (Rn_mono mt _) 44 rfl (Nat.le_of_ble_eq_true rfl) ?_)))))))
        | (show Rch _ _ _ _ _ 44 _ _ _; refine Rch.blk' (Rn_mono mt _) bl_X4_day_44 (i_istore2 trivial (i_aload_n rfl (i_iload_n rfl (t_cs2 (Rn_mono mt _) 50 rfl (Nat.le_of_ble_eq_true rfl) ?_)))))
        | (show Rch _ _ _ _ _ 50 _ _ _; refine Rch.blk' (Rn_mono mt _) bl_X4_day_50 (i_istore3 trivial (i_iload_n rfl (t_if_lt 64 55 rfl rfl (by first | exact hI_R | exact band_R | exact bor_R | exact bshr_R | exact lcm_R | omega) (fun hc => ?_) (fun hc => ?_)))) <;> (first | (exfalso; omega) | skip))
        | (show Rch _ _ _ _ _ 55 _ _ _; refine Rch.blk' (Rn_mono mt _) bl_X4_day_55 (i_aload_n rfl (i_iload_n rfl (i_iconst k_3 (t_cs2 (Rn_mono mt _) 61 rfl (Nat.le_of_ble_eq_true rfl) ?_)))))
        | (show Rch _ _ _ _ _ 61 _ _ _; refine Rch.blk' (Rn_mono mt _) bl_X4_day_61 (i_bipush k_m4 (i_iast rfl rfl (by omega) (by simp only [aln]; omega) (by simp only [aln]; omega) (t_none ?_))))
        | (show Rch _ _ _ _ _ 70 _ _ _; refine Rch.blk' (Rn_mono mt _) bl_X4_day_70 (i_iload_n rfl (i_iast rfl rfl (by omega) (by simp only [aln]; omega) (by simp only [aln]; omega) (t_none ?_))))
        | (show Rch _ _ _ _ _ 72 _ _ _; refine Rch.blk' (Rn_mono mt _) bl_X4_day_72 (i_aload_n rfl (i_iconst k_2 (i_iconst k_1 (i_aload_n rfl (i_iconst k_2 (i_iald (n := 46) rfl (by omega) (by omega) (by omega) (i_isub (i_iast (n := 46) rfl rfl (by omega) (by omega) (by omega) (t_vret ?_)))))))))))
theorem c_X4_daysOn (hG : RR h b G M 0) (hO : OKB G) {n : Int} (n0 : 0 ≤ n) (n1 : n ≤ 1000) (hy : dy G < 800000) (hq : ∀ h', RR h' b (DN G M n) M 0 → FrR h h' b → Q none h') : Rn mt (d + 8) 138 [ar 12 b, ai (I n)] h Q := by
  refine Rn.intro iX4_daysOn rfl rfl ?_
  show Rch bX4_daysOn _ _ _ _ 0 [some (ar 12 b), some (ai (I n)), none] [] _
  have key : ∀ k : Int, k ≤ n → 0 ≤ k → ∀ h', RR h' b (DN G M k) M 0 → FrR h h' b → RH bX4_daysOn (d + 7) Q 2 [some (ar 12 b), some (ai (I n)), some (ai (I k))] h' := by
    refine up_ind (fun k hk ih hk0 h' hG' hF' => ?_)
    obtain ⟨hO', -, hd', -⟩ := DN_f (M := M) hO k hk0
    by_cases hk1 : k < n
    · have ih := ih hk1 (by omega)
      rw [DN_up hk0] at ih
      refine Rch.blk' (Rn_mono mt _) bl_X4_daysOn_2 (i_iload_n rfl (i_iload_n rfl (t_ic_ge 17 7 rfl rfl (by first | exact hI_R | exact band_R | exact bor_R | exact bshr_R | exact lcm_R | omega) (by first | exact hI_R | exact band_R | exact bor_R | exact bshr_R | exact lcm_R | omega) (fun hc => ?_) (fun hc => ?_)))) <;> (first | (exfalso; omega) | skip)
      refine Rch.blk' (Rn_mono mt _) bl_X4_daysOn_7 (i_aload_n rfl (t_cs1 (Rn_mono mt _) 11 rfl (Nat.le_of_ble_eq_true rfl) ?_))
      refine c_X4_day hG' hO' (by omega) (by omega) (fun h2 hG2 hF2 => ?_)
      repeat' (first
        | exact ih _ hG2 (hF'.tr hF2)
        | (show Rch _ _ _ _ _ 0 _ _ _; refine Rch.blk' (Rn_mono mt _) bl_X4_daysOn_0 (i_iconst k_0 (i_istore2 trivial (t_none ?_))))
        | (show Rch _ _ _ _ _ 7 _ _ _; refine Rch.blk' (Rn_mono mt _) bl_X4_daysOn_7 (i_aload_n rfl (t_cs1 (Rn_mono mt _) 11 rfl (Nat.le_of_ble_eq_true rfl) ?_)))
        | (show Rch _ _ _ _ _ 11 _ _ _; refine Rch.blk' (Rn_mono mt _) bl_X4_daysOn_11 (i_iinc2 trivial k_1 (t_goto 2 rfl ?_)))
        | (show Rch _ _ _ _ _ 17 _ _ _; refine Rch.blk' (Rn_mono mt _) bl_X4_daysOn_17 (t_vret ?_)))
    · obtain rfl : k = n := by omega
      refine Rch.blk' (Rn_mono mt _) bl_X4_daysOn_2 (i_iload_n rfl (i_iload_n rfl (t_ic_ge 17 7 rfl rfl (by first | exact hI_R | exact band_R | exact bor_R | exact bshr_R | exact lcm_R | omega) (by first | exact hI_R | exact band_R | exact bor_R | exact bshr_R | exact lcm_R | omega) (fun hc => ?_) (fun hc => ?_)))) <;> (first | (exfalso; omega) | skip)
      repeat' (first
        | exact hq _ hG' hF'
        | (show Rch _ _ _ _ _ 0 _ _ _; refine Rch.blk' (Rn_mono mt _) bl_X4_daysOn_0 (i_iconst k_0 (i_istore2 trivial (t_none ?_))))
        | (show Rch _ _ _ _ _ 7 _ _ _; refine Rch.blk' (Rn_mono mt _) bl_X4_daysOn_7 (i_aload_n rfl (t_cs1 (Rn_mono mt _) 11 rfl (Nat.le_of_ble_eq_true rfl) ?_)))
        | (show Rch _ _ _ _ _ 11 _ _ _; refine Rch.blk' (Rn_mono mt _) bl_X4_daysOn_11 (i_iinc2 trivial k_1 (t_goto 2 rfl ?_)))
        | (show Rch _ _ _ _ _ 17 _ _ _; refine Rch.blk' (Rn_mono mt _) bl_X4_daysOn_17 (t_vret ?_)))
  repeat' (first
    | exact key 0 (by omega) (by omega) _ hG FrR.rf
    | (show Rch _ _ _ _ _ 0 _ _ _; refine Rch.blk' (Rn_mono mt _) bl_X4_daysOn_0 (i_iconst k_0 (i_istore2 trivial (t_none ?_))))
    | (show Rch _ _ _ _ _ 7 _ _ _; refine Rch.blk' (Rn_mono mt _) bl_X4_daysOn_7 (i_aload_n rfl (t_cs1 (Rn_mono mt _) 11 rfl (Nat.le_of_ble_eq_true rfl) ?_)))
    | (show Rch _ _ _ _ _ 11 _ _ _; refine Rch.blk' (Rn_mono mt _) bl_X4_daysOn_11 (i_iinc2 trivial k_1 (t_goto 2 rfl ?_)))
    | (show Rch _ _ _ _ _ 17 _ _ _; refine Rch.blk' (Rn_mono mt _) bl_X4_daysOn_17 (t_vret ?_)))
theorem c_X4_inMind (hG : RR h 0 G no0 0) (hO : OKB G) {n : Int} (n0 : 0 ≤ n) (n1 : n ≤ 1000) (hy : dy G < 800000) (hq : ∀ h', RR h' 1 (DN G no0 n) no0 0 → FrR h h' 1 → Q none h') : Rn mt (d + 9) 159 [ar 3 0, ai (I n)] h Q := by
  refine Rn.intro iX4_inMind rfl rfl ?_
  show Rch bX4_inMind _ _ _ _ 0 [some (ar 3 0), some (ai (I n))] [] _
  refine Rch.blk' (Rn_mono mt _) bl_X4_inMind_0 (i_aload_n rfl (i_gfs rfl (i_aload_n rfl (i_gfs rfl (t_cs2 (Rn_mono mt _) 11 rfl (Nat.le_of_ble_eq_true rfl) ?_)))))
  refine c_X4_copies hG hO (by decide) (fun h1 hG1 hF1 => ?_)
  have kk : ∀ h2, RR h2 1 (DN G no0 n) no0 0 → FrR h1 h2 1 → Q none h2 := fun h2 a c => hq h2 a (hF1.tr c)
  repeat' (first
    | (show Rn _ _ 138 _ _ _; refine c_X4_daysOn hG1 hO n0 n1 hy (fun _ _ _ => ?_))
    | exact kk _ (by assumption) (by assumption)
    | (show Rch _ _ _ _ _ 0 _ _ _; refine Rch.blk' (Rn_mono mt _) bl_X4_inMind_0 (i_aload_n rfl (i_gfs rfl (i_aload_n rfl (i_gfs rfl (t_cs2 (Rn_mono mt _) 11 rfl (Nat.le_of_ble_eq_true rfl) ?_))))))
    | (show Rch _ _ _ _ _ 11 _ _ _; refine Rch.blk' (Rn_mono mt _) bl_X4_inMind_11 (i_aload_n rfl (i_gfs rfl (i_iload_n rfl (t_cs2 (Rn_mono mt _) 19 rfl (Nat.le_of_ble_eq_true rfl) ?_)))))
    | (show Rch _ _ _ _ _ 19 _ _ _; refine Rch.blk' (Rn_mono mt _) bl_X4_inMind_19 (t_vret ?_)))
end C8

