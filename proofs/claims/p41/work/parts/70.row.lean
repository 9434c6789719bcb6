/-! THE LAW'S OWN ROW AS A VALUE: cell p: side * 100 + figure * 10 + kind; 10 + p: its square (-4: taken); 20 how many, 21 day, 22 turn, 23 thought, 24 mute, 25 rain -/
def RV (h : Mem) (G : Bd) : Prop := hI h 12 0 20 = nn G ∧ hI h 12 0 21 = dy G ∧ hI h 12 0 22 = tn G ∧ hI h 12 0 23 = th G ∧ hI h 12 0 24 = BT no0 ∧ hI h 12 0 25 = 0 ∧ ∀ p : Int, 0 ≤ p → p < nn G → hI h 12 0 p.toNat = 100 * sd G p + 10 * fg G p + kd G p ∧ hI h 12 0 (10 + p).toNat = m4 (sq G p)
theorem m4_n {q : Int} (h : q = 36) : m4 q = -4 := by unfold m4; omega
section R70
variable {h : Mem} {G : Bd}
theorem RV.n (H : RV h G) : hI h 12 0 (Int.toNat 20) = nn G := H.1
theorem RV.d (H : RV h G) : hI h 12 0 (Int.toNat 21) = dy G := H.2.1
theorem RV.t (H : RV h G) : hI h 12 0 (Int.toNat 22) = tn G := H.2.2.1
theorem RV.o (H : RV h G) : hI h 12 0 (Int.toNat 23) = th G := H.2.2.2.1
theorem RV.m (H : RV h G) : hI h 12 0 (Int.toNat 24) = BT no0 := H.2.2.2.2.1
theorem RV.r (H : RV h G) : hI h 12 0 (Int.toNat 25) = 0 := H.2.2.2.2.2.1
theorem RV.x (H : RV h G) {p : Int} (h0 : 0 ≤ p) (h1 : p < nn G) : hI h 12 0 p.toNat = 100 * sd G p + 10 * fg G p + kd G p := (H.2.2.2.2.2.2 p h0 h1).1
theorem RV.q (H : RV h G) {p : Int} (h0 : 0 ≤ p) (h1 : p < nn G) : hI h 12 0 (10 + p).toNat = m4 (sq G p) := (H.2.2.2.2.2.2 p h0 h1).2
/-- what doesn't touch the row -/
theorem RV.eqs {h' : Mem} (H : RV h G) (e : ∀ k : Nat, hI h' 12 0 k = hI h 12 0 k) : RV h' G := by
  obtain ⟨a, b, c, d, f, g, i⟩ := H
  exact ⟨(e _).trans a, (e _).trans b, (e _).trans c, (e _).trans d, (e _).trans f, (e _).trans g, fun p p0 p1 => ⟨(e _).trans (i p p0 p1).1, (e _).trans (i p p0 p1).2⟩⟩
/-- all but the row stands -/
def FrV (h h' : Mem) : Prop := ∀ (t b k : Nat), ¬ t = 12 → hI h' t b k = hI h t b k
theorem FrV.rf : FrV h h := fun _ _ _ _ => rfl
theorem FrV.tr {h1 h2 : Mem} (a : FrV h h1) (c : FrV h1 h2) : FrV h h2 := fun t b k hn => (c t b k hn).trans (a t b k hn)
theorem FrV.ms {h' : Mem} {k : Nat} {x : Int32} (a : FrV h h') : FrV h (mset h' 12 0 k x) := by
  intro t' b' k' hn
  rw [← a t' b' k' hn]
  exact hI_nt hn
end R70
section C70
variable {d L : Nat} {h : Mem} {Q : Option AV → Mem → Prop} {G : Bd}
theorem c_L_cell {N : Nat} (hL : L = N + 1) (hN : N ≤ 1000) {i : Int} (i0 : 0 ≤ i) (i1 : i < 1000) (hq : ∀ v, inR v → Q (some (ai (I v))) h) : Rn mt L (d + 1) 77 [ar 22 0, ai (I i)] h Q := by
  subst hL
  refine Rn.intro iL_cell rfl rfl ?_
  show Rch bL_cell _ _ _ _ 0 [some (ar 22 0), some (ai (I i)), none] [] _
  repeat' (first
    | exact hq _ bxor_R
    | (show Rch _ _ _ _ _ 0 _ _ _; refine Rch.blk' (Rn_mono mt _ _) bl_L_cell_0 (i_ldc k_69069 (i_iload_n rfl (i_aload_n rfl (i_alen rfl (I_nn rfl) (t_ic_ge 14 8 rfl rfl (by first | with_reducible exact hI_R | with_reducible exact lcm_R | with_reducible exact band_R | with_reducible exact bor_R | with_reducible exact bshr_R | with_reducible exact bshl_R | omega) (by first | with_reducible exact hI_R | with_reducible exact lcm_R | with_reducible exact band_R | with_reducible exact bor_R | with_reducible exact bshr_R | with_reducible exact bshl_R | omega) (fun hc => ?_) (fun hc => ?_)))))) <;> (first | (exfalso; omega) | skip))
    | (show Rch _ _ _ _ _ 8 _ _ _; refine Rch.blk' (Rn_mono mt _ _) bl_L_cell_8 (i_aload_n rfl (i_iload_n rfl (i_iald rfl (by omega) (by simp only [aln]; omega) (by simp only [aln]; omega) (t_goto 15 rfl ?_)))))
    | (show Rch _ _ _ _ _ 14 _ _ _; refine Rch.blk' (Rn_mono mt _ _) bl_L_cell_14 (i_iconst k_0 (t_none ?_)))
    | (show Rch _ _ _ _ _ 15 _ _ _; refine Rch.blk' (Rn_mono mt _ _) bl_L_cell_15 (i_sipush k_1009 (i_iload_n rfl (i_imul (i_iadd (i_imul (i_sipush k_12345 (i_iadd (i_istore2 trivial (i_iload_n rfl (i_iload_n rfl (i_bipush k_13 (i_iushr (i_ixor (i_ldc k_1103515245 (i_imul (i_istore2 trivial (i_iload_n rfl (i_iload_n rfl (i_bipush k_16 (i_iushr (i_ixor (t_iret ?_))))))))))))))))))))))))
theorem c_L_at (hG : RV h G) (hO : OKB G) {q : Int} (hq : (0 ≤ q ∧ q < 36) ∨ q = -9) (h1 : 0 ≤ ons G q → ons G q < nn G → sq G (ons G q) = q → Q (some (ai (I (ons G q)))) h) (h0 : ons G q = -4 → Q (some (ai (I (-1)))) h) : Rn mt L (d + 1) 78 [ar 12 0, ai (I q)] h Q := by
  refine Rn.intro iL_at rfl rfl ?_
  show Rch bL_at _ _ _ _ 0 [some (ar 12 0), some (ai (I q)), none, none] [] _
  have e_q := @RV.q _ _ hG
  have e_n := hG.n
  have g_n := hO.n
  have key : ∀ k : Int, k ≤ nn G → 0 ≤ k → ∀ f : Int, ((f = -1 ∧ ∀ o, 0 ≤ o → o < k → ¬ sq G o = q) ∨ (0 ≤ f ∧ f < k ∧ sq G f = q)) → RH L bL_at d Q 4 [some (ar 12 0), some (ai (I q)), some (ai (I f)), some (ai (I k))] h := by
    refine up_ind (fun k hk ih hk0 f hf => ?_)
    have g_m := @m4_R (sq G k)
    have g_p := hO.pc k hk0
    by_cases hk1 : k < nn G
    · have ih1 : sq G k = q → RH L bL_at d Q 4 [some (ar 12 0), some (ai (I q)), some (ai (I k)), some (ai (I (k + 1)))] h := fun e => ih hk1 (by omega) k (Or.inr ⟨by omega, by omega, e⟩)
      have ih0 : ¬ sq G k = q → RH L bL_at d Q 4 [some (ar 12 0), some (ai (I q)), some (ai (I f)), some (ai (I (k + 1)))] h := by
        intro e
        refine ih hk1 (by omega) f ?_
        rcases hf with ⟨a, b⟩ | ⟨a, b, c⟩
        · refine Or.inl ⟨a, fun o o0 o1 => ?_⟩
          by_cases ho : o = k
          · subst ho; exact e
          · exact b o o0 (by omega)
        · exact Or.inr ⟨a, by omega, c⟩
      clear ih hf
      have g_p := g_p hk1
      refine Rch.blk' (Rn_mono mt _ _) bl_L_at_4 (i_iload_n rfl (i_aload_n rfl (i_bipush k_20 (i_iald (n := 64) rfl (by first | omega | (simp (disch := omega) only [e_n]; omega)) (by first | omega | (simp (disch := omega) only [e_n]; omega)) (by first | omega | (simp (disch := omega) only [e_n]; omega)) (t_ic_ge 34 12 rfl rfl (by first | with_reducible exact hI_R | with_reducible exact lcm_R | with_reducible exact band_R | with_reducible exact bor_R | with_reducible exact bshr_R | with_reducible exact bshl_R | omega | (simp (disch := omega) only [e_n]; omega)) (by first | with_reducible exact hI_R | with_reducible exact lcm_R | with_reducible exact band_R | with_reducible exact bor_R | with_reducible exact bshr_R | with_reducible exact bshl_R | omega | (simp (disch := omega) only [e_n]; omega)) (fun hc => ?_) (fun hc => ?_)))))) <;> (try (simp (disch := omega) only [e_n] at hc ⊢)) <;> (first | (exfalso; omega) | skip)
      repeat' (first
        | exact ih1 (by omega)
        | exact ih0 (by omega)
        | (show Rch _ _ _ _ _ 0 _ _ _; refine Rch.blk' (Rn_mono mt _ _) bl_L_at_0 (i_iconst k_m1 (i_istore2 trivial (i_iconst k_0 (i_istore3 trivial (t_none ?_))))))
        | (show Rch _ _ _ _ _ 12 _ _ _; refine Rch.blk' (Rn_mono mt _ _) bl_L_at_12 (i_aload_n rfl (i_bipush k_10 (i_iload_n rfl (i_iadd (i_iald (n := 64) rfl (by first | omega | (simp (disch := omega) only [e_q]; omega)) (by first | omega | (simp (disch := omega) only [e_q]; omega)) (by first | omega | (simp (disch := omega) only [e_q]; omega)) (i_iload_n rfl (t_ic_ne 26 22 rfl rfl (by first | with_reducible exact hI_R | with_reducible exact lcm_R | with_reducible exact band_R | with_reducible exact bor_R | with_reducible exact bshr_R | with_reducible exact bshl_R | omega | (simp (disch := omega) only [e_q]; omega)) (by first | with_reducible exact hI_R | with_reducible exact lcm_R | with_reducible exact band_R | with_reducible exact bor_R | with_reducible exact bshr_R | with_reducible exact bshl_R | omega | (simp (disch := omega) only [e_q]; omega)) (fun hc => ?_) (fun hc => ?_)))))))) <;> (try (simp (disch := omega) only [e_q] at hc ⊢)) <;> (first | (exfalso; omega) | skip))
        | (show Rch _ _ _ _ _ 22 _ _ _; refine Rch.blk' (Rn_mono mt _ _) bl_L_at_22 (i_iload_n rfl (t_goto 27 rfl ?_)))
        | (show Rch _ _ _ _ _ 26 _ _ _; refine Rch.blk' (Rn_mono mt _ _) bl_L_at_26 (i_iload_n rfl (t_none ?_)))
        | (show Rch _ _ _ _ _ 27 _ _ _; refine Rch.blk' (Rn_mono mt _ _) bl_L_at_27 (i_istore2 trivial (i_iinc3 trivial k_1 (t_goto 4 rfl ?_))))
        | (show Rch _ _ _ _ _ 34 _ _ _; refine Rch.blk' (Rn_mono mt _ _) bl_L_at_34 (i_iload_n rfl (t_iret ?_))))
    · obtain rfl : k = nn G := by omega
      have hend : Q (some (ai (I f))) h := by
        rcases hf with ⟨a, b⟩ | ⟨a, b, c⟩
        · subst a; exact h0 (ons_no b)
        · have c36 : q < 36 := by omega
          have e := ons_is hO a b c c36
          rw [← e]; exact h1 (by omega) (by omega) (by rw [e]; exact c)
      refine Rch.blk' (Rn_mono mt _ _) bl_L_at_4 (i_iload_n rfl (i_aload_n rfl (i_bipush k_20 (i_iald (n := 64) rfl (by first | omega | (simp (disch := omega) only [e_n]; omega)) (by first | omega | (simp (disch := omega) only [e_n]; omega)) (by first | omega | (simp (disch := omega) only [e_n]; omega)) (t_ic_ge 34 12 rfl rfl (by first | with_reducible exact hI_R | with_reducible exact lcm_R | with_reducible exact band_R | with_reducible exact bor_R | with_reducible exact bshr_R | with_reducible exact bshl_R | omega | (simp (disch := omega) only [e_n]; omega)) (by first | with_reducible exact hI_R | with_reducible exact lcm_R | with_reducible exact band_R | with_reducible exact bor_R | with_reducible exact bshr_R | with_reducible exact bshl_R | omega | (simp (disch := omega) only [e_n]; omega)) (fun hc => ?_) (fun hc => ?_)))))) <;> (try (simp (disch := omega) only [e_n] at hc ⊢)) <;> (first | (exfalso; omega) | skip)
      repeat' (first
        | exact hend
        | (show Rch _ _ _ _ _ 0 _ _ _; refine Rch.blk' (Rn_mono mt _ _) bl_L_at_0 (i_iconst k_m1 (i_istore2 trivial (i_iconst k_0 (i_istore3 trivial (t_none ?_))))))
        | (show Rch _ _ _ _ _ 12 _ _ _; refine Rch.blk' (Rn_mono mt _ _) bl_L_at_12 (i_aload_n rfl (i_bipush k_10 (i_iload_n rfl (i_iadd (i_iald (n := 64) rfl (by omega) (by omega) (by omega) (i_iload_n rfl (t_ic_ne 26 22 rfl rfl (by first | with_reducible exact hI_R | with_reducible exact lcm_R | with_reducible exact band_R | with_reducible exact bor_R | with_reducible exact bshr_R | with_reducible exact bshl_R | omega) (by first | with_reducible exact hI_R | with_reducible exact lcm_R | with_reducible exact band_R | with_reducible exact bor_R | with_reducible exact bshr_R | with_reducible exact bshl_R | omega) (fun hc => ?_) (fun hc => ?_)))))))) <;> (first | (exfalso; omega) | skip))
        | (show Rch _ _ _ _ _ 22 _ _ _; refine Rch.blk' (Rn_mono mt _ _) bl_L_at_22 (i_iload_n rfl (t_goto 27 rfl ?_)))
        | (show Rch _ _ _ _ _ 26 _ _ _; refine Rch.blk' (Rn_mono mt _ _) bl_L_at_26 (i_iload_n rfl (t_none ?_)))
        | (show Rch _ _ _ _ _ 27 _ _ _; refine Rch.blk' (Rn_mono mt _ _) bl_L_at_27 (i_istore2 trivial (i_iinc3 trivial k_1 (t_goto 4 rfl ?_))))
        | (show Rch _ _ _ _ _ 34 _ _ _; refine Rch.blk' (Rn_mono mt _ _) bl_L_at_34 (i_iload_n rfl (t_iret ?_))))
  repeat' (first
    | exact key 0 (by omega) (by omega) _ (Or.inl ⟨rfl, fun o _ _ => by omega⟩)
    | (show Rch _ _ _ _ _ 0 _ _ _; refine Rch.blk' (Rn_mono mt _ _) bl_L_at_0 (i_iconst k_m1 (i_istore2 trivial (i_iconst k_0 (i_istore3 trivial (t_none ?_))))))
    | (show Rch _ _ _ _ _ 12 _ _ _; refine Rch.blk' (Rn_mono mt _ _) bl_L_at_12 (i_aload_n rfl (i_bipush k_10 (i_iload_n rfl (i_iadd (i_iald (n := 64) rfl (by omega) (by omega) (by omega) (i_iload_n rfl (t_ic_ne 26 22 rfl rfl (by first | with_reducible exact hI_R | with_reducible exact lcm_R | with_reducible exact band_R | with_reducible exact bor_R | with_reducible exact bshr_R | with_reducible exact bshl_R | omega) (by first | with_reducible exact hI_R | with_reducible exact lcm_R | with_reducible exact band_R | with_reducible exact bor_R | with_reducible exact bshr_R | with_reducible exact bshl_R | omega) (fun hc => ?_) (fun hc => ?_)))))))) <;> (first | (exfalso; omega) | skip))
    | (show Rch _ _ _ _ _ 22 _ _ _; refine Rch.blk' (Rn_mono mt _ _) bl_L_at_22 (i_iload_n rfl (t_goto 27 rfl ?_)))
    | (show Rch _ _ _ _ _ 26 _ _ _; refine Rch.blk' (Rn_mono mt _ _) bl_L_at_26 (i_iload_n rfl (t_none ?_)))
    | (show Rch _ _ _ _ _ 27 _ _ _; refine Rch.blk' (Rn_mono mt _ _) bl_L_at_27 (i_istore2 trivial (i_iinc3 trivial k_1 (t_goto 4 rfl ?_))))
    | (show Rch _ _ _ _ _ 34 _ _ _; refine Rch.blk' (Rn_mono mt _ _) bl_L_at_34 (i_iload_n rfl (t_iret ?_))))
theorem c_L_on {q r c : Int} (q0 : 0 ≤ q) (q1 : q < 36) (hr : -6 ≤ r ∧ r ≤ 6) (hc : -6 ≤ c ∧ c ≤ 6) (h1 : 0 ≤ sqO q r c → sqO q r c < 36 → Q (some (ai (I (sqO q r c)))) h) (h0 : sqO q r c = -4 → Q (some (ai (I (-9)))) h) : Rn mt L (d + 1) 79 [ai (I q), ai (I r), ai (I c)] h Q := by
  refine Rn.intro iL_on rfl rfl ?_
  show Rch bL_on _ _ _ _ 0 [some (ai (I q)), some (ai (I r)), some (ai (I c)), none, none] [] _
  have k1 : 0 ≤ sqO q r c → sqO q r c < 36 → ∀ v, v = sqO q r c → Q (some (ai (I v))) h := fun a b v e => by rw [e]; exact h1 a b
  clear h1
  unfold sqO at k1 h0
  repeat' (first
    | exact k1 (by omega) (by omega) _ (by omega)
    | exact h0 (by omega)
    | (show Rch _ _ _ _ _ 0 _ _ _; refine Rch.blk' (Rn_mono mt _ _) bl_L_on_0 (i_iload_n rfl (i_bipush k_6 (i_idiv (by omega) (by omega) (by omega) (by omega) (i_iload_n rfl (i_iadd (i_istore3 trivial (i_iload_n rfl (i_bipush k_6 (i_irem (by omega) (by omega) (by omega) (by omega) (i_iload_n rfl (i_iadd (i_istore4 trivial (i_iload_n rfl (t_if_lt 35 19 rfl rfl (by first | with_reducible exact hI_R | with_reducible exact lcm_R | with_reducible exact band_R | with_reducible exact bor_R | with_reducible exact bshr_R | with_reducible exact bshl_R | omega) (fun hc => ?_) (fun hc => ?_))))))))))))))) <;> (first | (exfalso; omega) | skip))
    | (show Rch _ _ _ _ _ 19 _ _ _; refine Rch.blk' (Rn_mono mt _ _) bl_L_on_19 (i_iload_n rfl (i_iconst k_5 (t_ic_gt 35 24 rfl rfl (by first | with_reducible exact hI_R | with_reducible exact lcm_R | with_reducible exact band_R | with_reducible exact bor_R | with_reducible exact bshr_R | with_reducible exact bshl_R | omega) (by first | with_reducible exact hI_R | with_reducible exact lcm_R | with_reducible exact band_R | with_reducible exact bor_R | with_reducible exact bshr_R | with_reducible exact bshl_R | omega) (fun hc => ?_) (fun hc => ?_)))) <;> (first | (exfalso; omega) | skip))
    | (show Rch _ _ _ _ _ 24 _ _ _; refine Rch.blk' (Rn_mono mt _ _) bl_L_on_24 (i_iload rfl (t_if_lt 35 29 rfl rfl (by first | with_reducible exact hI_R | with_reducible exact lcm_R | with_reducible exact band_R | with_reducible exact bor_R | with_reducible exact bshr_R | with_reducible exact bshl_R | omega) (fun hc => ?_) (fun hc => ?_))) <;> (first | (exfalso; omega) | skip))
    | (show Rch _ _ _ _ _ 29 _ _ _; refine Rch.blk' (Rn_mono mt _ _) bl_L_on_29 (i_iload rfl (i_iconst k_5 (t_ic_le 40 35 rfl rfl (by first | with_reducible exact hI_R | with_reducible exact lcm_R | with_reducible exact band_R | with_reducible exact bor_R | with_reducible exact bshr_R | with_reducible exact bshl_R | omega) (by first | with_reducible exact hI_R | with_reducible exact lcm_R | with_reducible exact band_R | with_reducible exact bor_R | with_reducible exact bshr_R | with_reducible exact bshl_R | omega) (fun hc => ?_) (fun hc => ?_)))) <;> (first | (exfalso; omega) | skip))
    | (show Rch _ _ _ _ _ 35 _ _ _; refine Rch.blk' (Rn_mono mt _ _) bl_L_on_35 (i_bipush k_m9 (t_goto 47 rfl ?_)))
    | (show Rch _ _ _ _ _ 40 _ _ _; refine Rch.blk' (Rn_mono mt _ _) bl_L_on_40 (i_bipush k_6 (i_iload_n rfl (i_imul (i_iload rfl (i_iadd (t_none ?_)))))))
    | (show Rch _ _ _ _ _ 47 _ _ _; refine Rch.blk' (Rn_mono mt _ _) bl_L_on_47 (t_iret ?_)))
theorem c_L_what (hG : RV h G) (hO : OKB G) {q s : Int} (hq : (0 ≤ q ∧ q < 36) ∨ q = -9) (hs : s = 0 ∨ s = 1) (h3 : q = -9 → Q (some (ai (I 3))) h) (h0 : 0 ≤ q → ons G q = -4 → Q (some (ai (I 0))) h) (h1 : 0 ≤ q → 0 ≤ ons G q → ons G q < nn G → sd G (ons G q) = s → Q (some (ai (I 1))) h) (h2 : 0 ≤ q → 0 ≤ ons G q → ons G q < nn G → sd G (ons G q) = 1 - s → Q (some (ai (I 2))) h) : Rn mt L (d + 2) 80 [ar 12 0, ai (I q), ai (I s)] h Q := by
  refine Rn.intro iL_what rfl rfl ?_
  show Rch bL_what _ _ _ _ 0 [some (ar 12 0), some (ai (I q)), some (ai (I s)), none] [] _
  have e_x := @RV.x _ _ hG
  have g_n := hO.n
  have g_o := hO.pc (ons G q)
  repeat' (first
    | exact h3 (by omega)
    | exact h0 (by omega) (by omega)
    | exact h1 (by omega) (by omega) (by omega) (by omega)
    | exact h2 (by omega) (by omega) (by omega) (by omega)
    | (show Rn _ _ _ 78 _ _ _; refine c_L_at (by assumption) (by assumption) (by omega) (fun _ _ _ => ?_) (fun _ => ?_))
    | (show Rch _ _ _ _ _ 0 _ _ _; refine Rch.blk' (Rn_mono mt _ _) bl_L_what_0 (i_iload_n rfl (t_if_ge 8 4 rfl rfl (by first | with_reducible exact hI_R | with_reducible exact lcm_R | with_reducible exact band_R | with_reducible exact bor_R | with_reducible exact bshr_R | with_reducible exact bshl_R | omega | (simp (disch := omega) only [e_x]; omega)) (fun hc => ?_) (fun hc => ?_))) <;> (first | (exfalso; omega) | skip))
    | (show Rch _ _ _ _ _ 4 _ _ _; refine Rch.blk' (Rn_mono mt _ _) bl_L_what_4 (i_iconst k_m1 (t_goto 13 rfl ?_)))
    | (show Rch _ _ _ _ _ 8 _ _ _; refine Rch.blk' (Rn_mono mt _ _) bl_L_what_8 (i_aload_n rfl (i_iload_n rfl (t_cs2 (Rn_mono mt _ _) 13 rfl (Nat.le_of_ble_eq_true rfl) ?_))))
    | (show Rch _ _ _ _ _ 13 _ _ _; refine Rch.blk' (Rn_mono mt _ _) bl_L_what_13 (i_istore3 trivial (i_iload_n rfl (t_if_ge 22 18 rfl rfl (by first | with_reducible exact hI_R | with_reducible exact lcm_R | with_reducible exact band_R | with_reducible exact bor_R | with_reducible exact bshr_R | with_reducible exact bshl_R | omega | (simp (disch := omega) only [e_x]; omega)) (fun hc => ?_) (fun hc => ?_)))) <;> (first | (exfalso; omega) | skip))
    | (show Rch _ _ _ _ _ 18 _ _ _; refine Rch.blk' (Rn_mono mt _ _) bl_L_what_18 (i_iconst k_3 (t_goto 45 rfl ?_)))
    | (show Rch _ _ _ _ _ 22 _ _ _; refine Rch.blk' (Rn_mono mt _ _) bl_L_what_22 (i_iload_n rfl (t_if_ge 30 26 rfl rfl (by first | with_reducible exact hI_R | with_reducible exact lcm_R | with_reducible exact band_R | with_reducible exact bor_R | with_reducible exact bshr_R | with_reducible exact bshl_R | omega | (simp (disch := omega) only [e_x]; omega)) (fun hc => ?_) (fun hc => ?_))) <;> (first | (exfalso; omega) | skip))
    | (show Rch _ _ _ _ _ 26 _ _ _; refine Rch.blk' (Rn_mono mt _ _) bl_L_what_26 (i_iconst k_0 (t_goto 45 rfl ?_)))
    | (show Rch _ _ _ _ _ 30 _ _ _; refine Rch.blk' (Rn_mono mt _ _) bl_L_what_30 (i_aload_n rfl (i_iload_n rfl (i_iald (n := 64) rfl (by first | omega | (simp (disch := omega) only [e_x]; omega)) (by first | omega | (simp (disch := omega) only [e_x]; omega)) (by first | omega | (simp (disch := omega) only [e_x]; omega)) (i_bipush k_100 (i_idiv (by first | omega | (simp (disch := omega) only [e_x]; omega)) (by first | omega | (simp (disch := omega) only [e_x]; omega)) (by first | omega | (simp (disch := omega) only [e_x]; omega)) (by first | omega | (simp (disch := omega) only [e_x]; omega)) (i_iload_n rfl (t_ic_ne 44 40 rfl rfl (by first | with_reducible exact hI_R | with_reducible exact lcm_R | with_reducible exact band_R | with_reducible exact bor_R | with_reducible exact bshr_R | with_reducible exact bshl_R | omega | (simp (disch := omega) only [e_x]; omega)) (by first | with_reducible exact hI_R | with_reducible exact lcm_R | with_reducible exact band_R | with_reducible exact bor_R | with_reducible exact bshr_R | with_reducible exact bshl_R | omega | (simp (disch := omega) only [e_x]; omega)) (fun hc => ?_) (fun hc => ?_)))))))) <;> (try (simp (disch := omega) only [e_x] at hc ⊢)) <;> (first | (exfalso; omega) | skip))
    | (show Rch _ _ _ _ _ 40 _ _ _; refine Rch.blk' (Rn_mono mt _ _) bl_L_what_40 (i_iconst k_1 (t_goto 45 rfl ?_)))
    | (show Rch _ _ _ _ _ 44 _ _ _; refine Rch.blk' (Rn_mono mt _ _) bl_L_what_44 (i_iconst k_2 (t_none ?_)))
    | (show Rch _ _ _ _ _ 45 _ _ _; refine Rch.blk' (Rn_mono mt _ _) bl_L_what_45 (t_iret ?_)))
theorem c_L_far {x y : Int} (h0 : 0 ≤ x) (h1 : x < 36) (h2 : 0 ≤ y) (h3 : y < 36) (hq : 0 ≤ fr x y → fr x y ≤ 6 → Q (some (ai (I (fr x y)))) h) : Rn mt L (d + 1) 81 [ai (I x), ai (I y)] h Q := by
  refine Rn.intro iL_far rfl rfl ?_
  show Rch bL_far _ _ _ _ 0 [some (ai (I x)), some (ai (I y)), none, none] [] _
  have hq := hq (by unfold fr ab; omega) (by unfold fr ab; omega)
  unfold fr ab at hq
  repeat' (first
    | (refine Eq.mp ?_ hq; congr 4; omega)
    | (show Rch _ _ _ _ _ 0 _ _ _; refine Rch.blk' (Rn_mono mt _ _) bl_L_far_0 (i_iload_n rfl (i_bipush k_6 (i_idiv (by omega) (by omega) (by omega) (by omega) (i_iload_n rfl (i_bipush k_6 (i_idiv (by omega) (by omega) (by omega) (by omega) (t_ic_ge 23 11 rfl rfl (by first | with_reducible exact hI_R | with_reducible exact lcm_R | with_reducible exact band_R | with_reducible exact bor_R | with_reducible exact bshr_R | with_reducible exact bshl_R | omega) (by first | with_reducible exact hI_R | with_reducible exact lcm_R | with_reducible exact band_R | with_reducible exact bor_R | with_reducible exact bshr_R | with_reducible exact bshl_R | omega) (fun hc => ?_) (fun hc => ?_)))))))) <;> (first | (exfalso; omega) | skip))
    | (show Rch _ _ _ _ _ 11 _ _ _; refine Rch.blk' (Rn_mono mt _ _) bl_L_far_11 (i_iload_n rfl (i_bipush k_6 (i_idiv (by omega) (by omega) (by omega) (by omega) (i_iload_n rfl (i_bipush k_6 (i_idiv (by omega) (by omega) (by omega) (by omega) (i_isub (t_goto 32 rfl ?_)))))))))
    | (show Rch _ _ _ _ _ 23 _ _ _; refine Rch.blk' (Rn_mono mt _ _) bl_L_far_23 (i_iload_n rfl (i_bipush k_6 (i_idiv (by omega) (by omega) (by omega) (by omega) (i_iload_n rfl (i_bipush k_6 (i_idiv (by omega) (by omega) (by omega) (by omega) (i_isub (t_none ?_)))))))))
    | (show Rch _ _ _ _ _ 32 _ _ _; refine Rch.blk' (Rn_mono mt _ _) bl_L_far_32 (i_istore2 trivial (i_iload_n rfl (i_bipush k_6 (i_irem (by omega) (by omega) (by omega) (by omega) (i_iload_n rfl (i_bipush k_6 (i_irem (by omega) (by omega) (by omega) (by omega) (t_ic_ge 56 44 rfl rfl (by first | with_reducible exact hI_R | with_reducible exact lcm_R | with_reducible exact band_R | with_reducible exact bor_R | with_reducible exact bshr_R | with_reducible exact bshl_R | omega) (by first | with_reducible exact hI_R | with_reducible exact lcm_R | with_reducible exact band_R | with_reducible exact bor_R | with_reducible exact bshr_R | with_reducible exact bshl_R | omega) (fun hc => ?_) (fun hc => ?_))))))))) <;> (first | (exfalso; omega) | skip))
    | (show Rch _ _ _ _ _ 44 _ _ _; refine Rch.blk' (Rn_mono mt _ _) bl_L_far_44 (i_iload_n rfl (i_bipush k_6 (i_irem (by omega) (by omega) (by omega) (by omega) (i_iload_n rfl (i_bipush k_6 (i_irem (by omega) (by omega) (by omega) (by omega) (i_isub (t_goto 65 rfl ?_)))))))))
    | (show Rch _ _ _ _ _ 56 _ _ _; refine Rch.blk' (Rn_mono mt _ _) bl_L_far_56 (i_iload_n rfl (i_bipush k_6 (i_irem (by omega) (by omega) (by omega) (by omega) (i_iload_n rfl (i_bipush k_6 (i_irem (by omega) (by omega) (by omega) (by omega) (i_isub (t_none ?_)))))))))
    | (show Rch _ _ _ _ _ 65 _ _ _; refine Rch.blk' (Rn_mono mt _ _) bl_L_far_65 (i_istore3 trivial (i_iload_n rfl (i_iload_n rfl (t_ic_ge 75 71 rfl rfl (by first | with_reducible exact hI_R | with_reducible exact lcm_R | with_reducible exact band_R | with_reducible exact bor_R | with_reducible exact bshr_R | with_reducible exact bshl_R | omega) (by first | with_reducible exact hI_R | with_reducible exact lcm_R | with_reducible exact band_R | with_reducible exact bor_R | with_reducible exact bshr_R | with_reducible exact bshl_R | omega) (fun hc => ?_) (fun hc => ?_))))) <;> (first | (exfalso; omega) | skip))
    | (show Rch _ _ _ _ _ 71 _ _ _; refine Rch.blk' (Rn_mono mt _ _) bl_L_far_71 (i_iload_n rfl (t_goto 76 rfl ?_)))
    | (show Rch _ _ _ _ _ 75 _ _ _; refine Rch.blk' (Rn_mono mt _ _) bl_L_far_75 (i_iload_n rfl (t_none ?_)))
    | (show Rch _ _ _ _ _ 76 _ _ _; refine Rch.blk' (Rn_mono mt _ _) bl_L_far_76 (t_iret ?_)))
theorem c_L_ears {k f s : Int} (k0 : 0 ≤ k) (k1 : k < 8) (f0 : 0 ≤ f) (f1 : f < 10) (hs : s = 0 ∨ s = 1) (hq : 0 ≤ ea k f → ea k f ≤ 20 → Q (some (ai (I (ea k f)))) h) : Rn mt L (d + 1) 84 [ai (I (100 * s + 10 * f + k))] h Q := by
  refine Rn.intro iL_ears rfl rfl ?_
  show Rch bL_ears _ _ _ _ 0 [some (ai (I (100 * s + 10 * f + k))), none, none] [] _
  have hq := hq (by unfold ea; omega) (by unfold ea; omega)
  unfold ea at hq
  repeat' (first
    | (refine Eq.mp ?_ hq; congr 4; omega)
    | (show Rch _ _ _ _ _ 0 _ _ _; refine Rch.blk' (Rn_mono mt _ _) bl_L_ears_0 (i_iload_n rfl (i_bipush k_10 (i_irem (by omega) (by omega) (by omega) (by omega) (i_istore1 trivial (i_iload_n rfl (i_bipush k_10 (i_idiv (by omega) (by omega) (by omega) (by omega) (i_bipush k_10 (i_irem (by omega) (by omega) (by omega) (by omega) (i_istore2 trivial (i_iload_n rfl (t_if_ne 21 17 rfl rfl (by first | with_reducible exact hI_R | with_reducible exact lcm_R | with_reducible exact band_R | with_reducible exact bor_R | with_reducible exact bshr_R | with_reducible exact bshl_R | omega) (fun hc => ?_) (fun hc => ?_))))))))))))) <;> (first | (exfalso; omega) | skip))
    | (show Rch _ _ _ _ _ 17 _ _ _; refine Rch.blk' (Rn_mono mt _ _) bl_L_ears_17 (i_iconst k_2 (t_goto 70 rfl ?_)))
    | (show Rch _ _ _ _ _ 21 _ _ _; refine Rch.blk' (Rn_mono mt _ _) bl_L_ears_21 (i_iload_n rfl (i_iconst k_1 (t_ic_ne 30 26 rfl rfl (by first | with_reducible exact hI_R | with_reducible exact lcm_R | with_reducible exact band_R | with_reducible exact bor_R | with_reducible exact bshr_R | with_reducible exact bshl_R | omega) (by first | with_reducible exact hI_R | with_reducible exact lcm_R | with_reducible exact band_R | with_reducible exact bor_R | with_reducible exact bshr_R | with_reducible exact bshl_R | omega) (fun hc => ?_) (fun hc => ?_)))) <;> (first | (exfalso; omega) | skip))
    | (show Rch _ _ _ _ _ 26 _ _ _; refine Rch.blk' (Rn_mono mt _ _) bl_L_ears_26 (i_iconst k_3 (t_goto 70 rfl ?_)))
    | (show Rch _ _ _ _ _ 30 _ _ _; refine Rch.blk' (Rn_mono mt _ _) bl_L_ears_30 (i_iload_n rfl (i_iconst k_2 (t_ic_ne 39 35 rfl rfl (by first | with_reducible exact hI_R | with_reducible exact lcm_R | with_reducible exact band_R | with_reducible exact bor_R | with_reducible exact bshr_R | with_reducible exact bshl_R | omega) (by first | with_reducible exact hI_R | with_reducible exact lcm_R | with_reducible exact band_R | with_reducible exact bor_R | with_reducible exact bshr_R | with_reducible exact bshl_R | omega) (fun hc => ?_) (fun hc => ?_)))) <;> (first | (exfalso; omega) | skip))
    | (show Rch _ _ _ _ _ 35 _ _ _; refine Rch.blk' (Rn_mono mt _ _) bl_L_ears_35 (i_iload_n rfl (t_goto 70 rfl ?_)))
    | (show Rch _ _ _ _ _ 39 _ _ _; refine Rch.blk' (Rn_mono mt _ _) bl_L_ears_39 (i_iload_n rfl (i_iconst k_4 (t_ic_ne 50 44 rfl rfl (by first | with_reducible exact hI_R | with_reducible exact lcm_R | with_reducible exact band_R | with_reducible exact bor_R | with_reducible exact bshr_R | with_reducible exact bshl_R | omega) (by first | with_reducible exact hI_R | with_reducible exact lcm_R | with_reducible exact band_R | with_reducible exact bor_R | with_reducible exact bshr_R | with_reducible exact bshl_R | omega) (fun hc => ?_) (fun hc => ?_)))) <;> (first | (exfalso; omega) | skip))
    | (show Rch _ _ _ _ _ 44 _ _ _; refine Rch.blk' (Rn_mono mt _ _) bl_L_ears_44 (i_iload_n rfl (i_iconst k_3 (i_iadd (t_goto 70 rfl ?_)))))
    | (show Rch _ _ _ _ _ 50 _ _ _; refine Rch.blk' (Rn_mono mt _ _) bl_L_ears_50 (i_iload_n rfl (i_iconst k_5 (t_ic_ne 59 55 rfl rfl (by first | with_reducible exact hI_R | with_reducible exact lcm_R | with_reducible exact band_R | with_reducible exact bor_R | with_reducible exact bshr_R | with_reducible exact bshl_R | omega) (by first | with_reducible exact hI_R | with_reducible exact lcm_R | with_reducible exact band_R | with_reducible exact bor_R | with_reducible exact bshr_R | with_reducible exact bshl_R | omega) (fun hc => ?_) (fun hc => ?_)))) <;> (first | (exfalso; omega) | skip))
    | (show Rch _ _ _ _ _ 55 _ _ _; refine Rch.blk' (Rn_mono mt _ _) bl_L_ears_55 (i_iconst k_5 (t_goto 70 rfl ?_)))
    | (show Rch _ _ _ _ _ 59 _ _ _; refine Rch.blk' (Rn_mono mt _ _) bl_L_ears_59 (i_iload_n rfl (i_bipush k_6 (t_ic_ne 69 65 rfl rfl (by first | with_reducible exact hI_R | with_reducible exact lcm_R | with_reducible exact band_R | with_reducible exact bor_R | with_reducible exact bshr_R | with_reducible exact bshl_R | omega) (by first | with_reducible exact hI_R | with_reducible exact lcm_R | with_reducible exact band_R | with_reducible exact bor_R | with_reducible exact bshr_R | with_reducible exact bshl_R | omega) (fun hc => ?_) (fun hc => ?_)))) <;> (first | (exfalso; omega) | skip))
    | (show Rch _ _ _ _ _ 65 _ _ _; refine Rch.blk' (Rn_mono mt _ _) bl_L_ears_65 (i_iconst k_0 (t_goto 70 rfl ?_)))
    | (show Rch _ _ _ _ _ 69 _ _ _; refine Rch.blk' (Rn_mono mt _ _) bl_L_ears_69 (i_iconst k_4 (t_none ?_)))
    | (show Rch _ _ _ _ _ 70 _ _ _; refine Rch.blk' (Rn_mono mt _ _) bl_L_ears_70 (t_iret ?_)))
theorem c_L_hears (hG : RV h G) (hO : OKB G) {o p : Int} (o0 : 0 ≤ o) (o1 : o < nn G) (p0 : 0 ≤ p) (p1 : p < nn G) (hp : sq G p < 36) (h1 : (o = p ∨ HC G 0 p o) → Q (some (ai (I 1))) h) (h0 : ¬ (o = p ∨ HC G 0 p o) → Q (some (ai (I 0))) h) : Rn mt L (d + 2) 85 [ar 12 0, ai (I o), ai (I p)] h Q := by
  refine Rn.intro iL_hears rfl rfl ?_
  show Rch bL_hears _ _ _ _ 0 [some (ar 12 0), some (ai (I o)), some (ai (I p)), none] [] _
  have e_x := @RV.x _ _ hG
  have e_q := @RV.q _ _ hG
  have e_r := hG.r
  have g_n := hO.n
  have g_o := hO.pc o o0 o1
  have g_p := hO.pc p p0 p1
  have m_p : m4 (sq G p) = sq G p := m4_p hp
  have m_o := @m4_R (sq G o)
  have g_e : er G 0 o = ea (kd G o) (fg G o) := if_pos rfl
  have h1 : (o = p ∨ (sd G o = sd G p ∧ sq G o < 36 ∧ fr (sq G o) (sq G p) ≤ er G 0 o)) → Q (some (ai (I 1))) h := h1
  have h0 : ¬ (o = p ∨ (sd G o = sd G p ∧ sq G o < 36 ∧ fr (sq G o) (sq G p) ≤ er G 0 o)) → Q (some (ai (I 0))) h := h0
  by_cases ho : sq G o < 36
  · have m_o : m4 (sq G o) = sq G o := m4_p ho
    repeat' (first
      | exact h1 (by omega)
      | exact h0 (by omega)
      | (show Rn _ _ _ 81 _ _ _; refine c_L_far (by omega) (by omega) (by omega) (by omega) (fun _ _ => ?_))
      | (show Rn _ _ _ 84 _ _ _; refine c_L_ears (by omega) (by omega) (by omega) (by omega) (by omega) (fun _ _ => ?_))
      | (show Rch _ _ _ _ _ 0 _ _ _; refine Rch.blk' (Rn_mono mt _ _) bl_L_hears_0 (i_aload_n rfl (i_bipush k_10 (i_iload_n rfl (i_iadd (i_iald (n := 64) rfl (by first | omega | (simp (disch := omega) only [e_r, e_x, e_q, m_p, m_o]; omega)) (by first | omega | (simp (disch := omega) only [e_r, e_x, e_q, m_p, m_o]; omega)) (by first | omega | (simp (disch := omega) only [e_r, e_x, e_q, m_p, m_o]; omega)) (t_if_lt 37 9 rfl rfl (by first | with_reducible exact hI_R | with_reducible exact lcm_R | with_reducible exact band_R | with_reducible exact bor_R | with_reducible exact bshr_R | with_reducible exact bshl_R | omega | (simp (disch := omega) only [e_r, e_x, e_q, m_p, m_o]; omega)) (fun hc => ?_) (fun hc => ?_))))))) <;> (try (simp (disch := omega) only [e_r, e_x, e_q, m_p, m_o] at hc ⊢)) <;> (first | (exfalso; omega) | skip))
      | (show Rch _ _ _ _ _ 9 _ _ _; refine Rch.blk' (Rn_mono mt _ _) bl_L_hears_9 (i_aload_n rfl (i_bipush k_10 (i_iload_n rfl (i_iadd (i_iald (n := 64) rfl (by first | omega | (simp (disch := omega) only [e_r, e_x, e_q, m_p, m_o]; omega)) (by first | omega | (simp (disch := omega) only [e_r, e_x, e_q, m_p, m_o]; omega)) (by first | omega | (simp (disch := omega) only [e_r, e_x, e_q, m_p, m_o]; omega)) (t_if_lt 37 18 rfl rfl (by first | with_reducible exact hI_R | with_reducible exact lcm_R | with_reducible exact band_R | with_reducible exact bor_R | with_reducible exact bshr_R | with_reducible exact bshl_R | omega | (simp (disch := omega) only [e_r, e_x, e_q, m_p, m_o]; omega)) (fun hc => ?_) (fun hc => ?_))))))) <;> (try (simp (disch := omega) only [e_r, e_x, e_q, m_p, m_o] at hc ⊢)) <;> (first | (exfalso; omega) | skip))
      | (show Rch _ _ _ _ _ 18 _ _ _; refine Rch.blk' (Rn_mono mt _ _) bl_L_hears_18 (i_aload_n rfl (i_iload_n rfl (i_iald (n := 64) rfl (by first | omega | (simp (disch := omega) only [e_r, e_x, e_q, m_p, m_o]; omega)) (by first | omega | (simp (disch := omega) only [e_r, e_x, e_q, m_p, m_o]; omega)) (by first | omega | (simp (disch := omega) only [e_r, e_x, e_q, m_p, m_o]; omega)) (i_bipush k_100 (i_idiv (by first | omega | (simp (disch := omega) only [e_r, e_x, e_q, m_p, m_o]; omega)) (by first | omega | (simp (disch := omega) only [e_r, e_x, e_q, m_p, m_o]; omega)) (by first | omega | (simp (disch := omega) only [e_r, e_x, e_q, m_p, m_o]; omega)) (by first | omega | (simp (disch := omega) only [e_r, e_x, e_q, m_p, m_o]; omega)) (i_aload_n rfl (i_iload_n rfl (i_iald (n := 64) rfl (by first | omega | (simp (disch := omega) only [e_r, e_x, e_q, m_p, m_o]; omega)) (by first | omega | (simp (disch := omega) only [e_r, e_x, e_q, m_p, m_o]; omega)) (by first | omega | (simp (disch := omega) only [e_r, e_x, e_q, m_p, m_o]; omega)) (i_bipush k_100 (i_idiv (by first | omega | (simp (disch := omega) only [e_r, e_x, e_q, m_p, m_o]; omega)) (by first | omega | (simp (disch := omega) only [e_r, e_x, e_q, m_p, m_o]; omega)) (by first | omega | (simp (disch := omega) only [e_r, e_x, e_q, m_p, m_o]; omega)) (by first | omega | (simp (disch := omega) only [e_r, e_x, e_q, m_p, m_o]; omega)) (t_ic_ne 37 33 rfl rfl (by first | with_reducible exact hI_R | with_reducible exact lcm_R | with_reducible exact band_R | with_reducible exact bor_R | with_reducible exact bshr_R | with_reducible exact bshl_R | omega | (simp (disch := omega) only [e_r, e_x, e_q, m_p, m_o]; omega)) (by first | with_reducible exact hI_R | with_reducible exact lcm_R | with_reducible exact band_R | with_reducible exact bor_R | with_reducible exact bshr_R | with_reducible exact bshl_R | omega | (simp (disch := omega) only [e_r, e_x, e_q, m_p, m_o]; omega)) (fun hc => ?_) (fun hc => ?_)))))))))))) <;> (try (simp (disch := omega) only [e_r, e_x, e_q, m_p, m_o] at hc ⊢)) <;> (first | (exfalso; omega) | skip))
      | (show Rch _ _ _ _ _ 33 _ _ _; refine Rch.blk' (Rn_mono mt _ _) bl_L_hears_33 (i_iconst k_1 (t_goto 38 rfl ?_)))
      | (show Rch _ _ _ _ _ 37 _ _ _; refine Rch.blk' (Rn_mono mt _ _) bl_L_hears_37 (i_iconst k_0 (t_none ?_)))
      | (show Rch _ _ _ _ _ 38 _ _ _; refine Rch.blk' (Rn_mono mt _ _) bl_L_hears_38 (i_istore3 trivial (i_iload_n rfl (i_iload_n rfl (t_ic_eq 84 44 rfl rfl (by first | with_reducible exact hI_R | with_reducible exact lcm_R | with_reducible exact band_R | with_reducible exact bor_R | with_reducible exact bshr_R | with_reducible exact bshl_R | omega | (simp (disch := omega) only [e_r, e_x, e_q, m_p, m_o]; omega)) (by first | with_reducible exact hI_R | with_reducible exact lcm_R | with_reducible exact band_R | with_reducible exact bor_R | with_reducible exact bshr_R | with_reducible exact bshl_R | omega | (simp (disch := omega) only [e_r, e_x, e_q, m_p, m_o]; omega)) (fun hc => ?_) (fun hc => ?_))))) <;> (first | (exfalso; omega) | skip))
      | (show Rch _ _ _ _ _ 44 _ _ _; refine Rch.blk' (Rn_mono mt _ _) bl_L_hears_44 (i_iload_n rfl (t_if_eq 88 48 rfl rfl (by first | with_reducible exact hI_R | with_reducible exact lcm_R | with_reducible exact band_R | with_reducible exact bor_R | with_reducible exact bshr_R | with_reducible exact bshl_R | omega | (simp (disch := omega) only [e_r, e_x, e_q, m_p, m_o]; omega)) (fun hc => ?_) (fun hc => ?_))) <;> (first | (exfalso; omega) | skip))
      | (show Rch _ _ _ _ _ 48 _ _ _; refine Rch.blk' (Rn_mono mt _ _) bl_L_hears_48 (i_aload_n rfl (i_bipush k_10 (i_iload_n rfl (i_iadd (i_iald (n := 64) rfl (by first | omega | (simp (disch := omega) only [e_r, e_x, e_q, m_p, m_o]; omega)) (by first | omega | (simp (disch := omega) only [e_r, e_x, e_q, m_p, m_o]; omega)) (by first | omega | (simp (disch := omega) only [e_r, e_x, e_q, m_p, m_o]; omega)) (i_aload_n rfl (i_bipush k_10 (i_iload_n rfl (i_iadd (i_iald (n := 64) rfl (by first | omega | (simp (disch := omega) only [e_r, e_x, e_q, m_p, m_o]; omega)) (by first | omega | (simp (disch := omega) only [e_r, e_x, e_q, m_p, m_o]; omega)) (by first | omega | (simp (disch := omega) only [e_r, e_x, e_q, m_p, m_o]; omega)) (t_cs2 (Rn_mono mt _ _) 63 rfl (Nat.le_of_ble_eq_true rfl) ?_))))))))))) <;> (try (simp (disch := omega) only [e_r, e_x, e_q, m_p, m_o])))
      | (show Rch _ _ _ _ _ 63 _ _ _; refine Rch.blk' (Rn_mono mt _ _) bl_L_hears_63 (i_aload_n rfl (i_bipush k_25 (i_iald (n := 64) rfl (by first | omega | (simp (disch := omega) only [e_r, e_x, e_q, m_p, m_o]; omega)) (by first | omega | (simp (disch := omega) only [e_r, e_x, e_q, m_p, m_o]; omega)) (by first | omega | (simp (disch := omega) only [e_r, e_x, e_q, m_p, m_o]; omega)) (i_iconst k_1 (t_ic_ne 75 71 rfl rfl (by first | with_reducible exact hI_R | with_reducible exact lcm_R | with_reducible exact band_R | with_reducible exact bor_R | with_reducible exact bshr_R | with_reducible exact bshl_R | omega | (simp (disch := omega) only [e_r, e_x, e_q, m_p, m_o]; omega)) (by first | with_reducible exact hI_R | with_reducible exact lcm_R | with_reducible exact band_R | with_reducible exact bor_R | with_reducible exact bshr_R | with_reducible exact bshl_R | omega | (simp (disch := omega) only [e_r, e_x, e_q, m_p, m_o]; omega)) (fun hc => ?_) (fun hc => ?_)))))) <;> (try (simp (disch := omega) only [e_r, e_x, e_q, m_p, m_o] at hc ⊢)) <;> (first | (exfalso; omega) | skip))
      | (show Rch _ _ _ _ _ 71 _ _ _; refine Rch.blk' (Rn_mono mt _ _) bl_L_hears_71 (i_iconst k_1 (t_goto 81 rfl ?_)))
      | (show Rch _ _ _ _ _ 75 _ _ _; refine Rch.blk' (Rn_mono mt _ _) bl_L_hears_75 (i_aload_n rfl (i_iload_n rfl (i_iald (n := 64) rfl (by first | omega | (simp (disch := omega) only [e_r, e_x, e_q, m_p, m_o]; omega)) (by first | omega | (simp (disch := omega) only [e_r, e_x, e_q, m_p, m_o]; omega)) (by first | omega | (simp (disch := omega) only [e_r, e_x, e_q, m_p, m_o]; omega)) (t_cs1 (Rn_mono mt _ _) 81 rfl (Nat.le_of_ble_eq_true rfl) ?_)))) <;> (try (simp (disch := omega) only [e_r, e_x, e_q, m_p, m_o])))
      | (show Rch _ _ _ _ _ 81 _ _ _; refine Rch.blk' (Rn_mono mt _ _) bl_L_hears_81 (t_ic_gt 88 84 rfl rfl (by first | with_reducible exact hI_R | with_reducible exact lcm_R | with_reducible exact band_R | with_reducible exact bor_R | with_reducible exact bshr_R | with_reducible exact bshl_R | omega | (simp (disch := omega) only [e_r, e_x, e_q, m_p, m_o]; omega)) (by first | with_reducible exact hI_R | with_reducible exact lcm_R | with_reducible exact band_R | with_reducible exact bor_R | with_reducible exact bshr_R | with_reducible exact bshl_R | omega | (simp (disch := omega) only [e_r, e_x, e_q, m_p, m_o]; omega)) (fun hc => ?_) (fun hc => ?_)) <;> (first | (exfalso; omega) | skip))
      | (show Rch _ _ _ _ _ 84 _ _ _; refine Rch.blk' (Rn_mono mt _ _) bl_L_hears_84 (i_iconst k_1 (t_goto 89 rfl ?_)))
      | (show Rch _ _ _ _ _ 88 _ _ _; refine Rch.blk' (Rn_mono mt _ _) bl_L_hears_88 (i_iconst k_0 (t_none ?_)))
      | (show Rch _ _ _ _ _ 89 _ _ _; refine Rch.blk' (Rn_mono mt _ _) bl_L_hears_89 (t_zret (by omega) ?_)))
  · have m_o : m4 (sq G o) = -4 := m4_n (by omega)
    repeat' (first
      | exact h1 (by omega)
      | exact h0 (by omega)
      | (show Rn _ _ _ 81 _ _ _; refine c_L_far (by omega) (by omega) (by omega) (by omega) (fun _ _ => ?_))
      | (show Rn _ _ _ 84 _ _ _; refine c_L_ears (by omega) (by omega) (by omega) (by omega) (by omega) (fun _ _ => ?_))
      | (show Rch _ _ _ _ _ 0 _ _ _; refine Rch.blk' (Rn_mono mt _ _) bl_L_hears_0 (i_aload_n rfl (i_bipush k_10 (i_iload_n rfl (i_iadd (i_iald (n := 64) rfl (by first | omega | (simp (disch := omega) only [e_r, e_x, e_q, m_p, m_o]; omega)) (by first | omega | (simp (disch := omega) only [e_r, e_x, e_q, m_p, m_o]; omega)) (by first | omega | (simp (disch := omega) only [e_r, e_x, e_q, m_p, m_o]; omega)) (t_if_lt 37 9 rfl rfl (by first | with_reducible exact hI_R | with_reducible exact lcm_R | with_reducible exact band_R | with_reducible exact bor_R | with_reducible exact bshr_R | with_reducible exact bshl_R | omega | (simp (disch := omega) only [e_r, e_x, e_q, m_p, m_o]; omega)) (fun hc => ?_) (fun hc => ?_))))))) <;> (try (simp (disch := omega) only [e_r, e_x, e_q, m_p, m_o] at hc ⊢)) <;> (first | (exfalso; omega) | skip))
      | (show Rch _ _ _ _ _ 9 _ _ _; refine Rch.blk' (Rn_mono mt _ _) bl_L_hears_9 (i_aload_n rfl (i_bipush k_10 (i_iload_n rfl (i_iadd (i_iald (n := 64) rfl (by first | omega | (simp (disch := omega) only [e_r, e_x, e_q, m_p, m_o]; omega)) (by first | omega | (simp (disch := omega) only [e_r, e_x, e_q, m_p, m_o]; omega)) (by first | omega | (simp (disch := omega) only [e_r, e_x, e_q, m_p, m_o]; omega)) (t_if_lt 37 18 rfl rfl (by first | with_reducible exact hI_R | with_reducible exact lcm_R | with_reducible exact band_R | with_reducible exact bor_R | with_reducible exact bshr_R | with_reducible exact bshl_R | omega | (simp (disch := omega) only [e_r, e_x, e_q, m_p, m_o]; omega)) (fun hc => ?_) (fun hc => ?_))))))) <;> (try (simp (disch := omega) only [e_r, e_x, e_q, m_p, m_o] at hc ⊢)) <;> (first | (exfalso; omega) | skip))
      | (show Rch _ _ _ _ _ 18 _ _ _; refine Rch.blk' (Rn_mono mt _ _) bl_L_hears_18 (i_aload_n rfl (i_iload_n rfl (i_iald (n := 64) rfl (by first | omega | (simp (disch := omega) only [e_r, e_x, e_q, m_p, m_o]; omega)) (by first | omega | (simp (disch := omega) only [e_r, e_x, e_q, m_p, m_o]; omega)) (by first | omega | (simp (disch := omega) only [e_r, e_x, e_q, m_p, m_o]; omega)) (i_bipush k_100 (i_idiv (by first | omega | (simp (disch := omega) only [e_r, e_x, e_q, m_p, m_o]; omega)) (by first | omega | (simp (disch := omega) only [e_r, e_x, e_q, m_p, m_o]; omega)) (by first | omega | (simp (disch := omega) only [e_r, e_x, e_q, m_p, m_o]; omega)) (by first | omega | (simp (disch := omega) only [e_r, e_x, e_q, m_p, m_o]; omega)) (i_aload_n rfl (i_iload_n rfl (i_iald (n := 64) rfl (by first | omega | (simp (disch := omega) only [e_r, e_x, e_q, m_p, m_o]; omega)) (by first | omega | (simp (disch := omega) only [e_r, e_x, e_q, m_p, m_o]; omega)) (by first | omega | (simp (disch := omega) only [e_r, e_x, e_q, m_p, m_o]; omega)) (i_bipush k_100 (i_idiv (by first | omega | (simp (disch := omega) only [e_r, e_x, e_q, m_p, m_o]; omega)) (by first | omega | (simp (disch := omega) only [e_r, e_x, e_q, m_p, m_o]; omega)) (by first | omega | (simp (disch := omega) only [e_r, e_x, e_q, m_p, m_o]; omega)) (by first | omega | (simp (disch := omega) only [e_r, e_x, e_q, m_p, m_o]; omega)) (t_ic_ne 37 33 rfl rfl (by first | with_reducible exact hI_R | with_reducible exact lcm_R | with_reducible exact band_R | with_reducible exact bor_R | with_reducible exact bshr_R | with_reducible exact bshl_R | omega | (simp (disch := omega) only [e_r, e_x, e_q, m_p, m_o]; omega)) (by first | with_reducible exact hI_R | with_reducible exact lcm_R | with_reducible exact band_R | with_reducible exact bor_R | with_reducible exact bshr_R | with_reducible exact bshl_R | omega | (simp (disch := omega) only [e_r, e_x, e_q, m_p, m_o]; omega)) (fun hc => ?_) (fun hc => ?_)))))))))))) <;> (try (simp (disch := omega) only [e_r, e_x, e_q, m_p, m_o] at hc ⊢)) <;> (first | (exfalso; omega) | skip))
      | (show Rch _ _ _ _ _ 33 _ _ _; refine Rch.blk' (Rn_mono mt _ _) bl_L_hears_33 (i_iconst k_1 (t_goto 38 rfl ?_)))
      | (show Rch _ _ _ _ _ 37 _ _ _; refine Rch.blk' (Rn_mono mt _ _) bl_L_hears_37 (i_iconst k_0 (t_none ?_)))
      | (show Rch _ _ _ _ _ 38 _ _ _; refine Rch.blk' (Rn_mono mt _ _) bl_L_hears_38 (i_istore3 trivial (i_iload_n rfl (i_iload_n rfl (t_ic_eq 84 44 rfl rfl (by first | with_reducible exact hI_R | with_reducible exact lcm_R | with_reducible exact band_R | with_reducible exact bor_R | with_reducible exact bshr_R | with_reducible exact bshl_R | omega | (simp (disch := omega) only [e_r, e_x, e_q, m_p, m_o]; omega)) (by first | with_reducible exact hI_R | with_reducible exact lcm_R | with_reducible exact band_R | with_reducible exact bor_R | with_reducible exact bshr_R | with_reducible exact bshl_R | omega | (simp (disch := omega) only [e_r, e_x, e_q, m_p, m_o]; omega)) (fun hc => ?_) (fun hc => ?_))))) <;> (first | (exfalso; omega) | skip))
      | (show Rch _ _ _ _ _ 44 _ _ _; refine Rch.blk' (Rn_mono mt _ _) bl_L_hears_44 (i_iload_n rfl (t_if_eq 88 48 rfl rfl (by first | with_reducible exact hI_R | with_reducible exact lcm_R | with_reducible exact band_R | with_reducible exact bor_R | with_reducible exact bshr_R | with_reducible exact bshl_R | omega | (simp (disch := omega) only [e_r, e_x, e_q, m_p, m_o]; omega)) (fun hc => ?_) (fun hc => ?_))) <;> (first | (exfalso; omega) | skip))
      | (show Rch _ _ _ _ _ 48 _ _ _; refine Rch.blk' (Rn_mono mt _ _) bl_L_hears_48 (i_aload_n rfl (i_bipush k_10 (i_iload_n rfl (i_iadd (i_iald (n := 64) rfl (by first | omega | (simp (disch := omega) only [e_r, e_x, e_q, m_p, m_o]; omega)) (by first | omega | (simp (disch := omega) only [e_r, e_x, e_q, m_p, m_o]; omega)) (by first | omega | (simp (disch := omega) only [e_r, e_x, e_q, m_p, m_o]; omega)) (i_aload_n rfl (i_bipush k_10 (i_iload_n rfl (i_iadd (i_iald (n := 64) rfl (by first | omega | (simp (disch := omega) only [e_r, e_x, e_q, m_p, m_o]; omega)) (by first | omega | (simp (disch := omega) only [e_r, e_x, e_q, m_p, m_o]; omega)) (by first | omega | (simp (disch := omega) only [e_r, e_x, e_q, m_p, m_o]; omega)) (t_cs2 (Rn_mono mt _ _) 63 rfl (Nat.le_of_ble_eq_true rfl) ?_))))))))))) <;> (try (simp (disch := omega) only [e_r, e_x, e_q, m_p, m_o])))
      | (show Rch _ _ _ _ _ 63 _ _ _; refine Rch.blk' (Rn_mono mt _ _) bl_L_hears_63 (i_aload_n rfl (i_bipush k_25 (i_iald (n := 64) rfl (by first | omega | (simp (disch := omega) only [e_r, e_x, e_q, m_p, m_o]; omega)) (by first | omega | (simp (disch := omega) only [e_r, e_x, e_q, m_p, m_o]; omega)) (by first | omega | (simp (disch := omega) only [e_r, e_x, e_q, m_p, m_o]; omega)) (i_iconst k_1 (t_ic_ne 75 71 rfl rfl (by first | with_reducible exact hI_R | with_reducible exact lcm_R | with_reducible exact band_R | with_reducible exact bor_R | with_reducible exact bshr_R | with_reducible exact bshl_R | omega | (simp (disch := omega) only [e_r, e_x, e_q, m_p, m_o]; omega)) (by first | with_reducible exact hI_R | with_reducible exact lcm_R | with_reducible exact band_R | with_reducible exact bor_R | with_reducible exact bshr_R | with_reducible exact bshl_R | omega | (simp (disch := omega) only [e_r, e_x, e_q, m_p, m_o]; omega)) (fun hc => ?_) (fun hc => ?_)))))) <;> (try (simp (disch := omega) only [e_r, e_x, e_q, m_p, m_o] at hc ⊢)) <;> (first | (exfalso; omega) | skip))
      | (show Rch _ _ _ _ _ 71 _ _ _; refine Rch.blk' (Rn_mono mt _ _) bl_L_hears_71 (i_iconst k_1 (t_goto 81 rfl ?_)))
      | (show Rch _ _ _ _ _ 75 _ _ _; refine Rch.blk' (Rn_mono mt _ _) bl_L_hears_75 (i_aload_n rfl (i_iload_n rfl (i_iald (n := 64) rfl (by first | omega | (simp (disch := omega) only [e_r, e_x, e_q, m_p, m_o]; omega)) (by first | omega | (simp (disch := omega) only [e_r, e_x, e_q, m_p, m_o]; omega)) (by first | omega | (simp (disch := omega) only [e_r, e_x, e_q, m_p, m_o]; omega)) (t_cs1 (Rn_mono mt _ _) 81 rfl (Nat.le_of_ble_eq_true rfl) ?_)))) <;> (try (simp (disch := omega) only [e_r, e_x, e_q, m_p, m_o])))
      | (show Rch _ _ _ _ _ 81 _ _ _; refine Rch.blk' (Rn_mono mt _ _) bl_L_hears_81 (t_ic_gt 88 84 rfl rfl (by first | with_reducible exact hI_R | with_reducible exact lcm_R | with_reducible exact band_R | with_reducible exact bor_R | with_reducible exact bshr_R | with_reducible exact bshl_R | omega | (simp (disch := omega) only [e_r, e_x, e_q, m_p, m_o]; omega)) (by first | with_reducible exact hI_R | with_reducible exact lcm_R | with_reducible exact band_R | with_reducible exact bor_R | with_reducible exact bshr_R | with_reducible exact bshl_R | omega | (simp (disch := omega) only [e_r, e_x, e_q, m_p, m_o]; omega)) (fun hc => ?_) (fun hc => ?_)) <;> (first | (exfalso; omega) | skip))
      | (show Rch _ _ _ _ _ 84 _ _ _; refine Rch.blk' (Rn_mono mt _ _) bl_L_hears_84 (i_iconst k_1 (t_goto 89 rfl ?_)))
      | (show Rch _ _ _ _ _ 88 _ _ _; refine Rch.blk' (Rn_mono mt _ _) bl_L_hears_88 (i_iconst k_0 (t_none ?_)))
      | (show Rch _ _ _ _ _ 89 _ _ _; refine Rch.blk' (Rn_mono mt _ _) bl_L_hears_89 (t_zret (by omega) ?_)))
theorem c_L_heard (hG : RV h G) (hO : OKB G) {p : Int} (p0 : 0 ≤ p) (p1 : p < nn G) (hp : sq G p < 36) (hq : Q (some (ai (I (BT (HS G 0 p))))) h) : Rn mt L (d + 3) 86 [ar 12 0, ai (I p)] h Q := by
  refine Rn.intro iL_heard rfl rfl ?_
  show Rch bL_heard _ _ _ _ 0 [some (ar 12 0), some (ai (I p)), none, none] [] _
  have e_n := hG.n
  have g_n := hO.n
  have key : ∀ k : Int, k ≤ nn G → 0 ≤ k → RH L bL_heard (d + 2) Q 4 [some (ar 12 0), some (ai (I p)), some (ai (I (BT (fun i => i < k ∧ (i = p ∨ HC G 0 p i))))), some (ai (I k))] h := by
    refine up_ind (fun k hk ih hk0 => ?_)
    by_cases hk1 : k < nn G
    · have ih := ih hk1 (by omega)
      have ih1 : (k = p ∨ HC G 0 p k) → RH L bL_heard (d + 2) Q 4 [some (ar 12 0), some (ai (I p)), some (ai (I (bor (BT (fun i => i < k ∧ (i = p ∨ HC G 0 p i))) (bshl 1 k)))), some (ai (I (k + 1)))] h := by
        intro hC; rw [BT_up1 (C := fun i => i = p ∨ HC G 0 p i) hk0 (by omega) hC]; exact ih
      have ih0 : ¬ (k = p ∨ HC G 0 p k) → RH L bL_heard (d + 2) Q 4 [some (ar 12 0), some (ai (I p)), some (ai (I (bor (BT (fun i => i < k ∧ (i = p ∨ HC G 0 p i))) 0))), some (ai (I (k + 1)))] h := by
        intro hC; rw [BT_up2 (C := fun i => i = p ∨ HC G 0 p i) hC]; exact ih
      clear ih
      refine Rch.blk' (Rn_mono mt _ _) bl_L_heard_4 (i_iload_n rfl (i_aload_n rfl (i_bipush k_20 (i_iald (n := 64) rfl (by first | omega | (simp (disch := omega) only [e_n]; omega)) (by first | omega | (simp (disch := omega) only [e_n]; omega)) (by first | omega | (simp (disch := omega) only [e_n]; omega)) (t_ic_ge 37 12 rfl rfl (by first | with_reducible exact hI_R | with_reducible exact lcm_R | with_reducible exact band_R | with_reducible exact bor_R | with_reducible exact bshr_R | with_reducible exact bshl_R | omega | (simp (disch := omega) only [e_n]; omega)) (by first | with_reducible exact hI_R | with_reducible exact lcm_R | with_reducible exact band_R | with_reducible exact bor_R | with_reducible exact bshr_R | with_reducible exact bshl_R | omega | (simp (disch := omega) only [e_n]; omega)) (fun hc => ?_) (fun hc => ?_)))))) <;> (try (simp (disch := omega) only [e_n] at hc ⊢)) <;> (first | (exfalso; omega) | skip)
      repeat' (first
        | exact ih1 (by assumption)
        | exact ih0 (by assumption)
        | (show Rn _ _ _ 85 _ _ _; refine c_L_hears (by assumption) (by assumption) (by omega) (by omega) (by omega) (by omega) (by omega) (fun _ => ?_) (fun _ => ?_))
        | (show Rch _ _ _ _ _ 0 _ _ _; refine Rch.blk' (Rn_mono mt _ _) bl_L_heard_0 (i_iconst k_0 (i_istore2 trivial (i_iconst k_0 (i_istore3 trivial (t_none ?_))))))
        | (show Rch _ _ _ _ _ 12 _ _ _; refine Rch.blk' (Rn_mono mt _ _) bl_L_heard_12 (i_iload_n rfl (i_aload_n rfl (i_iload_n rfl (i_iload_n rfl (t_cs3 (Rn_mono mt _ _) 19 rfl (Nat.le_of_ble_eq_true rfl) ?_))))))
        | (show Rch _ _ _ _ _ 19 _ _ _; refine Rch.blk' (Rn_mono mt _ _) bl_L_heard_19 (t_if_eq 28 22 rfl rfl (by first | with_reducible exact hI_R | with_reducible exact lcm_R | with_reducible exact band_R | with_reducible exact bor_R | with_reducible exact bshr_R | with_reducible exact bshl_R | omega) (fun hc => ?_) (fun hc => ?_)) <;> (first | (exfalso; omega) | skip))
        | (show Rch _ _ _ _ _ 22 _ _ _; refine Rch.blk' (Rn_mono mt _ _) bl_L_heard_22 (i_iconst k_1 (i_iload_n rfl (i_ishl (t_goto 29 rfl ?_)))))
        | (show Rch _ _ _ _ _ 28 _ _ _; refine Rch.blk' (Rn_mono mt _ _) bl_L_heard_28 (i_iconst k_0 (t_none ?_)))
        | (show Rch _ _ _ _ _ 29 _ _ _; refine Rch.blk' (Rn_mono mt _ _) bl_L_heard_29 (i_ior (i_istore2 trivial (i_iinc3 trivial k_1 (t_goto 4 rfl ?_)))))
        | (show Rch _ _ _ _ _ 37 _ _ _; refine Rch.blk' (Rn_mono mt _ _) bl_L_heard_37 (i_iload_n rfl (t_iret ?_))))
    · obtain rfl : k = nn G := by omega
      refine Rch.blk' (Rn_mono mt _ _) bl_L_heard_4 (i_iload_n rfl (i_aload_n rfl (i_bipush k_20 (i_iald (n := 64) rfl (by first | omega | (simp (disch := omega) only [e_n]; omega)) (by first | omega | (simp (disch := omega) only [e_n]; omega)) (by first | omega | (simp (disch := omega) only [e_n]; omega)) (t_ic_ge 37 12 rfl rfl (by first | with_reducible exact hI_R | with_reducible exact lcm_R | with_reducible exact band_R | with_reducible exact bor_R | with_reducible exact bshr_R | with_reducible exact bshl_R | omega | (simp (disch := omega) only [e_n]; omega)) (by first | with_reducible exact hI_R | with_reducible exact lcm_R | with_reducible exact band_R | with_reducible exact bor_R | with_reducible exact bshr_R | with_reducible exact bshl_R | omega | (simp (disch := omega) only [e_n]; omega)) (fun hc => ?_) (fun hc => ?_)))))) <;> (try (simp (disch := omega) only [e_n] at hc ⊢)) <;> (first | (exfalso; omega) | skip)
      repeat' (first
        | exact hq
        | (show Rn _ _ _ 85 _ _ _; refine c_L_hears (by assumption) (by assumption) (by omega) (by omega) (by omega) (by omega) (by omega) (fun _ => ?_) (fun _ => ?_))
        | (show Rch _ _ _ _ _ 0 _ _ _; refine Rch.blk' (Rn_mono mt _ _) bl_L_heard_0 (i_iconst k_0 (i_istore2 trivial (i_iconst k_0 (i_istore3 trivial (t_none ?_))))))
        | (show Rch _ _ _ _ _ 12 _ _ _; refine Rch.blk' (Rn_mono mt _ _) bl_L_heard_12 (i_iload_n rfl (i_aload_n rfl (i_iload_n rfl (i_iload_n rfl (t_cs3 (Rn_mono mt _ _) 19 rfl (Nat.le_of_ble_eq_true rfl) ?_))))))
        | (show Rch _ _ _ _ _ 19 _ _ _; refine Rch.blk' (Rn_mono mt _ _) bl_L_heard_19 (t_if_eq 28 22 rfl rfl (by first | with_reducible exact hI_R | with_reducible exact lcm_R | with_reducible exact band_R | with_reducible exact bor_R | with_reducible exact bshr_R | with_reducible exact bshl_R | omega) (fun hc => ?_) (fun hc => ?_)) <;> (first | (exfalso; omega) | skip))
        | (show Rch _ _ _ _ _ 22 _ _ _; refine Rch.blk' (Rn_mono mt _ _) bl_L_heard_22 (i_iconst k_1 (i_iload_n rfl (i_ishl (t_goto 29 rfl ?_)))))
        | (show Rch _ _ _ _ _ 28 _ _ _; refine Rch.blk' (Rn_mono mt _ _) bl_L_heard_28 (i_iconst k_0 (t_none ?_)))
        | (show Rch _ _ _ _ _ 29 _ _ _; refine Rch.blk' (Rn_mono mt _ _) bl_L_heard_29 (i_ior (i_istore2 trivial (i_iinc3 trivial k_1 (t_goto 4 rfl ?_)))))
        | (show Rch _ _ _ _ _ 37 _ _ _; refine Rch.blk' (Rn_mono mt _ _) bl_L_heard_37 (i_iload_n rfl (t_iret ?_))))
  have key0 := key 0 (by omega) (by omega)
  rw [BT_0 (C := fun i => i = p ∨ HC G 0 p i)] at key0
  repeat' (first
    | exact key0
    | (show Rn _ _ _ 85 _ _ _; refine c_L_hears (by assumption) (by assumption) (by omega) (by omega) (by omega) (by omega) (by omega) (fun _ => ?_) (fun _ => ?_))
    | (show Rch _ _ _ _ _ 0 _ _ _; refine Rch.blk' (Rn_mono mt _ _) bl_L_heard_0 (i_iconst k_0 (i_istore2 trivial (i_iconst k_0 (i_istore3 trivial (t_none ?_))))))
    | (show Rch _ _ _ _ _ 12 _ _ _; refine Rch.blk' (Rn_mono mt _ _) bl_L_heard_12 (i_iload_n rfl (i_aload_n rfl (i_iload_n rfl (i_iload_n rfl (t_cs3 (Rn_mono mt _ _) 19 rfl (Nat.le_of_ble_eq_true rfl) ?_))))))
    | (show Rch _ _ _ _ _ 19 _ _ _; refine Rch.blk' (Rn_mono mt _ _) bl_L_heard_19 (t_if_eq 28 22 rfl rfl (by first | with_reducible exact hI_R | with_reducible exact lcm_R | with_reducible exact band_R | with_reducible exact bor_R | with_reducible exact bshr_R | with_reducible exact bshl_R | omega) (fun hc => ?_) (fun hc => ?_)) <;> (first | (exfalso; omega) | skip))
    | (show Rch _ _ _ _ _ 22 _ _ _; refine Rch.blk' (Rn_mono mt _ _) bl_L_heard_22 (i_iconst k_1 (i_iload_n rfl (i_ishl (t_goto 29 rfl ?_)))))
    | (show Rch _ _ _ _ _ 28 _ _ _; refine Rch.blk' (Rn_mono mt _ _) bl_L_heard_28 (i_iconst k_0 (t_none ?_)))
    | (show Rch _ _ _ _ _ 29 _ _ _; refine Rch.blk' (Rn_mono mt _ _) bl_L_heard_29 (i_ior (i_istore2 trivial (i_iinc3 trivial k_1 (t_goto 4 rfl ?_)))))
    | (show Rch _ _ _ _ _ 37 _ _ _; refine Rch.blk' (Rn_mono mt _ _) bl_L_heard_37 (i_iload_n rfl (t_iret ?_))))
set_option maxRecDepth 100000 in
theorem kern_dec : ∀ a, a < 1024 → ¬ a = 0 → band ((a : Nat) : Int) (((a : Nat) : Int) - 1) = ((a &&& (a - 1) : Nat) : Int) ∧ a &&& (a - 1) < a ∧ ((List.range 10).map fun i => if (a &&& (a - 1)).testBit i = true then (1 : Int) else 0).sum + 1 = ((List.range 10).map fun i => if a.testBit i = true then (1 : Int) else 0).sum := by decide +kernel
def pcn (a : Nat) : Int := ((List.range 10).map fun i => if a.testBit i = true then (1 : Int) else 0).sum
set_option maxRecDepth 100000 in
theorem pcn_dec : ∀ a, a < 1024 → 0 ≤ pcn a ∧ pcn a ≤ 10 := by decide +kernel
theorem c_L_bits {P : Int → Prop} (hq : 0 ≤ cnt P 10 → cnt P 10 ≤ 10 → Q (some (ai (I (cnt P 10)))) h) : Rn mt L (d + 1) 87 [ai (I (BT P))] h Q := by
  refine Rn.intro iL_bits rfl rfl ?_
  show Rch bL_bits _ _ _ _ 0 [some (ai (I (BT P))), none, none] [] _
  have g_c := cnt_R (C := P) (k := 10) (by omega)
  have hq := hq g_c.1 g_c.2
  have eP : pcn (btn P 10) = cnt P 10 := btn_cnt P 10 (Nat.le_refl _)
  have gP := btn_1024 P
  have key : ∀ (m a : Nat), a < m → a < 1024 → ∀ n : Int, 0 ≤ n → n + pcn a = cnt P 10 → RH L bL_bits d Q 4 [some (ai (I (BT P))), some (ai (I n)), some (ai (I (a : Int)))] h := by
    intro m
    induction m with
    | zero => intro a h9; omega
    | succ m ih =>
      intro a ha a1 n n0 hn
      by_cases h9 : a = 0
      · subst h9
        have e : n = cnt P 10 := by
          have : pcn 0 = 0 := by decide +kernel
          omega
        subst e
        refine Rch.blk' (Rn_mono mt _ _) bl_L_bits_4 (i_iload_n rfl (t_if_eq 20 8 rfl rfl (by first | with_reducible exact hI_R | with_reducible exact lcm_R | with_reducible exact band_R | with_reducible exact bor_R | with_reducible exact bshr_R | with_reducible exact bshl_R | omega) (fun hc => ?_) (fun hc => ?_))) <;> (first | (exfalso; omega) | skip)
        repeat' (first
          | exact hq
          | (show Rch _ _ _ _ _ 0 _ _ _; refine Rch.blk' (Rn_mono mt _ _) bl_L_bits_0 (i_iconst k_0 (i_istore1 trivial (i_iload_n rfl (i_istore2 trivial (t_none ?_))))))
          | (show Rch _ _ _ _ _ 8 _ _ _; refine Rch.blk' (Rn_mono mt _ _) bl_L_bits_8 (i_iinc1 trivial k_1 (i_iload_n rfl (i_iload_n rfl (i_iconst k_1 (i_isub (i_iand (i_istore2 trivial (t_goto 4 rfl ?_)))))))))
          | (show Rch _ _ _ _ _ 20 _ _ _; refine Rch.blk' (Rn_mono mt _ _) bl_L_bits_20 (i_iload_n rfl (t_iret ?_))))
      · obtain ⟨e1, e2, e3⟩ := kern_dec a a1 h9
        have ih := ih (a &&& (a - 1)) (by omega) (by omega) (n + 1) (by omega) (by
          have : pcn (a &&& (a - 1)) + 1 = pcn a := e3
          omega)
        rw [← e1] at ih
        refine Rch.blk' (Rn_mono mt _ _) bl_L_bits_4 (i_iload_n rfl (t_if_eq 20 8 rfl rfl (by first | with_reducible exact hI_R | with_reducible exact lcm_R | with_reducible exact band_R | with_reducible exact bor_R | with_reducible exact bshr_R | with_reducible exact bshl_R | omega) (fun hc => ?_) (fun hc => ?_))) <;> (first | (exfalso; omega) | skip)
        repeat' (first
          | exact ih
          | (show Rch _ _ _ _ _ 0 _ _ _; refine Rch.blk' (Rn_mono mt _ _) bl_L_bits_0 (i_iconst k_0 (i_istore1 trivial (i_iload_n rfl (i_istore2 trivial (t_none ?_))))))
          | (show Rch _ _ _ _ _ 8 _ _ _; refine Rch.blk' (Rn_mono mt _ _) bl_L_bits_8 (i_iinc1 trivial k_1 (i_iload_n rfl (i_iload_n rfl (i_iconst k_1 (i_isub (i_iand (i_istore2 trivial (t_goto 4 rfl ?_)))))))))
          | (show Rch _ _ _ _ _ 20 _ _ _; refine Rch.blk' (Rn_mono mt _ _) bl_L_bits_20 (i_iload_n rfl (t_iret ?_))))
  have key0 := key (btn P 10 + 1) (btn P 10) (by omega) gP 0 (by omega) (by omega)
  repeat' (first
    | exact key0
    | (show Rch _ _ _ _ _ 0 _ _ _; refine Rch.blk' (Rn_mono mt _ _) bl_L_bits_0 (i_iconst k_0 (i_istore1 trivial (i_iload_n rfl (i_istore2 trivial (t_none ?_))))))
    | (show Rch _ _ _ _ _ 8 _ _ _; refine Rch.blk' (Rn_mono mt _ _) bl_L_bits_8 (i_iinc1 trivial k_1 (i_iload_n rfl (i_iload_n rfl (i_iconst k_1 (i_isub (i_iand (i_istore2 trivial (t_goto 4 rfl ?_)))))))))
    | (show Rch _ _ _ _ _ 20 _ _ _; refine Rch.blk' (Rn_mono mt _ _) bl_L_bits_20 (i_iload_n rfl (t_iret ?_))))
theorem c_L_there (hG : RV h G) (hO : OKB G) (hq : Q (some (ai (I (BT (TS G))))) h) : Rn mt L (d + 1) 91 [ar 12 0, ai (I (-1))] h Q := by
  refine Rn.intro iL_there rfl rfl ?_
  show Rch bL_there _ _ _ _ 0 [some (ar 12 0), some (ai (I (-1))), none, none] [] _
  have e_n := hG.n
  have e_q := @RV.q _ _ hG
  have g_n := hO.n
  have key : ∀ k : Int, k ≤ nn G → 0 ≤ k → RH L bL_there d Q 4 [some (ar 12 0), some (ai (I (-1))), some (ai (I (BT (fun i => i < k ∧ sq G i < 36)))), some (ai (I k))] h := by
    refine up_ind (fun k hk ih hk0 => ?_)
    by_cases hk1 : k < nn G
    · have ih := ih hk1 (by omega)
      have g_m := @m4_R (sq G k)
      have g_p := hO.pc k hk0 hk1
      have ih1 : sq G k < 36 → RH L bL_there d Q 4 [some (ar 12 0), some (ai (I (-1))), some (ai (I (bor (BT (fun i => i < k ∧ sq G i < 36)) (bshl 1 k)))), some (ai (I (k + 1)))] h := by
        intro hC; rw [BT_up1 (C := fun i => sq G i < 36) hk0 (by omega) hC]; exact ih
      have ih0 : ¬ sq G k < 36 → RH L bL_there d Q 4 [some (ar 12 0), some (ai (I (-1))), some (ai (I (bor (BT (fun i => i < k ∧ sq G i < 36)) 0))), some (ai (I (k + 1)))] h := by
        intro hC; rw [BT_up2 (C := fun i => sq G i < 36) hC]; exact ih
      clear ih
      refine Rch.blk' (Rn_mono mt _ _) bl_L_there_4 (i_iload_n rfl (i_aload_n rfl (i_bipush k_20 (i_iald (n := 64) rfl (by first | omega | (simp (disch := omega) only [e_n]; omega)) (by first | omega | (simp (disch := omega) only [e_n]; omega)) (by first | omega | (simp (disch := omega) only [e_n]; omega)) (t_ic_ge 51 12 rfl rfl (by first | with_reducible exact hI_R | with_reducible exact lcm_R | with_reducible exact band_R | with_reducible exact bor_R | with_reducible exact bshr_R | with_reducible exact bshl_R | omega | (simp (disch := omega) only [e_n]; omega)) (by first | with_reducible exact hI_R | with_reducible exact lcm_R | with_reducible exact band_R | with_reducible exact bor_R | with_reducible exact bshr_R | with_reducible exact bshl_R | omega | (simp (disch := omega) only [e_n]; omega)) (fun hc => ?_) (fun hc => ?_)))))) <;> (try (simp (disch := omega) only [e_n] at hc ⊢)) <;> (first | (exfalso; omega) | skip)
      repeat' (first
        | exact ih1 (by omega)
        | exact ih0 (by omega)
        | (show Rch _ _ _ _ _ 0 _ _ _; refine Rch.blk' (Rn_mono mt _ _) bl_L_there_0 (i_iconst k_0 (i_istore2 trivial (i_iconst k_0 (i_istore3 trivial (t_none ?_))))))
        | (show Rch _ _ _ _ _ 12 _ _ _; refine Rch.blk' (Rn_mono mt _ _) bl_L_there_12 (i_iload_n rfl (i_aload_n rfl (i_bipush k_10 (i_iload_n rfl (i_iadd (i_iald (n := 64) rfl (by first | omega | (simp (disch := omega) only [e_q]; omega)) (by first | omega | (simp (disch := omega) only [e_q]; omega)) (by first | omega | (simp (disch := omega) only [e_q]; omega)) (t_if_lt 42 22 rfl rfl (by first | with_reducible exact hI_R | with_reducible exact lcm_R | with_reducible exact band_R | with_reducible exact bor_R | with_reducible exact bshr_R | with_reducible exact bshl_R | omega | (simp (disch := omega) only [e_q]; omega)) (fun hc => ?_) (fun hc => ?_)))))))) <;> (try (simp (disch := omega) only [e_q] at hc ⊢)) <;> (first | (exfalso; omega) | skip))
        | (show Rch _ _ _ _ _ 22 _ _ _; refine Rch.blk' (Rn_mono mt _ _) bl_L_there_22 (i_iload_n rfl (t_if_lt 36 26 rfl rfl (by first | with_reducible exact hI_R | with_reducible exact lcm_R | with_reducible exact band_R | with_reducible exact bor_R | with_reducible exact bshr_R | with_reducible exact bshl_R | omega | (simp (disch := omega) only [e_q]; omega)) (fun hc => ?_) (fun hc => ?_))) <;> (first | (exfalso; omega) | skip))
        | (show Rch _ _ _ _ _ 26 _ _ _; refine Rch.blk' (Rn_mono mt _ _) bl_L_there_26 (i_aload_n rfl (i_iload_n rfl (i_iald (n := 64) rfl (by first | omega | (simp (disch := omega) only [e_q]; omega)) (by first | omega | (simp (disch := omega) only [e_q]; omega)) (by first | omega | (simp (disch := omega) only [e_q]; omega)) (i_bipush k_100 (i_idiv (by first | omega | (simp (disch := omega) only [e_q]; omega)) (by first | omega | (simp (disch := omega) only [e_q]; omega)) (by first | omega | (simp (disch := omega) only [e_q]; omega)) (by first | omega | (simp (disch := omega) only [e_q]; omega)) (i_iload_n rfl (t_ic_ne 42 36 rfl rfl (by first | with_reducible exact hI_R | with_reducible exact lcm_R | with_reducible exact band_R | with_reducible exact bor_R | with_reducible exact bshr_R | with_reducible exact bshl_R | omega | (simp (disch := omega) only [e_q]; omega)) (by first | with_reducible exact hI_R | with_reducible exact lcm_R | with_reducible exact band_R | with_reducible exact bor_R | with_reducible exact bshr_R | with_reducible exact bshl_R | omega | (simp (disch := omega) only [e_q]; omega)) (fun hc => ?_) (fun hc => ?_)))))))) <;> (try (simp (disch := omega) only [e_q] at hc ⊢)) <;> (first | (exfalso; omega) | skip))
        | (show Rch _ _ _ _ _ 36 _ _ _; refine Rch.blk' (Rn_mono mt _ _) bl_L_there_36 (i_iconst k_1 (i_iload_n rfl (i_ishl (t_goto 43 rfl ?_)))))
        | (show Rch _ _ _ _ _ 42 _ _ _; refine Rch.blk' (Rn_mono mt _ _) bl_L_there_42 (i_iconst k_0 (t_none ?_)))
        | (show Rch _ _ _ _ _ 43 _ _ _; refine Rch.blk' (Rn_mono mt _ _) bl_L_there_43 (i_ior (i_istore2 trivial (i_iinc3 trivial k_1 (t_goto 4 rfl ?_)))))
        | (show Rch _ _ _ _ _ 51 _ _ _; refine Rch.blk' (Rn_mono mt _ _) bl_L_there_51 (i_iload_n rfl (t_iret ?_))))
    · obtain rfl : k = nn G := by omega
      refine Rch.blk' (Rn_mono mt _ _) bl_L_there_4 (i_iload_n rfl (i_aload_n rfl (i_bipush k_20 (i_iald (n := 64) rfl (by first | omega | (simp (disch := omega) only [e_n]; omega)) (by first | omega | (simp (disch := omega) only [e_n]; omega)) (by first | omega | (simp (disch := omega) only [e_n]; omega)) (t_ic_ge 51 12 rfl rfl (by first | with_reducible exact hI_R | with_reducible exact lcm_R | with_reducible exact band_R | with_reducible exact bor_R | with_reducible exact bshr_R | with_reducible exact bshl_R | omega | (simp (disch := omega) only [e_n]; omega)) (by first | with_reducible exact hI_R | with_reducible exact lcm_R | with_reducible exact band_R | with_reducible exact bor_R | with_reducible exact bshr_R | with_reducible exact bshl_R | omega | (simp (disch := omega) only [e_n]; omega)) (fun hc => ?_) (fun hc => ?_)))))) <;> (try (simp (disch := omega) only [e_n] at hc ⊢)) <;> (first | (exfalso; omega) | skip)
      repeat' (first
        | exact hq
        | (show Rch _ _ _ _ _ 0 _ _ _; refine Rch.blk' (Rn_mono mt _ _) bl_L_there_0 (i_iconst k_0 (i_istore2 trivial (i_iconst k_0 (i_istore3 trivial (t_none ?_))))))
        | (show Rch _ _ _ _ _ 12 _ _ _; refine Rch.blk' (Rn_mono mt _ _) bl_L_there_12 (i_iload_n rfl (i_aload_n rfl (i_bipush k_10 (i_iload_n rfl (i_iadd (i_iald (n := 64) rfl (by omega) (by omega) (by omega) (t_if_lt 42 22 rfl rfl (by first | with_reducible exact hI_R | with_reducible exact lcm_R | with_reducible exact band_R | with_reducible exact bor_R | with_reducible exact bshr_R | with_reducible exact bshl_R | omega) (fun hc => ?_) (fun hc => ?_)))))))) <;> (first | (exfalso; omega) | skip))
        | (show Rch _ _ _ _ _ 22 _ _ _; refine Rch.blk' (Rn_mono mt _ _) bl_L_there_22 (i_iload_n rfl (t_if_lt 36 26 rfl rfl (by first | with_reducible exact hI_R | with_reducible exact lcm_R | with_reducible exact band_R | with_reducible exact bor_R | with_reducible exact bshr_R | with_reducible exact bshl_R | omega) (fun hc => ?_) (fun hc => ?_))) <;> (first | (exfalso; omega) | skip))
        | (show Rch _ _ _ _ _ 26 _ _ _; refine Rch.blk' (Rn_mono mt _ _) bl_L_there_26 (i_aload_n rfl (i_iload_n rfl (i_iald (n := 64) rfl (by omega) (by omega) (by omega) (i_bipush k_100 (i_idiv (by omega) (by omega) (by omega) (by omega) (i_iload_n rfl (t_ic_ne 42 36 rfl rfl (by first | with_reducible exact hI_R | with_reducible exact lcm_R | with_reducible exact band_R | with_reducible exact bor_R | with_reducible exact bshr_R | with_reducible exact bshl_R | omega) (by first | with_reducible exact hI_R | with_reducible exact lcm_R | with_reducible exact band_R | with_reducible exact bor_R | with_reducible exact bshr_R | with_reducible exact bshl_R | omega) (fun hc => ?_) (fun hc => ?_)))))))) <;> (first | (exfalso; omega) | skip))
        | (show Rch _ _ _ _ _ 36 _ _ _; refine Rch.blk' (Rn_mono mt _ _) bl_L_there_36 (i_iconst k_1 (i_iload_n rfl (i_ishl (t_goto 43 rfl ?_)))))
        | (show Rch _ _ _ _ _ 42 _ _ _; refine Rch.blk' (Rn_mono mt _ _) bl_L_there_42 (i_iconst k_0 (t_none ?_)))
        | (show Rch _ _ _ _ _ 43 _ _ _; refine Rch.blk' (Rn_mono mt _ _) bl_L_there_43 (i_ior (i_istore2 trivial (i_iinc3 trivial k_1 (t_goto 4 rfl ?_)))))
        | (show Rch _ _ _ _ _ 51 _ _ _; refine Rch.blk' (Rn_mono mt _ _) bl_L_there_51 (i_iload_n rfl (t_iret ?_))))
  have key0 := key 0 (by omega) (by omega)
  rw [BT_0 (C := fun i => sq G i < 36)] at key0
  repeat' (first
    | exact key0
    | (show Rch _ _ _ _ _ 0 _ _ _; refine Rch.blk' (Rn_mono mt _ _) bl_L_there_0 (i_iconst k_0 (i_istore2 trivial (i_iconst k_0 (i_istore3 trivial (t_none ?_))))))
    | (show Rch _ _ _ _ _ 12 _ _ _; refine Rch.blk' (Rn_mono mt _ _) bl_L_there_12 (i_iload_n rfl (i_aload_n rfl (i_bipush k_10 (i_iload_n rfl (i_iadd (i_iald (n := 64) rfl (by omega) (by omega) (by omega) (t_if_lt 42 22 rfl rfl (by first | with_reducible exact hI_R | with_reducible exact lcm_R | with_reducible exact band_R | with_reducible exact bor_R | with_reducible exact bshr_R | with_reducible exact bshl_R | omega) (fun hc => ?_) (fun hc => ?_)))))))) <;> (first | (exfalso; omega) | skip))
    | (show Rch _ _ _ _ _ 22 _ _ _; refine Rch.blk' (Rn_mono mt _ _) bl_L_there_22 (i_iload_n rfl (t_if_lt 36 26 rfl rfl (by first | with_reducible exact hI_R | with_reducible exact lcm_R | with_reducible exact band_R | with_reducible exact bor_R | with_reducible exact bshr_R | with_reducible exact bshl_R | omega) (fun hc => ?_) (fun hc => ?_))) <;> (first | (exfalso; omega) | skip))
    | (show Rch _ _ _ _ _ 26 _ _ _; refine Rch.blk' (Rn_mono mt _ _) bl_L_there_26 (i_aload_n rfl (i_iload_n rfl (i_iald (n := 64) rfl (by omega) (by omega) (by omega) (i_bipush k_100 (i_idiv (by omega) (by omega) (by omega) (by omega) (i_iload_n rfl (t_ic_ne 42 36 rfl rfl (by first | with_reducible exact hI_R | with_reducible exact lcm_R | with_reducible exact band_R | with_reducible exact bor_R | with_reducible exact bshr_R | with_reducible exact bshl_R | omega) (by first | with_reducible exact hI_R | with_reducible exact lcm_R | with_reducible exact band_R | with_reducible exact bor_R | with_reducible exact bshr_R | with_reducible exact bshl_R | omega) (fun hc => ?_) (fun hc => ?_)))))))) <;> (first | (exfalso; omega) | skip))
    | (show Rch _ _ _ _ _ 36 _ _ _; refine Rch.blk' (Rn_mono mt _ _) bl_L_there_36 (i_iconst k_1 (i_iload_n rfl (i_ishl (t_goto 43 rfl ?_)))))
    | (show Rch _ _ _ _ _ 42 _ _ _; refine Rch.blk' (Rn_mono mt _ _) bl_L_there_42 (i_iconst k_0 (t_none ?_)))
    | (show Rch _ _ _ _ _ 43 _ _ _; refine Rch.blk' (Rn_mono mt _ _) bl_L_there_43 (i_ior (i_istore2 trivial (i_iinc3 trivial k_1 (t_goto 4 rfl ?_)))))
    | (show Rch _ _ _ _ _ 51 _ _ _; refine Rch.blk' (Rn_mono mt _ _) bl_L_there_51 (i_iload_n rfl (t_iret ?_))))
end C70

