/-! CHANGES, the class's -/
theorem R_ons {G : Bd} (hO : OKB G) (s : Int) : inR (ons G s) := by
  have := hO.n
  rcases ons_c G s with ⟨e, -⟩ | ⟨a, b, -⟩
  · exact ⟨by omega, by omega⟩
  · exact ⟨by omega, by omega⟩
theorem RC.set_d {h : Mem} {b : Nat} {G : Bd} (H : RC h b G) {z : Int} (hz : inR z) : RC (mset h 0 b 8 (I z)) b (setd G z) := by
  refine ⟨by rw [hI_nk (by omega)]; exact H.n, by rw [hI_nk (by omega)]; exact H.t, by rw [hI_nk (by omega)]; exact H.o, by rw [hI_eq hz]; rfl, fun p p0 p1 => ⟨?_, ?_, ?_, ?_⟩, fun q q0 q1 => ?_⟩
  · rw [hI_nt (by omega)]; exact H.k p0 p1
  · rw [hI_nt (by omega)]; exact H.f p0 p1
  · rw [hI_nt (by omega)]; exact H.s p0 p1
  · rw [hI_nt (by omega)]; exact H.q p0 p1
  · rw [hI_nt (by omega)]; exact H.w q0 q1
theorem RC.set_t {h : Mem} {b : Nat} {G : Bd} (H : RC h b G) {z : Int} (hz : inR z) : RC (mset h 0 b 6 (I z)) b (sett G z) := by
  refine ⟨by rw [hI_nk (by omega)]; exact H.n, by rw [hI_eq hz]; rfl, by rw [hI_nk (by omega)]; exact H.o, by rw [hI_nk (by omega)]; exact H.d, fun p p0 p1 => ⟨?_, ?_, ?_, ?_⟩, fun q q0 q1 => ?_⟩
  · rw [hI_nt (by omega)]; exact H.k p0 p1
  · rw [hI_nt (by omega)]; exact H.f p0 p1
  · rw [hI_nt (by omega)]; exact H.s p0 p1
  · rw [hI_nt (by omega)]; exact H.q p0 p1
  · rw [hI_nt (by omega)]; exact H.w q0 q1
theorem RC.set_h {h : Mem} {b : Nat} {G : Bd} (H : RC h b G) {z : Int} (hz : inR z) : RC (mset h 0 b 7 (I z)) b (seth G z) := by
  refine ⟨by rw [hI_nk (by omega)]; exact H.n, by rw [hI_nk (by omega)]; exact H.t, by rw [hI_eq hz]; rfl, by rw [hI_nk (by omega)]; exact H.d, fun p p0 p1 => ⟨?_, ?_, ?_, ?_⟩, fun q q0 q1 => ?_⟩
  · rw [hI_nt (by omega)]; exact H.k p0 p1
  · rw [hI_nt (by omega)]; exact H.f p0 p1
  · rw [hI_nt (by omega)]; exact H.s p0 p1
  · rw [hI_nt (by omega)]; exact H.q p0 p1
  · rw [hI_nt (by omega)]; exact H.w q0 q1
theorem RC.place {h : Mem} {b : Nat} {G : Bd} (H : RC h b G) (hO : OKB G) {z s : Int} (z0 : 0 ≤ z) (z1 : z < nn G) (hz : sq G z = 36) (s0 : 0 ≤ s) (s1 : s < 36) (hs : ons G s = -4) : RC (mset (mset h 7 b z.toNat (I s)) 8 b s.toNat (I z)) b (mov G z s) := by
  have g_n := hO.n
  refine ⟨?_, ?_, ?_, ?_, fun p p0 p1 => ⟨?_, ?_, ?_, ?_⟩, fun q q0 q1 => ?_⟩
  · rw [hI_nt (by omega), hI_nt (by omega)]; exact H.n
  · rw [hI_nt (by omega), hI_nt (by omega)]; exact H.t
  · rw [hI_nt (by omega), hI_nt (by omega)]; exact H.o
  · rw [hI_nt (by omega), hI_nt (by omega)]; exact H.d
  · rw [hI_nt (by omega), hI_nt (by omega)]; exact H.k p0 p1
  · rw [hI_nt (by omega), hI_nt (by omega)]; exact H.f p0 p1
  · rw [hI_nt (by omega), hI_nt (by omega)]; exact H.s p0 p1
  · rw [hI_nt (by omega), sq_mov]
    by_cases pz : p = z
    · subst pz; rw [hI_eq ⟨by omega, by omega⟩, if_pos rfl]
    · rw [hI_nk (by omega), if_neg pz]; exact H.q p0 p1
  · rw [ons_mov hO z0 z1 s0 (by omega) (fun _ => Or.inl hs) q1]
    by_cases qs : q = s
    · subst qs; rw [hI_eq ⟨by omega, by omega⟩, if_pos rfl]
    · rw [hI_nk (by omega), hI_nt (by omega), if_neg qs, if_neg (by omega)]; exact H.w q0 q1
theorem RC.off {h : Mem} {b : Nat} {G : Bd} (H : RC h b G) (hO : OKB G) {z : Int} (z0 : 0 ≤ z) (z1 : z < nn G) (hz0 : 0 ≤ sq G z) (hz : sq G z < 36) : RC (mset (mset h 8 b (sq G z).toNat (I (-4))) 7 b z.toNat (I 36)) b (mov G z 36) := by
  have g_n := hO.n
  refine ⟨?_, ?_, ?_, ?_, fun p p0 p1 => ⟨?_, ?_, ?_, ?_⟩, fun q q0 q1 => ?_⟩
  · rw [hI_nt (by omega), hI_nt (by omega)]; exact H.n
  · rw [hI_nt (by omega), hI_nt (by omega)]; exact H.t
  · rw [hI_nt (by omega), hI_nt (by omega)]; exact H.o
  · rw [hI_nt (by omega), hI_nt (by omega)]; exact H.d
  · rw [hI_nt (by omega), hI_nt (by omega)]; exact H.k p0 p1
  · rw [hI_nt (by omega), hI_nt (by omega)]; exact H.f p0 p1
  · rw [hI_nt (by omega), hI_nt (by omega)]; exact H.s p0 p1
  · rw [sq_mov]
    by_cases pz : p = z
    · subst pz; rw [hI_eq ⟨by omega, by omega⟩, if_pos rfl]
    · rw [hI_nk (by omega), hI_nt (by omega), if_neg pz]; exact H.q p0 p1
  · rw [ons_mov hO z0 z1 (by omega) (by omega) (fun _ => by omega) q1, hI_nt (by omega), if_neg (by omega)]
    by_cases qs : q = sq G z
    · rw [if_pos qs, qs, hI_eq ⟨by omega, by omega⟩]
    · rw [hI_nk (by omega), if_neg qs]; exact H.w q0 q1
theorem RC.sk {h : Mem} {b : Nat} {G : Bd} (H : RC h b G) (hO : OKB G) {z k f : Int} (z0 : 0 ≤ z) (hk : 0 ≤ k ∧ k < 8) (hf : 0 ≤ f ∧ f < 10) : RC (mset (mset h 4 b z.toNat (I k)) 5 b z.toNat (I f)) b (stk G z k f) := by
  refine ⟨?_, ?_, ?_, ?_, fun p p0 p1 => ⟨?_, ?_, ?_, ?_⟩, fun q q0 q1 => ?_⟩
  · rw [hI_nt (by omega), hI_nt (by omega)]; exact H.n
  · rw [hI_nt (by omega), hI_nt (by omega)]; exact H.t
  · rw [hI_nt (by omega), hI_nt (by omega)]; exact H.o
  · rw [hI_nt (by omega), hI_nt (by omega)]; exact H.d
  · rw [hI_nt (by omega)]
    show _ = if p = z then k else kd G p
    by_cases pz : p = z
    · subst pz; rw [hI_eq ⟨by omega, by omega⟩, if_pos rfl]
    · rw [hI_nk (by omega), if_neg pz]; exact H.k p0 p1
  · show _ = if p = z then f else fg G p
    by_cases pz : p = z
    · subst pz; rw [hI_eq ⟨by omega, by omega⟩, if_pos rfl]
    · rw [hI_nk (by omega), hI_nt (by omega), if_neg pz]; exact H.f p0 p1
  · rw [hI_nt (by omega), hI_nt (by omega)]; exact H.s p0 p1
  · rw [hI_nt (by omega), hI_nt (by omega)]; exact H.q p0 p1
  · rw [hI_nt (by omega), hI_nt (by omega)]; exact H.w q0 q1
theorem RC.add {h : Mem} {b : Nat} {G : Bd} (H : RC h b G) (hO : OKB G) (hn : nn G < 10) {k f s q : Int} (hk : 0 ≤ k ∧ k < 8) (hf : 0 ≤ f ∧ f < 10) (hs : s = 0 ∨ s = 1) (q0 : 0 ≤ q) (q1 : q < 36) (hq : ons G q = -4) : RC (mset (mset (mset (mset (mset (mset h 4 b (nn G).toNat (I k)) 5 b (nn G).toNat (I f)) 6 b (nn G).toNat (I s)) 7 b (nn G).toNat (I q)) 8 b q.toNat (I (nn G))) 0 b 5 (I (nn G + 1))) b (addp G k f s q) := by
  have g_n := hO.n
  refine ⟨?_, ?_, ?_, ?_, fun p p0 p1 => ?_, fun r r0 r1 => ?_⟩
  · rw [hI_eq ⟨by omega, by omega⟩]; rfl
  · rw [hI_nk (by omega), hI_nt (by omega), hI_nt (by omega), hI_nt (by omega), hI_nt (by omega), hI_nt (by omega)]; exact H.t
  · rw [hI_nk (by omega), hI_nt (by omega), hI_nt (by omega), hI_nt (by omega), hI_nt (by omega), hI_nt (by omega)]; exact H.o
  · rw [hI_nk (by omega), hI_nt (by omega), hI_nt (by omega), hI_nt (by omega), hI_nt (by omega), hI_nt (by omega)]; exact H.d
  · have p1 : p < nn G + 1 := p1
    show _ = (if p = nn G then k else kd G p) ∧ _ = (if p = nn G then f else fg G p) ∧ _ = (if p = nn G then s else sd G p) ∧ _ = (if p = nn G then q else sq G p)
    have r_k : inR k := ⟨by omega, by omega⟩
    have r_f : inR f := ⟨by omega, by omega⟩
    have r_s : inR s := ⟨by omega, by omega⟩
    have r_q : inR q := ⟨by omega, by omega⟩
    simp (disch := omega) only [hI_nt]
    by_cases pz : p = nn G
    · subst pz
      rw [if_pos rfl, if_pos rfl, if_pos rfl, if_pos rfl, hI_eq r_k, hI_eq r_f, hI_eq r_s, hI_eq r_q]
      exact ⟨rfl, rfl, rfl, rfl⟩
    · rw [if_neg pz, if_neg pz, if_neg pz, if_neg pz]
      simp (disch := omega) only [hI_nk, hI_nt]
      exact ⟨H.k p0 (by omega), H.f p0 (by omega), H.s p0 (by omega), H.q p0 (by omega)⟩
  · rw [ons_addp hO hn hk hf hs q0 q1 hq r1, hI_nt (by omega)]
    by_cases rq : r = q
    · subst rq; rw [if_pos rfl, hI_eq ⟨by omega, by omega⟩]
    · rw [if_neg rq, hI_nk (by omega), hI_nt (by omega), hI_nt (by omega), hI_nt (by omega), hI_nt (by omega)]; exact H.w r0 r1
section C7
variable {d L : Nat} {h : Mem} {Q : Option AV → Mem → Prop} {b : Nat} {G : Bd} {M : Int → Prop} {ra : Int}
theorem c_X0_takeOff (hG : RC h b G) (hO : OKB G) {z : Int} (hz : inR z) (h1 : 0 ≤ z → z < nn G → sq G z < 36 → ∀ h', RC h' b (mov G z 36) → FrC h h' b → Q (some (ai (I 1))) h') (h0 : ¬ (0 ≤ z ∧ z < nn G ∧ sq G z < 36) → Q (some (ai (I 0))) h) : Rn mt L (d + 2) 12 [ar 0 b, ai (I z)] h Q := by
  refine Rn.intro iX0_takeOff rfl rfl ?_
  show Rch bX0_takeOff _ _ _ _ 0 [some (ar 0 b), some (ai (I z))] [] _
  have e_q := @RC.q _ _ _ hG
  have g_n := hO.n
  have g_p := hO.pc z
  have k1 : 0 ≤ z → z < nn G → 0 ≤ sq G z → sq G z < 36 → Q (some (ai (I 1))) (mset (mset h 8 b (sq G z).toNat (I (-4))) 7 b z.toNat (I 36)) := fun a1 a2 a3 a4 => h1 a1 a2 a4 _ (hG.off hO a1 a2 a3 a4) ((FrC.rf.ms (by omega)).ms (by omega))
  repeat' (first
    | exact k1 (by omega) (by omega) (by omega) (by omega)
    | exact h0 (by omega)
    | (show Rn _ _ _ 1 _ _ _; refine c_X0_has (by assumption) (by assumption) (by first | omega | exact hI_R) (fun _ _ => ?_) (fun _ => ?_))
    | (show Rn _ _ _ 11 _ _ _; refine c_X3_isSquare (by first | omega | exact hI_R) (fun _ _ => ?_) (fun _ => ?_))
    | (show Rch _ _ _ _ _ 0 _ _ _; refine Rch.blk' (Rn_mono mt _ _) bl_X0_takeOff_0 (i_aload_n rfl (i_iload_n rfl (t_cv2 (Rn_mono mt _ _) 5 rfl (Nat.le_of_ble_eq_true rfl) ?_))))
    | (show Rch _ _ _ _ _ 5 _ _ _; refine Rch.blk' (Rn_mono mt _ _) bl_X0_takeOff_5 (t_if_eq 20 8 rfl rfl (by first | exact hI_R | exact band_R | exact bor_R | exact bshr_R | exact lcm_R | omega | (simp (disch := omega) only [e_q, hI_nt]; omega)) (fun hc => ?_) (fun hc => ?_)) <;> (first | (exfalso; omega) | skip))
    | (show Rch _ _ _ _ _ 8 _ _ _; refine Rch.blk' (Rn_mono mt _ _) bl_X0_takeOff_8 (i_aload_n rfl (i_gfr rfl (i_iload_n rfl (i_iald (n := 10) rfl (by first | omega | (simp (disch := omega) only [e_q, hI_nt]; omega)) (by first | omega | (simp (disch := omega) only [e_q, hI_nt]; omega)) (by first | omega | (simp (disch := omega) only [e_q, hI_nt]; omega)) (t_cs1 (Rn_mono mt _ _) 17 rfl (Nat.le_of_ble_eq_true rfl) ?_))))) <;> (try (simp (disch := omega) only [e_q, hI_nt])))
    | (show Rch _ _ _ _ _ 17 _ _ _; refine Rch.blk' (Rn_mono mt _ _) bl_X0_takeOff_17 (t_if_ne 22 20 rfl rfl (by first | exact hI_R | exact band_R | exact bor_R | exact bshr_R | exact lcm_R | omega | (simp (disch := omega) only [e_q, hI_nt]; omega)) (fun hc => ?_) (fun hc => ?_)) <;> (first | (exfalso; omega) | skip))
    | (show Rch _ _ _ _ _ 20 _ _ _; refine Rch.blk' (Rn_mono mt _ _) bl_X0_takeOff_20 (i_iconst k_0 (t_zret (by omega) ?_)))
    | (show Rch _ _ _ _ _ 22 _ _ _; refine Rch.blk' (Rn_mono mt _ _) bl_X0_takeOff_22 (i_aload_n rfl (i_gfr rfl (i_aload_n rfl (i_gfr rfl (i_iload_n rfl (i_iald (n := 10) rfl (by first | omega | (simp (disch := omega) only [e_q, hI_nt]; omega)) (by first | omega | (simp (disch := omega) only [e_q, hI_nt]; omega)) (by first | omega | (simp (disch := omega) only [e_q, hI_nt]; omega)) (i_bipush k_m4 (i_iast (n := 36) rfl rfl (by first | omega | (simp (disch := omega) only [e_q, hI_nt]; omega)) (by first | omega | (simp (disch := omega) only [e_q, hI_nt]; omega)) (by first | omega | (simp (disch := omega) only [e_q, hI_nt]; omega)) (i_aload_n rfl (i_gfr rfl (i_iload_n rfl (i_bipush k_36 (i_iast (n := 10) rfl rfl (by first | omega | (simp (disch := omega) only [e_q, hI_nt]; omega)) (by first | omega | (simp (disch := omega) only [e_q, hI_nt]; omega)) (by first | omega | (simp (disch := omega) only [e_q, hI_nt]; omega)) (i_iconst k_1 (t_zret (by omega) ?_))))))))))))))) <;> (try (simp (disch := omega) only [e_q, hI_nt]))))
theorem c_X0_movePiece (hG : RC h b G) (hO : OKB G) {z s : Int} (hz : inR z) (hs : inR s) (h1 : 0 ≤ z → z < nn G → 0 ≤ s → s < 36 → (ons G s = -4 ∨ ons G s = z) → ∀ h', RC h' b (mov G z s) → FrC h h' b → Q (some (ai (I 1))) h') (h0 : ¬ ((0 ≤ z ∧ z < nn G) ∧ (0 ≤ s ∧ s < 36) ∧ (ons G s = -4 ∨ ons G s = z)) → Q (some (ai (I 0))) h) : Rn mt L (d + 3) 13 [ar 0 b, ai (I z), ai (I s)] h Q := by
  refine Rn.intro iX0_movePiece rfl rfl ?_
  show Rch bX0_movePiece _ _ _ _ 0 [some (ar 0 b), some (ai (I z)), some (ai (I s))] [] _
  have e_w := @RC.w _ _ _ hG
  have g_n := hO.n
  have g_p := hO.pc z
  have kA : ∀ h1, RC h1 b (mov G z 36) → FrC h h1 b → 0 ≤ z → z < nn G → sq G z < 36 → 0 ≤ s → s < 36 → (ons G s = -4 ∨ ons G s = z) → Q (some (ai (I 1))) (mset (mset h1 7 b z.toNat (I s)) 8 b s.toNat (I z)) := by
    intro m hm hF a1 a2 a3 a4 a5 a6
    have hO2 : OKB (mov G z 36) := OKB_mov hO (by omega) (by omega) (fun _ => by omega)
    have e1 : ons (mov G z 36) s = -4 := by
      rw [ons_mov hO a1 a2 (by omega) (by omega) (fun _ => by omega) a5, if_neg (by omega)]
      by_cases e : s = sq G z
      · rw [if_pos e]
      · rw [if_neg e]
        rcases a6 with a6 | a6
        · exact a6
        · rcases ons_c G s with ⟨q1, -⟩ | ⟨-, -, q3⟩
          · exact q1
          · rw [a6] at q3; exact absurd q3.symm e
    have := hm.place hO2 a1 a2 (by rw [sq_mov, if_pos rfl]) a4 a5 e1
    rw [mov_mov] at this
    exact h1 a1 a2 a4 a5 a6 _ this ((hF.ms (by omega)).ms (by omega))
  have kB : 0 ≤ z → z < nn G → sq G z = 36 → 0 ≤ s → s < 36 → (ons G s = -4 ∨ ons G s = z) → Q (some (ai (I 1))) (mset (mset h 7 b z.toNat (I s)) 8 b s.toNat (I z)) := by
    intro a1 a2 a3 a4 a5 a6
    have e1 : ons G s = -4 := by
      rcases a6 with a6 | a6
      · exact a6
      · rcases ons_c G s with ⟨q1, -⟩ | ⟨-, -, q3⟩
        · exact q1
        · rw [a6] at q3; omega
    exact h1 a1 a2 a4 a5 a6 _ (hG.place hO a1 a2 a3 a4 a5 e1) ((FrC.rf.ms (by omega)).ms (by omega))
  repeat' (first
    | exact kA _ (by assumption) (by assumption) (by omega) (by omega) (by omega) (by omega) (by omega) (by omega)
    | exact kB (by omega) (by omega) (by omega) (by omega) (by omega) (by omega)
    | exact h0 (by omega)
    | (show Rn _ _ _ 1 _ _ _; refine c_X0_has (by assumption) (by assumption) (by first | omega | exact hI_R) (fun _ _ => ?_) (fun _ => ?_))
    | (show Rn _ _ _ 11 _ _ _; refine c_X3_isSquare (by first | omega | exact hI_R) (fun _ _ => ?_) (fun _ => ?_))
    | (show Rn _ _ _ 12 _ _ _; refine c_X0_takeOff (by assumption) (by assumption) (by first | omega | exact hI_R) (fun _ _ _ _ _ _ => ?_) (fun _ => ?_))
    | (show Rch _ _ _ _ _ 0 _ _ _; refine Rch.blk' (Rn_mono mt _ _) bl_X0_movePiece_0 (i_aload_n rfl (i_iload_n rfl (t_cv2 (Rn_mono mt _ _) 5 rfl (Nat.le_of_ble_eq_true rfl) ?_))))
    | (show Rch _ _ _ _ _ 5 _ _ _; refine Rch.blk' (Rn_mono mt _ _) bl_X0_movePiece_5 (t_if_eq 36 8 rfl rfl (by first | exact hI_R | exact band_R | exact bor_R | exact bshr_R | exact lcm_R | omega | (simp (disch := omega) only [e_w]; omega)) (fun hc => ?_) (fun hc => ?_)) <;> (first | (exfalso; omega) | skip))
    | (show Rch _ _ _ _ _ 8 _ _ _; refine Rch.blk' (Rn_mono mt _ _) bl_X0_movePiece_8 (i_iload_n rfl (t_cs1 (Rn_mono mt _ _) 12 rfl (Nat.le_of_ble_eq_true rfl) ?_)))
    | (show Rch _ _ _ _ _ 12 _ _ _; refine Rch.blk' (Rn_mono mt _ _) bl_X0_movePiece_12 (t_if_eq 36 15 rfl rfl (by first | exact hI_R | exact band_R | exact bor_R | exact bshr_R | exact lcm_R | omega | (simp (disch := omega) only [e_w]; omega)) (fun hc => ?_) (fun hc => ?_)) <;> (first | (exfalso; omega) | skip))
    | (show Rch _ _ _ _ _ 15 _ _ _; refine Rch.blk' (Rn_mono mt _ _) bl_X0_movePiece_15 (i_aload_n rfl (i_gfr rfl (i_iload_n rfl (i_iald (n := 36) rfl (by first | omega | (simp (disch := omega) only [e_w]; omega)) (by first | omega | (simp (disch := omega) only [e_w]; omega)) (by first | omega | (simp (disch := omega) only [e_w]; omega)) (i_bipush k_m4 (t_ic_eq 38 26 rfl rfl (by first | exact hI_R | exact band_R | exact bor_R | exact bshr_R | exact lcm_R | omega | (simp (disch := omega) only [e_w]; omega)) (by first | exact hI_R | exact band_R | exact bor_R | exact bshr_R | exact lcm_R | omega | (simp (disch := omega) only [e_w]; omega)) (fun hc => ?_) (fun hc => ?_))))))) <;> (try (simp (disch := omega) only [e_w] at hc ⊢)) <;> (first | (exfalso; omega) | skip))
    | (show Rch _ _ _ _ _ 26 _ _ _; refine Rch.blk' (Rn_mono mt _ _) bl_X0_movePiece_26 (i_aload_n rfl (i_gfr rfl (i_iload_n rfl (i_iald (n := 36) rfl (by first | omega | (simp (disch := omega) only [e_w]; omega)) (by first | omega | (simp (disch := omega) only [e_w]; omega)) (by first | omega | (simp (disch := omega) only [e_w]; omega)) (i_iload_n rfl (t_ic_eq 38 36 rfl rfl (by first | exact hI_R | exact band_R | exact bor_R | exact bshr_R | exact lcm_R | omega | (simp (disch := omega) only [e_w]; omega)) (by first | exact hI_R | exact band_R | exact bor_R | exact bshr_R | exact lcm_R | omega | (simp (disch := omega) only [e_w]; omega)) (fun hc => ?_) (fun hc => ?_))))))) <;> (try (simp (disch := omega) only [e_w] at hc ⊢)) <;> (first | (exfalso; omega) | skip))
    | (show Rch _ _ _ _ _ 36 _ _ _; refine Rch.blk' (Rn_mono mt _ _) bl_X0_movePiece_36 (i_iconst k_0 (t_zret (by omega) ?_)))
    | (show Rch _ _ _ _ _ 38 _ _ _; refine Rch.blk' (Rn_mono mt _ _) bl_X0_movePiece_38 (i_aload_n rfl (i_iload_n rfl (t_cv2 (Rn_mono mt _ _) 43 rfl (Nat.le_of_ble_eq_true rfl) ?_))))
    | (show Rch _ _ _ _ _ 43 _ _ _; refine Rch.blk' (Rn_mono mt _ _) bl_X0_movePiece_43 (i_pop rfl (i_aload_n rfl (i_gfr rfl (i_iload_n rfl (i_iload_n rfl (i_iast (n := 10) rfl rfl (by first | omega | (simp (disch := omega) only [e_w]; omega)) (by first | omega | (simp (disch := omega) only [e_w]; omega)) (by first | omega | (simp (disch := omega) only [e_w]; omega)) (i_aload_n rfl (i_gfr rfl (i_iload_n rfl (i_iload_n rfl (i_iast (n := 36) rfl rfl (by first | omega | (simp (disch := omega) only [e_w]; omega)) (by first | omega | (simp (disch := omega) only [e_w]; omega)) (by first | omega | (simp (disch := omega) only [e_w]; omega)) (i_iconst k_1 (t_zret (by omega) ?_))))))))))))) <;> (try (simp (disch := omega) only [e_w]))))
theorem c_X0_turnInto (hG : RC h b G) (hO : OKB G) {z k f : Int} (hz : inR z) (hk : inR k) (hf : inR f) (h1 : 0 ≤ z → z < nn G → (0 ≤ k ∧ k < 8) → (0 ≤ f ∧ f < 10) → ∀ h', RC h' b (stk G z k f) → FrC h h' b → Q (some (ai (I 1))) h') (h0 : ¬ ((0 ≤ z ∧ z < nn G) ∧ (0 ≤ k ∧ k < 8) ∧ (0 ≤ f ∧ f < 10)) → Q (some (ai (I 0))) h) : Rn mt L (d + 2) 14 [ar 0 b, ai (I z), ai (I k), ai (I f)] h Q := by
  refine Rn.intro iX0_turnInto rfl rfl ?_
  show Rch bX0_turnInto _ _ _ _ 0 [some (ar 0 b), some (ai (I z)), some (ai (I k)), some (ai (I f))] [] _
  have g_n := hO.n
  have k1 : 0 ≤ z → z < nn G → (0 ≤ k ∧ k < 8) → (0 ≤ f ∧ f < 10) → Q (some (ai (I 1))) (mset (mset h 4 b z.toNat (I k)) 5 b z.toNat (I f)) := fun a1 a2 a3 a4 => h1 a1 a2 a3 a4 _ (hG.sk hO a1 a3 a4) ((FrC.rf.ms (by omega)).ms (by omega))
  repeat' (first
    | exact k1 (by omega) (by omega) (by omega) (by omega)
    | exact h0 (by omega)
    | (show Rn _ _ _ 1 _ _ _; refine c_X0_has (by assumption) (by assumption) (by first | omega | exact hI_R) (fun _ _ => ?_) (fun _ => ?_))
    | (show Rn _ _ _ 7 _ _ _; refine c_X3_isKind (by first | omega | exact hI_R) (fun _ _ => ?_) (fun _ => ?_))
    | (show Rn _ _ _ 8 _ _ _; refine c_X3_isFigure (by first | omega | exact hI_R) (fun _ _ => ?_) (fun _ => ?_))
    | (show Rch _ _ _ _ _ 0 _ _ _; refine Rch.blk' (Rn_mono mt _ _) bl_X0_turnInto_0 (i_aload_n rfl (i_iload_n rfl (t_cv2 (Rn_mono mt _ _) 5 rfl (Nat.le_of_ble_eq_true rfl) ?_))))
    | (show Rch _ _ _ _ _ 5 _ _ _; refine Rch.blk' (Rn_mono mt _ _) bl_X0_turnInto_5 (t_if_eq 22 8 rfl rfl (by first | exact hI_R | exact band_R | exact bor_R | exact bshr_R | exact lcm_R | omega) (fun hc => ?_) (fun hc => ?_)) <;> (first | (exfalso; omega) | skip))
    | (show Rch _ _ _ _ _ 8 _ _ _; refine Rch.blk' (Rn_mono mt _ _) bl_X0_turnInto_8 (i_iload_n rfl (t_cs1 (Rn_mono mt _ _) 12 rfl (Nat.le_of_ble_eq_true rfl) ?_)))
    | (show Rch _ _ _ _ _ 12 _ _ _; refine Rch.blk' (Rn_mono mt _ _) bl_X0_turnInto_12 (t_if_eq 22 15 rfl rfl (by first | exact hI_R | exact band_R | exact bor_R | exact bshr_R | exact lcm_R | omega) (fun hc => ?_) (fun hc => ?_)) <;> (first | (exfalso; omega) | skip))
    | (show Rch _ _ _ _ _ 15 _ _ _; refine Rch.blk' (Rn_mono mt _ _) bl_X0_turnInto_15 (i_iload_n rfl (t_cs1 (Rn_mono mt _ _) 19 rfl (Nat.le_of_ble_eq_true rfl) ?_)))
    | (show Rch _ _ _ _ _ 19 _ _ _; refine Rch.blk' (Rn_mono mt _ _) bl_X0_turnInto_19 (t_if_ne 24 22 rfl rfl (by first | exact hI_R | exact band_R | exact bor_R | exact bshr_R | exact lcm_R | omega) (fun hc => ?_) (fun hc => ?_)) <;> (first | (exfalso; omega) | skip))
    | (show Rch _ _ _ _ _ 22 _ _ _; refine Rch.blk' (Rn_mono mt _ _) bl_X0_turnInto_22 (i_iconst k_0 (t_zret (by omega) ?_)))
    | (show Rch _ _ _ _ _ 24 _ _ _; refine Rch.blk' (Rn_mono mt _ _) bl_X0_turnInto_24 (i_aload_n rfl (i_gfr rfl (i_iload_n rfl (i_iload_n rfl (i_iast (n := 10) rfl rfl (by omega) (by omega) (by omega) (i_aload_n rfl (i_gfr rfl (i_iload_n rfl (i_iload_n rfl (i_iast (n := 10) rfl rfl (by omega) (by omega) (by omega) (i_iconst k_1 (t_zret (by omega) ?_))))))))))))))
theorem c_X0_addPiece (hG : RC h b G) (hO : OKB G) {k f s q : Int} (hk : inR k) (hf : inR f) (hs : inR s) (hq : inR q) (h1 : nn G < 10 → (0 ≤ k ∧ k < 8) → (0 ≤ f ∧ f < 10) → (s = 0 ∨ s = 1) → 0 ≤ q → q < 36 → ons G q = -4 → ∀ h', RC h' b (addp G k f s q) → FrC h h' b → Q (some (ai (I 1))) h') (h0 : ¬ (nn G < 10 ∧ (0 ≤ k ∧ k < 8) ∧ (0 ≤ f ∧ f < 10) ∧ (s = 0 ∨ s = 1) ∧ 0 ≤ q ∧ q < 36 ∧ ons G q = -4) → Q (some (ai (I 0))) h) : Rn mt L (d + 2) 10 [ar 0 b, ai (I k), ai (I f), ai (I s), ai (I q)] h Q := by
  refine Rn.intro iX0_addPiece rfl rfl ?_
  show Rch bX0_addPiece _ _ _ _ 0 [some (ar 0 b), some (ai (I k)), some (ai (I f)), some (ai (I s)), some (ai (I q))] [] _
  have e_n := hG.n
  have g_n := hO.n
  have k1 : nn G < 10 → (0 ≤ k ∧ k < 8) → (0 ≤ f ∧ f < 10) → (s = 0 ∨ s = 1) → 0 ≤ q → q < 36 → ons G q = -4 → Q (some (ai (I 1))) (mset (mset (mset (mset (mset (mset h 4 b (nn G).toNat (I k)) 5 b (nn G).toNat (I f)) 6 b (nn G).toNat (I s)) 7 b (nn G).toNat (I q)) 8 b q.toNat (I (nn G))) 0 b 5 (I (nn G + 1))) := fun a1 a2 a3 a4 a5 a6 a7 => h1 a1 a2 a3 a4 a5 a6 a7 _ (hG.add hO a1 a2 a3 a4 a5 a6 a7) ((((((FrC.rf.ms (by omega)).ms (by omega)).ms (by omega)).ms (by omega)).ms (by omega)).ms (by omega))
  repeat' (first
    | exact k1 (by omega) (by omega) (by omega) (by omega) (by omega) (by omega) (by omega)
    | exact h0 (by omega)
    | (show Rn _ _ _ 7 _ _ _; refine c_X3_isKind (by first | omega | exact hI_R) (fun _ _ => ?_) (fun _ => ?_))
    | (show Rn _ _ _ 8 _ _ _; refine c_X3_isFigure (by first | omega | exact hI_R) (fun _ _ => ?_) (fun _ => ?_))
    | (show Rn _ _ _ 9 _ _ _; refine c_X3_isSide (by first | omega | exact hI_R) (fun _ => ?_) (fun _ => ?_))
    | (show Rn _ _ _ 5 _ _ _; refine c_X0_isFree (by assumption) (by assumption) (by first | omega | exact hI_R) (fun _ _ _ => ?_) (fun _ => ?_))
    | (show Rch _ _ _ _ _ 0 _ _ _; refine Rch.blk' (Rn_mono mt _ _) bl_X0_addPiece_0 (i_aload_n rfl (i_gfi rfl (t_if_lt 46 7 rfl rfl (by first | exact hI_R | exact band_R | exact bor_R | exact bshr_R | exact lcm_R | omega | (simp (disch := omega) only [hI_nt, e_n]; omega)) (fun hc => ?_) (fun hc => ?_)))) <;> (try (simp (disch := omega) only [hI_nt, e_n] at hc ⊢)) <;> (first | (exfalso; omega) | skip))
    | (show Rch _ _ _ _ _ 7 _ _ _; refine Rch.blk' (Rn_mono mt _ _) bl_X0_addPiece_7 (i_aload_n rfl (i_gfi rfl (i_bipush k_10 (t_ic_ge 46 16 rfl rfl (by first | exact hI_R | exact band_R | exact bor_R | exact bshr_R | exact lcm_R | omega | (simp (disch := omega) only [hI_nt, e_n]; omega)) (by first | exact hI_R | exact band_R | exact bor_R | exact bshr_R | exact lcm_R | omega | (simp (disch := omega) only [hI_nt, e_n]; omega)) (fun hc => ?_) (fun hc => ?_))))) <;> (try (simp (disch := omega) only [hI_nt, e_n] at hc ⊢)) <;> (first | (exfalso; omega) | skip))
    | (show Rch _ _ _ _ _ 16 _ _ _; refine Rch.blk' (Rn_mono mt _ _) bl_X0_addPiece_16 (i_iload_n rfl (t_cs1 (Rn_mono mt _ _) 20 rfl (Nat.le_of_ble_eq_true rfl) ?_)))
    | (show Rch _ _ _ _ _ 20 _ _ _; refine Rch.blk' (Rn_mono mt _ _) bl_X0_addPiece_20 (t_if_eq 46 23 rfl rfl (by first | exact hI_R | exact band_R | exact bor_R | exact bshr_R | exact lcm_R | omega | (simp (disch := omega) only [hI_nt, e_n]; omega)) (fun hc => ?_) (fun hc => ?_)) <;> (first | (exfalso; omega) | skip))
    | (show Rch _ _ _ _ _ 23 _ _ _; refine Rch.blk' (Rn_mono mt _ _) bl_X0_addPiece_23 (i_iload_n rfl (t_cs1 (Rn_mono mt _ _) 27 rfl (Nat.le_of_ble_eq_true rfl) ?_)))
    | (show Rch _ _ _ _ _ 27 _ _ _; refine Rch.blk' (Rn_mono mt _ _) bl_X0_addPiece_27 (t_if_eq 46 30 rfl rfl (by first | exact hI_R | exact band_R | exact bor_R | exact bshr_R | exact lcm_R | omega | (simp (disch := omega) only [hI_nt, e_n]; omega)) (fun hc => ?_) (fun hc => ?_)) <;> (first | (exfalso; omega) | skip))
    | (show Rch _ _ _ _ _ 30 _ _ _; refine Rch.blk' (Rn_mono mt _ _) bl_X0_addPiece_30 (i_iload_n rfl (t_cs1 (Rn_mono mt _ _) 34 rfl (Nat.le_of_ble_eq_true rfl) ?_)))
    | (show Rch _ _ _ _ _ 34 _ _ _; refine Rch.blk' (Rn_mono mt _ _) bl_X0_addPiece_34 (t_if_eq 46 37 rfl rfl (by first | exact hI_R | exact band_R | exact bor_R | exact bshr_R | exact lcm_R | omega | (simp (disch := omega) only [hI_nt, e_n]; omega)) (fun hc => ?_) (fun hc => ?_)) <;> (first | (exfalso; omega) | skip))
    | (show Rch _ _ _ _ _ 37 _ _ _; refine Rch.blk' (Rn_mono mt _ _) bl_X0_addPiece_37 (i_aload_n rfl (i_iload rfl (t_cv2 (Rn_mono mt _ _) 43 rfl (Nat.le_of_ble_eq_true rfl) ?_))))
    | (show Rch _ _ _ _ _ 43 _ _ _; refine Rch.blk' (Rn_mono mt _ _) bl_X0_addPiece_43 (t_if_ne 48 46 rfl rfl (by first | exact hI_R | exact band_R | exact bor_R | exact bshr_R | exact lcm_R | omega | (simp (disch := omega) only [hI_nt, e_n]; omega)) (fun hc => ?_) (fun hc => ?_)) <;> (first | (exfalso; omega) | skip))
    | (show Rch _ _ _ _ _ 46 _ _ _; refine Rch.blk' (Rn_mono mt _ _) bl_X0_addPiece_46 (i_iconst k_0 (t_zret (by omega) ?_)))
    | (show Rch _ _ _ _ _ 48 _ _ _; refine Rch.blk' (Rn_mono mt _ _) bl_X0_addPiece_48 (i_aload_n rfl (i_gfr rfl (i_aload_n rfl (i_gfi rfl (i_iload_n rfl (i_iast (n := 10) rfl rfl (by first | omega | (simp (disch := omega) only [hI_nt, e_n]; omega)) (by first | omega | (simp (disch := omega) only [hI_nt, e_n]; omega)) (by first | omega | (simp (disch := omega) only [hI_nt, e_n]; omega)) (i_aload_n rfl (i_gfr rfl (i_aload_n rfl (i_gfi rfl (i_iload_n rfl (i_iast (n := 10) rfl rfl (by first | omega | (simp (disch := omega) only [hI_nt, e_n]; omega)) (by first | omega | (simp (disch := omega) only [hI_nt, e_n]; omega)) (by first | omega | (simp (disch := omega) only [hI_nt, e_n]; omega)) (i_aload_n rfl (i_gfr rfl (i_aload_n rfl (i_gfi rfl (i_iload_n rfl (i_iast (n := 10) rfl rfl (by first | omega | (simp (disch := omega) only [hI_nt, e_n]; omega)) (by first | omega | (simp (disch := omega) only [hI_nt, e_n]; omega)) (by first | omega | (simp (disch := omega) only [hI_nt, e_n]; omega)) (i_aload_n rfl (i_gfr rfl (i_aload_n rfl (i_gfi rfl (i_iload rfl (i_iast (n := 10) rfl rfl (by first | omega | (simp (disch := omega) only [hI_nt, e_n]; omega)) (by first | omega | (simp (disch := omega) only [hI_nt, e_n]; omega)) (by first | omega | (simp (disch := omega) only [hI_nt, e_n]; omega)) (i_aload_n rfl (i_gfr rfl (i_iload rfl (i_aload_n rfl (i_gfi rfl (i_iast (n := 36) rfl rfl (by first | omega | (simp (disch := omega) only [hI_nt, e_n]; omega)) (by first | omega | (simp (disch := omega) only [hI_nt, e_n]; omega)) (by first | omega | (simp (disch := omega) only [hI_nt, e_n]; omega)) (i_aload_n rfl (i_dup rfl (i_gfi rfl (i_iconst k_1 (i_iadd (i_pfi rfl (i_iconst k_1 (t_zret (by omega) ?_)))))))))))))))))))))))))))))))))))))) <;> (try (simp (disch := omega) only [hI_nt, e_n]))))
theorem c_X0_giveTurn (hG : RC h b G) {s : Int} (hs : inR s) (h1 : (s = 0 ∨ s = 1) → ∀ h', RC h' b (sett G s) → FrC h h' b → Q (some (ai (I 1))) h') (h0 : ¬ (s = 0 ∨ s = 1) → Q (some (ai (I 0))) h) : Rn mt L (d + 2) 15 [ar 0 b, ai (I s)] h Q := by
  refine Rn.intro iX0_giveTurn rfl rfl ?_
  show Rch bX0_giveTurn _ _ _ _ 0 [some (ar 0 b), some (ai (I s))] [] _
  have k1 : (s = 0 ∨ s = 1) → Q (some (ai (I 1))) (mset h 0 b 6 (I s)) := fun a1 => h1 a1 _ (hG.set_t hs) (FrC.rf.ms (by omega))
  repeat' (first
    | exact k1 (by omega)
    | exact h0 (by omega)
    | (show Rn _ _ _ 9 _ _ _; refine c_X3_isSide (by first | omega | exact hI_R) (fun _ => ?_) (fun _ => ?_))
    | (show Rch _ _ _ _ _ 0 _ _ _; refine Rch.blk' (Rn_mono mt _ _) bl_X0_giveTurn_0 (i_iload_n rfl (t_cs1 (Rn_mono mt _ _) 4 rfl (Nat.le_of_ble_eq_true rfl) ?_)))
    | (show Rch _ _ _ _ _ 4 _ _ _; refine Rch.blk' (Rn_mono mt _ _) bl_X0_giveTurn_4 (t_if_ne 9 7 rfl rfl (by first | exact hI_R | exact band_R | exact bor_R | exact bshr_R | exact lcm_R | omega) (fun hc => ?_) (fun hc => ?_)) <;> (first | (exfalso; omega) | skip))
    | (show Rch _ _ _ _ _ 7 _ _ _; refine Rch.blk' (Rn_mono mt _ _) bl_X0_giveTurn_7 (i_iconst k_0 (t_zret (by omega) ?_)))
    | (show Rch _ _ _ _ _ 9 _ _ _; refine Rch.blk' (Rn_mono mt _ _) bl_X0_giveTurn_9 (i_aload_n rfl (i_iload_n rfl (i_pfi rfl (i_iconst k_1 (t_zret (by omega) ?_)))))))
theorem c_X0_passDay (hG : RC h b G) (hO : OKB G) (hra : ra = 0 ∨ ra = 1) (hy : dy G < 900000) (hq : ∀ h', RC h' b (DAY G M ra) → FrC h h' b → ∀ v, ((v = 0 ∧ goer (setd G (dy G + 1)) M ra (dy G + 1) = -4) ∨ (v = 1 ∧ ¬ goer (setd G (dy G + 1)) M ra (dy G + 1) = -4)) → Q (some (ai (I v))) h') : Rn mt L (d + 5) 29 [ar 0 b, ai (I (BT M)), ai (I ra)] h Q := by
  refine Rn.intro iX0_passDay rfl rfl ?_
  show Rch bX0_passDay _ _ _ _ 0 [some (ar 0 b), some (ai (I (BT M))), some (ai (I ra)), none, none] [] _
  have e_d := hG.d
  have g_d := hO.2.2.2.1
  have g_t := hO.2.1
  have g_h := hO.2.2.1
  have hz : inR (dy G + 1) := ⟨by omega, by omega⟩
  have e_e := fun h => @hI_eq h 0 b 8 _ hz
  refine Rch.blk' (Rn_mono mt _ _) bl_X0_passDay_0 (i_aload_n rfl (i_dup rfl (i_gfi rfl (i_iconst k_1 (i_iadd (i_pfi rfl (i_aload_n rfl (i_aload_n rfl (i_gfi rfl (i_iload_n rfl (i_iload_n rfl (t_cv4 (Rn_mono mt _ _) 20 rfl (Nat.le_of_ble_eq_true rfl) ?_)))))))))))) <;> (try (simp (disch := omega) only [e_d, e_e]))
  have hG1 := hG.set_d hz
  have hO1 : OKB (setd G (dy G + 1)) := OKB_setd hO (by omega)
  have hF1 : FrC h (mset h 0 b 8 (I (dy G + 1))) b := FrC.rf.ms (by omega)
  generalize mset h 0 b 8 (I (dy G + 1)) = h1 at hG1 hF1 ⊢
  have e_d1 : hI h1 0 b 8 = dy G + 1 := hG1.d
  have e_o1 : hI h1 0 b 7 = th G := hG1.o
  have e_t1 : hI h1 0 b 6 = tn G := hG1.t
  have e_w1 := @RC.w _ _ _ hG1
  refine c_X0_goerOn (M := M) hG1 hO1 hra (by omega) (by omega) (fun g hg hgR => ?_)
  by_cases hg4 : g = -4
  · have hg' : goer (setd G (dy G + 1)) M ra (dy G + 1) = -4 := hg.symm.trans hg4
    have kN : ∀ v, v = (if th G < 9999 then th G + 1 else 9999) → Q (some (ai (I 0))) (mset (mset h1 0 b 7 (I v)) 0 b 6 (I (1 - tn G))) := by
      intro v hv
      refine hq _ ?_ ((hF1.ms (by omega)).ms (by omega)) 0 (Or.inl ⟨rfl, hg'⟩)
      rw [DAY_no hg', ← hv]
      exact (hG1.set_h ⟨by omega, by omega⟩).set_t ⟨by omega, by omega⟩
    repeat' (first
      | exact kN _ (by omega)
      | (show Rn _ _ _ 28 _ _ _; refine c_X0_goerOn (by assumption) (by assumption) (by omega) (by omega) (by omega) (fun _ _ _ => ?_))
      | (show Rn _ _ _ 23 _ _ _; refine c_X0_ideaOf (by assumption) (by assumption) (by first | omega | exact hI_R) (by omega) (by omega) (fun _ _ _ _ _ _ _ => ?_) (fun _ => ?_))
      | (show Rn _ _ _ 11 _ _ _; refine c_X3_isSquare (by first | omega | exact hI_R) (fun _ _ => ?_) (fun _ => ?_))
      | (show Rn _ _ _ 12 _ _ _; refine c_X0_takeOff (by assumption) (by assumption) (by first | omega | exact hI_R) (fun _ _ _ _ _ _ => ?_) (fun _ => ?_))
      | (show Rn _ _ _ 13 _ _ _; refine c_X0_movePiece (by assumption) (by assumption) (by first | omega | exact hI_R) (by first | omega | exact hI_R) (fun _ _ _ _ _ _ _ _ => ?_) (fun _ => ?_))
      | (show Rch _ _ _ _ _ 0 _ _ _; refine Rch.blk' (Rn_mono mt _ _) bl_X0_passDay_0 (i_aload_n rfl (i_dup rfl (i_gfi rfl (i_iconst k_1 (i_iadd (i_pfi rfl (i_aload_n rfl (i_aload_n rfl (i_gfi rfl (i_iload_n rfl (i_iload_n rfl (t_cv4 (Rn_mono mt _ _) 20 rfl (Nat.le_of_ble_eq_true rfl) ?_)))))))))))) <;> (try (simp (disch := omega) only [e_o1, e_t1, hI_nk])))
      | (show Rch _ _ _ _ _ 20 _ _ _; refine Rch.blk' (Rn_mono mt _ _) bl_X0_passDay_20 (i_istore3 trivial (i_iload_n rfl (i_bipush k_m4 (t_ic_ne 56 27 rfl rfl (by first | exact hI_R | exact band_R | exact bor_R | exact bshr_R | exact lcm_R | omega | (simp (disch := omega) only [e_o1, e_t1, hI_nk]; omega)) (by first | exact hI_R | exact band_R | exact bor_R | exact bshr_R | exact lcm_R | omega | (simp (disch := omega) only [e_o1, e_t1, hI_nk]; omega)) (fun hc => ?_) (fun hc => ?_))))) <;> (first | (exfalso; omega) | skip))
      | (show Rch _ _ _ _ _ 27 _ _ _; refine Rch.blk' (Rn_mono mt _ _) bl_X0_passDay_27 (i_aload_n rfl (i_aload_n rfl (i_gfi rfl (i_sipush k_9999 (t_ic_ge 47 38 rfl rfl (by first | exact hI_R | exact band_R | exact bor_R | exact bshr_R | exact lcm_R | omega | (simp (disch := omega) only [e_o1, e_t1, hI_nk]; omega)) (by first | exact hI_R | exact band_R | exact bor_R | exact bshr_R | exact lcm_R | omega | (simp (disch := omega) only [e_o1, e_t1, hI_nk]; omega)) (fun hc => ?_) (fun hc => ?_)))))) <;> (try (simp (disch := omega) only [e_o1, e_t1, hI_nk] at hc ⊢)) <;> (first | (exfalso; omega) | skip))
      | (show Rch _ _ _ _ _ 38 _ _ _; refine Rch.blk' (Rn_mono mt _ _) bl_X0_passDay_38 (i_aload_n rfl (i_gfi rfl (i_iconst k_1 (i_iadd (t_goto 50 rfl ?_))))) <;> (try (simp (disch := omega) only [e_o1, e_t1, hI_nk])))
      | (show Rch _ _ _ _ _ 47 _ _ _; refine Rch.blk' (Rn_mono mt _ _) bl_X0_passDay_47 (i_sipush k_9999 (t_none ?_)))
      | (show Rch _ _ _ _ _ 50 _ _ _; refine Rch.blk' (Rn_mono mt _ _) bl_X0_passDay_50 (i_pfi rfl (t_goto 95 rfl ?_)))
      | (show Rch _ _ _ _ _ 56 _ _ _; refine Rch.blk' (Rn_mono mt _ _) bl_X0_passDay_56 (i_aload_n rfl (i_iload_n rfl (i_aload_n rfl (i_gfi rfl (t_cv3 (Rn_mono mt _ _) 65 rfl (Nat.le_of_ble_eq_true rfl) ?_))))) <;> (try (simp (disch := omega) only [e_o1, e_t1, hI_nk])))
      | (show Rch _ _ _ _ _ 65 _ _ _; refine Rch.blk' (Rn_mono mt _ _) bl_X0_passDay_65 (i_istore4 trivial (i_iload rfl (t_cs1 (Rn_mono mt _ _) 72 rfl (Nat.le_of_ble_eq_true rfl) ?_))))
      | (show Rch _ _ _ _ _ 72 _ _ _; refine Rch.blk' (Rn_mono mt _ _) bl_X0_passDay_72 (t_if_eq 87 75 rfl rfl (by first | exact hI_R | exact band_R | exact bor_R | exact bshr_R | exact lcm_R | omega | (simp (disch := omega) only [e_o1, e_t1, hI_nk]; omega)) (fun hc => ?_) (fun hc => ?_)) <;> (first | (exfalso; omega) | skip))
      | (show Rch _ _ _ _ _ 75 _ _ _; refine Rch.blk' (Rn_mono mt _ _) bl_X0_passDay_75 (i_aload_n rfl (i_aload_n rfl (i_gfr rfl (i_iload rfl (i_iald (n := 36) rfl (by first | omega | (simp (disch := omega) only [e_o1, e_t1, hI_nk]; omega)) (by first | omega | (simp (disch := omega) only [e_o1, e_t1, hI_nk]; omega)) (by first | omega | (simp (disch := omega) only [e_o1, e_t1, hI_nk]; omega)) (t_cv2 (Rn_mono mt _ _) 86 rfl (Nat.le_of_ble_eq_true rfl) ?_)))))) <;> (try (simp (disch := omega) only [e_o1, e_t1, hI_nk])))
      | (show Rch _ _ _ _ _ 86 _ _ _; refine Rch.blk' (Rn_mono mt _ _) bl_X0_passDay_86 (i_pop rfl (t_none ?_)))
      | (show Rch _ _ _ _ _ 87 _ _ _; refine Rch.blk' (Rn_mono mt _ _) bl_X0_passDay_87 (i_aload_n rfl (i_iload_n rfl (i_iload rfl (t_cv3 (Rn_mono mt _ _) 94 rfl (Nat.le_of_ble_eq_true rfl) ?_)))))
      | (show Rch _ _ _ _ _ 94 _ _ _; refine Rch.blk' (Rn_mono mt _ _) bl_X0_passDay_94 (i_pop rfl (t_none ?_)))
      | (show Rch _ _ _ _ _ 95 _ _ _; refine Rch.blk' (Rn_mono mt _ _) bl_X0_passDay_95 (i_aload_n rfl (i_iconst k_1 (i_aload_n rfl (i_gfi rfl (i_isub (i_pfi rfl (i_iload_n rfl (i_bipush k_m4 (t_ic_eq 115 111 rfl rfl (by first | exact hI_R | exact band_R | exact bor_R | exact bshr_R | exact lcm_R | omega | (simp (disch := omega) only [e_o1, e_t1, hI_nk]; omega)) (by first | exact hI_R | exact band_R | exact bor_R | exact bshr_R | exact lcm_R | omega | (simp (disch := omega) only [e_o1, e_t1, hI_nk]; omega)) (fun hc => ?_) (fun hc => ?_)))))))))) <;> (try (simp (disch := omega) only [e_o1, e_t1, hI_nk] at hc ⊢)) <;> (first | (exfalso; omega) | skip))
      | (show Rch _ _ _ _ _ 111 _ _ _; refine Rch.blk' (Rn_mono mt _ _) bl_X0_passDay_111 (i_iconst k_1 (t_goto 116 rfl ?_)))
      | (show Rch _ _ _ _ _ 115 _ _ _; refine Rch.blk' (Rn_mono mt _ _) bl_X0_passDay_115 (i_iconst k_0 (t_none ?_)))
      | (show Rch _ _ _ _ _ 116 _ _ _; refine Rch.blk' (Rn_mono mt _ _) bl_X0_passDay_116 (t_zret (by omega) ?_)))
  · have hgo := goer_R (G := setd G (dy G + 1)) (M := M) (ra := ra) (y := dy G + 1) hO1
    rw [← hg] at hgo
    obtain ⟨g0, g1, gc⟩ : 0 ≤ g ∧ g < nn (setd G (dy G + 1)) ∧ cand (setd G (dy G + 1)) M (dy G + 1) g := by
      rcases hgo with e | e
      · exact absurd e hg4
      · exact e
    have gsq := gc.2.1
    have gid := gc.2.2.2
    have gn1 := hO1.n
    clear hgo
    refine Rch.blk' (Rn_mono mt _ _) bl_X0_passDay_20 (i_istore3 trivial (i_iload_n rfl (i_bipush k_m4 (t_ic_ne 56 27 rfl rfl (by first | exact hI_R | exact band_R | exact bor_R | exact bshr_R | exact lcm_R | omega) (by first | exact hI_R | exact band_R | exact bor_R | exact bshr_R | exact lcm_R | omega) (fun hc => ?_) (fun hc => ?_))))) <;> (first | (exfalso; omega) | skip)
    refine Rch.blk' (Rn_mono mt _ _) bl_X0_passDay_56 (i_aload_n rfl (i_iload_n rfl (i_aload_n rfl (i_gfi rfl (t_cv3 (Rn_mono mt _ _) 65 rfl (Nat.le_of_ble_eq_true rfl) ?_))))) <;> (try (simp (disch := omega) only [e_d1]))
    refine c_X0_ideaOf hG1 hO1 ⟨by omega, by omega⟩ (by omega) (by omega) (fun _ _ _ s hs s0 s1 => ?_) (fun hx => by exfalso; omega)
    have hsR := @ide_R (setd G (dy G + 1)) g (dy G + 1)
    have s2 : 0 ≤ s := by omega
    refine Rch.blk' (Rn_mono mt _ _) bl_X0_passDay_65 (i_istore4 trivial (i_iload rfl (t_cs1 (Rn_mono mt _ _) 72 rfl (Nat.le_of_ble_eq_true rfl) ?_)))
    refine c_X3_isSquare ⟨by omega, by omega⟩ (fun _ _ => ?_) (fun hx => by exfalso; omega)
    refine Rch.blk' (Rn_mono mt _ _) bl_X0_passDay_72 (t_if_eq 87 75 rfl rfl (by first | exact hI_R | exact band_R | exact bor_R | exact bshr_R | exact lcm_R | omega) (fun hc => ?_) (fun hc => ?_)) <;> (first | (exfalso; omega) | skip)
    refine Rch.blk' (Rn_mono mt _ _) bl_X0_passDay_75 (i_aload_n rfl (i_aload_n rfl (i_gfr rfl (i_iload rfl (i_iald (n := 36) rfl (by first | omega | (simp (disch := omega) only [e_w1]; omega)) (by first | omega | (simp (disch := omega) only [e_w1]; omega)) (by first | omega | (simp (disch := omega) only [e_w1]; omega)) (t_cv2 (Rn_mono mt _ _) 86 rfl (Nat.le_of_ble_eq_true rfl) ?_)))))) <;> (try (simp (disch := omega) only [e_w1]))
    have hmid : ∀ (x : Int) (h2 : Mem), RC h2 b (tof (setd G (dy G + 1)) (ons (setd G (dy G + 1)) s)) → FrC h1 h2 b → Rch bX0_passDay (Rn mt L (d + 4)) L (fun _ _ _ _ => False) Q 86 [some (ar 0 b), some (ai (I (BT M))), some (ai (I ra)), some (ai (I g)), some (ai (I s))] [ai (I x)] h2 := by
      intro x h2 hG2 hF2
      have hO2 := OKB_tof hO1 (ons (setd G (dy G + 1)) s)
      have hf2 := ons_tof hO1 s2 s1
      refine Rch.blk' (Rn_mono mt _ _) bl_X0_passDay_86 (i_pop rfl (t_none ?_))
      refine Rch.blk' (Rn_mono mt _ _) bl_X0_passDay_87 (i_aload_n rfl (i_iload_n rfl (i_iload rfl (t_cv3 (Rn_mono mt _ _) 94 rfl (Nat.le_of_ble_eq_true rfl) ?_))))
      refine c_X0_movePiece hG2 hO2 ⟨by omega, by omega⟩ ⟨by omega, by omega⟩ (fun _ _ _ _ _ h3 hG3 hF3 => ?_) (fun hx => absurd ⟨⟨g0, by rw [nn_tof]; exact g1⟩, ⟨s2, s1⟩, Or.inl hf2⟩ hx)
      have e_t3 : hI h3 0 b 6 = tn G := by rw [hG3.t]; unfold tof; split <;> rfl
      have kG : Q (some (ai (I 1))) (mset h3 0 b 6 (I (1 - tn G))) := by
        refine hq _ ?_ (((hF1.tr hF2).tr hF3).ms (by omega)) 1 (Or.inr ⟨rfl, by rw [← hg]; exact hg4⟩)
        rw [DAY_go hg.symm hg4 hs.symm]
        exact hG3.set_t ⟨by omega, by omega⟩
      repeat' (first
        | exact kG
        | (show Rn _ _ _ 28 _ _ _; refine c_X0_goerOn (by assumption) (by assumption) (by omega) (by omega) (by omega) (fun _ _ _ => ?_))
        | (show Rn _ _ _ 23 _ _ _; refine c_X0_ideaOf (by assumption) (by assumption) (by first | omega | exact hI_R) (by omega) (by omega) (fun _ _ _ _ _ _ _ => ?_) (fun _ => ?_))
        | (show Rn _ _ _ 11 _ _ _; refine c_X3_isSquare (by first | omega | exact hI_R) (fun _ _ => ?_) (fun _ => ?_))
        | (show Rn _ _ _ 12 _ _ _; refine c_X0_takeOff (by assumption) (by assumption) (by first | omega | exact hI_R) (fun _ _ _ _ _ _ => ?_) (fun _ => ?_))
        | (show Rn _ _ _ 13 _ _ _; refine c_X0_movePiece (by assumption) (by assumption) (by first | omega | exact hI_R) (by first | omega | exact hI_R) (fun _ _ _ _ _ _ _ _ => ?_) (fun _ => ?_))
        | (show Rch _ _ _ _ _ 0 _ _ _; refine Rch.blk' (Rn_mono mt _ _) bl_X0_passDay_0 (i_aload_n rfl (i_dup rfl (i_gfi rfl (i_iconst k_1 (i_iadd (i_pfi rfl (i_aload_n rfl (i_aload_n rfl (i_gfi rfl (i_iload_n rfl (i_iload_n rfl (t_cv4 (Rn_mono mt _ _) 20 rfl (Nat.le_of_ble_eq_true rfl) ?_)))))))))))) <;> (try (simp (disch := omega) only [e_t3])))
        | (show Rch _ _ _ _ _ 20 _ _ _; refine Rch.blk' (Rn_mono mt _ _) bl_X0_passDay_20 (i_istore3 trivial (i_iload_n rfl (i_bipush k_m4 (t_ic_ne 56 27 rfl rfl (by first | exact hI_R | exact band_R | exact bor_R | exact bshr_R | exact lcm_R | omega | (simp (disch := omega) only [e_t3]; omega)) (by first | exact hI_R | exact band_R | exact bor_R | exact bshr_R | exact lcm_R | omega | (simp (disch := omega) only [e_t3]; omega)) (fun hc => ?_) (fun hc => ?_))))) <;> (first | (exfalso; omega) | skip))
        | (show Rch _ _ _ _ _ 27 _ _ _; refine Rch.blk' (Rn_mono mt _ _) bl_X0_passDay_27 (i_aload_n rfl (i_aload_n rfl (i_gfi rfl (i_sipush k_9999 (t_ic_ge 47 38 rfl rfl (by first | exact hI_R | exact band_R | exact bor_R | exact bshr_R | exact lcm_R | omega | (simp (disch := omega) only [e_t3]; omega)) (by first | exact hI_R | exact band_R | exact bor_R | exact bshr_R | exact lcm_R | omega | (simp (disch := omega) only [e_t3]; omega)) (fun hc => ?_) (fun hc => ?_)))))) <;> (try (simp (disch := omega) only [e_t3] at hc ⊢)) <;> (first | (exfalso; omega) | skip))
        | (show Rch _ _ _ _ _ 38 _ _ _; refine Rch.blk' (Rn_mono mt _ _) bl_X0_passDay_38 (i_aload_n rfl (i_gfi rfl (i_iconst k_1 (i_iadd (t_goto 50 rfl ?_))))) <;> (try (simp (disch := omega) only [e_t3])))
        | (show Rch _ _ _ _ _ 47 _ _ _; refine Rch.blk' (Rn_mono mt _ _) bl_X0_passDay_47 (i_sipush k_9999 (t_none ?_)))
        | (show Rch _ _ _ _ _ 50 _ _ _; refine Rch.blk' (Rn_mono mt _ _) bl_X0_passDay_50 (i_pfi rfl (t_goto 95 rfl ?_)))
        | (show Rch _ _ _ _ _ 56 _ _ _; refine Rch.blk' (Rn_mono mt _ _) bl_X0_passDay_56 (i_aload_n rfl (i_iload_n rfl (i_aload_n rfl (i_gfi rfl (t_cv3 (Rn_mono mt _ _) 65 rfl (Nat.le_of_ble_eq_true rfl) ?_))))) <;> (try (simp (disch := omega) only [e_t3])))
        | (show Rch _ _ _ _ _ 65 _ _ _; refine Rch.blk' (Rn_mono mt _ _) bl_X0_passDay_65 (i_istore4 trivial (i_iload rfl (t_cs1 (Rn_mono mt _ _) 72 rfl (Nat.le_of_ble_eq_true rfl) ?_))))
        | (show Rch _ _ _ _ _ 72 _ _ _; refine Rch.blk' (Rn_mono mt _ _) bl_X0_passDay_72 (t_if_eq 87 75 rfl rfl (by first | exact hI_R | exact band_R | exact bor_R | exact bshr_R | exact lcm_R | omega | (simp (disch := omega) only [e_t3]; omega)) (fun hc => ?_) (fun hc => ?_)) <;> (first | (exfalso; omega) | skip))
        | (show Rch _ _ _ _ _ 75 _ _ _; refine Rch.blk' (Rn_mono mt _ _) bl_X0_passDay_75 (i_aload_n rfl (i_aload_n rfl (i_gfr rfl (i_iload rfl (i_iald (n := 36) rfl (by first | omega | (simp (disch := omega) only [e_t3]; omega)) (by first | omega | (simp (disch := omega) only [e_t3]; omega)) (by first | omega | (simp (disch := omega) only [e_t3]; omega)) (t_cv2 (Rn_mono mt _ _) 86 rfl (Nat.le_of_ble_eq_true rfl) ?_)))))) <;> (try (simp (disch := omega) only [e_t3])))
        | (show Rch _ _ _ _ _ 86 _ _ _; refine Rch.blk' (Rn_mono mt _ _) bl_X0_passDay_86 (i_pop rfl (t_none ?_)))
        | (show Rch _ _ _ _ _ 87 _ _ _; refine Rch.blk' (Rn_mono mt _ _) bl_X0_passDay_87 (i_aload_n rfl (i_iload_n rfl (i_iload rfl (t_cv3 (Rn_mono mt _ _) 94 rfl (Nat.le_of_ble_eq_true rfl) ?_)))))
        | (show Rch _ _ _ _ _ 94 _ _ _; refine Rch.blk' (Rn_mono mt _ _) bl_X0_passDay_94 (i_pop rfl (t_none ?_)))
        | (show Rch _ _ _ _ _ 95 _ _ _; refine Rch.blk' (Rn_mono mt _ _) bl_X0_passDay_95 (i_aload_n rfl (i_iconst k_1 (i_aload_n rfl (i_gfi rfl (i_isub (i_pfi rfl (i_iload_n rfl (i_bipush k_m4 (t_ic_eq 115 111 rfl rfl (by first | exact hI_R | exact band_R | exact bor_R | exact bshr_R | exact lcm_R | omega | (simp (disch := omega) only [e_t3]; omega)) (by first | exact hI_R | exact band_R | exact bor_R | exact bshr_R | exact lcm_R | omega | (simp (disch := omega) only [e_t3]; omega)) (fun hc => ?_) (fun hc => ?_)))))))))) <;> (try (simp (disch := omega) only [e_t3] at hc ⊢)) <;> (first | (exfalso; omega) | skip))
        | (show Rch _ _ _ _ _ 111 _ _ _; refine Rch.blk' (Rn_mono mt _ _) bl_X0_passDay_111 (i_iconst k_1 (t_goto 116 rfl ?_)))
        | (show Rch _ _ _ _ _ 115 _ _ _; refine Rch.blk' (Rn_mono mt _ _) bl_X0_passDay_115 (i_iconst k_0 (t_none ?_)))
        | (show Rch _ _ _ _ _ 116 _ _ _; refine Rch.blk' (Rn_mono mt _ _) bl_X0_passDay_116 (t_zret (by omega) ?_)))
    refine c_X0_takeOff hG1 hO1 (R_ons hO1 s) (fun a1 a2 a3 h2 hG2 hF2 => hmid 1 h2 ?_ hF2) (fun hx => hmid 0 h1 ?_ FrC.rf)
    · rw [tof, if_neg (by omega)]; exact hG2
    · rcases ons_c (setd G (dy G + 1)) s with ⟨e, -⟩ | ⟨a, c, e⟩
      · rw [tof, if_pos e]; exact hG1
      · exact absurd ⟨a, c, by rw [e]; exact s1⟩ hx
theorem c_X0_passDay0 (hG : RC h b G) (hO : OKB G) (hra : ra = 0 ∨ ra = 1) (hy : dy G < 900000) (hq : ∀ h', RC h' b (DAY G no0 ra) → FrC h h' b → ∀ v, ((v = 0 ∧ goer (setd G (dy G + 1)) no0 ra (dy G + 1) = -4) ∨ (v = 1 ∧ ¬ goer (setd G (dy G + 1)) no0 ra (dy G + 1) = -4)) → Q (some (ai (I v))) h') : Rn mt L (d + 5) 29 [ar 0 b, ai (I 0), ai (I ra)] h Q := by
  have := c_X0_passDay (L := L) (d := d) (M := no0) hG hO hra hy hq
  rw [show BT no0 = 0 from BT_emp] at this
  exact this
theorem c_X0_passDays (hG : RC h b G) (hO : OKB G) {n : Int} (n0 : 0 ≤ n) (n1 : n ≤ 1000) (hy : dy G < 800000) (hq : ∀ h', RC h' b (DN G no0 n) → FrC h h' b → Q none h') : Rn mt L (d + 6) 31 [ar 0 b, ai (I n)] h Q := by
  refine Rn.intro iX0_passDays rfl rfl ?_
  show Rch bX0_passDays _ _ _ _ 0 [some (ar 0 b), some (ai (I n)), none] [] _
  have key : ∀ k : Int, k ≤ n → 0 ≤ k → ∀ h', RC h' b (DN G no0 k) → FrC h h' b → RH L bX0_passDays (d + 5) Q 2 [some (ar 0 b), some (ai (I n)), some (ai (I k))] h' := by
    refine up_ind (fun k hk ih hk0 h' hG' hF' => ?_)
    obtain ⟨hO', -, hd', -⟩ := DN_f (M := no0) hO k hk0
    by_cases hk1 : k < n
    · have ih := ih hk1 (by omega)
      rw [DN_up hk0] at ih
      refine Rch.blk' (Rn_mono mt _ _) bl_X0_passDays_2 (i_iload_n rfl (i_iload_n rfl (t_ic_ge 20 7 rfl rfl (by first | exact hI_R | exact band_R | exact bor_R | exact bshr_R | exact lcm_R | omega) (by first | exact hI_R | exact band_R | exact bor_R | exact bshr_R | exact lcm_R | omega) (fun hc => ?_) (fun hc => ?_)))) <;> (first | (exfalso; omega) | skip)
      refine Rch.blk' (Rn_mono mt _ _) bl_X0_passDays_7 (i_aload_n rfl (i_iconst k_0 (i_iconst k_0 (t_cv3 (Rn_mono mt _ _) 13 rfl (Nat.le_of_ble_eq_true rfl) ?_))))
      refine c_X0_passDay0 hG' hO' (by omega) (by omega) (fun h2 hG2 hF2 v _ => ?_)
      repeat' (first
        | exact ih _ hG2 (hF'.tr hF2)
        | (show Rch _ _ _ _ _ 0 _ _ _; refine Rch.blk' (Rn_mono mt _ _) bl_X0_passDays_0 (i_iconst k_0 (i_istore2 trivial (t_none ?_))))
        | (show Rch _ _ _ _ _ 7 _ _ _; refine Rch.blk' (Rn_mono mt _ _) bl_X0_passDays_7 (i_aload_n rfl (i_iconst k_0 (i_iconst k_0 (t_cv3 (Rn_mono mt _ _) 13 rfl (Nat.le_of_ble_eq_true rfl) ?_)))))
        | (show Rch _ _ _ _ _ 13 _ _ _; refine Rch.blk' (Rn_mono mt _ _) bl_X0_passDays_13 (i_pop rfl (i_iinc2 trivial k_1 (t_goto 2 rfl ?_))))
        | (show Rch _ _ _ _ _ 20 _ _ _; refine Rch.blk' (Rn_mono mt _ _) bl_X0_passDays_20 (t_vret ?_)))
    · obtain rfl : k = n := by omega
      refine Rch.blk' (Rn_mono mt _ _) bl_X0_passDays_2 (i_iload_n rfl (i_iload_n rfl (t_ic_ge 20 7 rfl rfl (by first | exact hI_R | exact band_R | exact bor_R | exact bshr_R | exact lcm_R | omega) (by first | exact hI_R | exact band_R | exact bor_R | exact bshr_R | exact lcm_R | omega) (fun hc => ?_) (fun hc => ?_)))) <;> (first | (exfalso; omega) | skip)
      repeat' (first
        | exact hq _ hG' hF'
        | (show Rch _ _ _ _ _ 0 _ _ _; refine Rch.blk' (Rn_mono mt _ _) bl_X0_passDays_0 (i_iconst k_0 (i_istore2 trivial (t_none ?_))))
        | (show Rch _ _ _ _ _ 7 _ _ _; refine Rch.blk' (Rn_mono mt _ _) bl_X0_passDays_7 (i_aload_n rfl (i_iconst k_0 (i_iconst k_0 (t_cv3 (Rn_mono mt _ _) 13 rfl (Nat.le_of_ble_eq_true rfl) ?_)))))
        | (show Rch _ _ _ _ _ 13 _ _ _; refine Rch.blk' (Rn_mono mt _ _) bl_X0_passDays_13 (i_pop rfl (i_iinc2 trivial k_1 (t_goto 2 rfl ?_))))
        | (show Rch _ _ _ _ _ 20 _ _ _; refine Rch.blk' (Rn_mono mt _ _) bl_X0_passDays_20 (t_vret ?_)))
  repeat' (first
    | exact key 0 (by omega) (by omega) _ hG FrC.rf
    | (show Rch _ _ _ _ _ 0 _ _ _; refine Rch.blk' (Rn_mono mt _ _) bl_X0_passDays_0 (i_iconst k_0 (i_istore2 trivial (t_none ?_))))
    | (show Rch _ _ _ _ _ 7 _ _ _; refine Rch.blk' (Rn_mono mt _ _) bl_X0_passDays_7 (i_aload_n rfl (i_iconst k_0 (i_iconst k_0 (t_cv3 (Rn_mono mt _ _) 13 rfl (Nat.le_of_ble_eq_true rfl) ?_)))))
    | (show Rch _ _ _ _ _ 13 _ _ _; refine Rch.blk' (Rn_mono mt _ _) bl_X0_passDays_13 (i_pop rfl (i_iinc2 trivial k_1 (t_goto 2 rfl ?_))))
    | (show Rch _ _ _ _ _ 20 _ _ _; refine Rch.blk' (Rn_mono mt _ _) bl_X0_passDays_20 (t_vret ?_)))
theorem c_X0_passWithinLast (hG : RC h b G) (hO : OKB G) {n : Int} (hn : inR n) (hy : dy G ≤ 999) (h1 : 1 ≤ n → n ≤ 60 → dy G + n ≤ 999 → ∀ h', RC h' b (DN G no0 n) → FrC h h' b → Q (some (ai (I 1))) h') (h0 : ¬ (1 ≤ n ∧ n ≤ 60 ∧ dy G + n ≤ 999) → Q (some (ai (I 0))) h) : Rn mt L (d + 6) 30 [ar 0 b, ai (I n)] h Q := by
  refine Rn.intro iX0_passWithinLast rfl rfl ?_
  show Rch bX0_passWithinLast _ _ _ _ 0 [some (ar 0 b), some (ai (I n)), none] [] _
  have e_d := hG.d
  have g_d := hO.2.2.2.1
  have key : 1 ≤ n → n ≤ 60 → dy G + n ≤ 999 → ∀ k : Int, k ≤ n → 0 ≤ k → ∀ h', RC h' b (DN G no0 k) → FrC h h' b → RH L bX0_passWithinLast (d + 5) Q 27 [some (ar 0 b), some (ai (I n)), some (ai (I k))] h' := by
    intro n0 n1 n2
    refine up_ind (fun k hk ih hk0 h' hG' hF' => ?_)
    obtain ⟨hO', -, hd', -⟩ := DN_f (M := no0) hO k hk0
    by_cases hk1 : k < n
    · have ih := ih hk1 (by omega)
      rw [DN_up hk0] at ih
      refine Rch.blk' (Rn_mono mt _ _) bl_X0_passWithinLast_27 (i_iload_n rfl (i_iload_n rfl (t_ic_ge 45 32 rfl rfl (by first | exact hI_R | exact band_R | exact bor_R | exact bshr_R | exact lcm_R | omega) (by first | exact hI_R | exact band_R | exact bor_R | exact bshr_R | exact lcm_R | omega) (fun hc => ?_) (fun hc => ?_)))) <;> (first | (exfalso; omega) | skip)
      refine Rch.blk' (Rn_mono mt _ _) bl_X0_passWithinLast_32 (i_aload_n rfl (i_iconst k_0 (i_iconst k_0 (t_cv3 (Rn_mono mt _ _) 38 rfl (Nat.le_of_ble_eq_true rfl) ?_))))
      refine c_X0_passDay0 hG' hO' (by omega) (by omega) (fun h2 hG2 hF2 v _ => ?_)
      repeat' (first
        | exact ih _ hG2 (hF'.tr hF2)
        | (show Rch _ _ _ _ _ 0 _ _ _; refine Rch.blk' (Rn_mono mt _ _) bl_X0_passWithinLast_0 (i_iload_n rfl (i_iconst k_1 (t_ic_lt 23 5 rfl rfl (by first | exact hI_R | exact band_R | exact bor_R | exact bshr_R | exact lcm_R | omega) (by first | exact hI_R | exact band_R | exact bor_R | exact bshr_R | exact lcm_R | omega) (fun hc => ?_) (fun hc => ?_)))) <;> (first | (exfalso; omega) | skip))
        | (show Rch _ _ _ _ _ 5 _ _ _; refine Rch.blk' (Rn_mono mt _ _) bl_X0_passWithinLast_5 (i_iload_n rfl (i_bipush k_60 (t_ic_gt 23 11 rfl rfl (by first | exact hI_R | exact band_R | exact bor_R | exact bshr_R | exact lcm_R | omega) (by first | exact hI_R | exact band_R | exact bor_R | exact bshr_R | exact lcm_R | omega) (fun hc => ?_) (fun hc => ?_)))) <;> (first | (exfalso; omega) | skip))
        | (show Rch _ _ _ _ _ 11 _ _ _; refine Rch.blk' (Rn_mono mt _ _) bl_X0_passWithinLast_11 (i_aload_n rfl (i_gfi rfl (i_iload_n rfl (i_iadd (i_sipush k_999 (t_ic_le 25 23 rfl rfl (by first | exact hI_R | exact band_R | exact bor_R | exact bshr_R | exact lcm_R | omega) (by first | exact hI_R | exact band_R | exact bor_R | exact bshr_R | exact lcm_R | omega) (fun hc => ?_) (fun hc => ?_))))))) <;> (first | (exfalso; omega) | skip))
        | (show Rch _ _ _ _ _ 23 _ _ _; refine Rch.blk' (Rn_mono mt _ _) bl_X0_passWithinLast_23 (i_iconst k_0 (t_zret (by omega) ?_)))
        | (show Rch _ _ _ _ _ 25 _ _ _; refine Rch.blk' (Rn_mono mt _ _) bl_X0_passWithinLast_25 (i_iconst k_0 (i_istore2 trivial (t_none ?_))))
        | (show Rch _ _ _ _ _ 32 _ _ _; refine Rch.blk' (Rn_mono mt _ _) bl_X0_passWithinLast_32 (i_aload_n rfl (i_iconst k_0 (i_iconst k_0 (t_cv3 (Rn_mono mt _ _) 38 rfl (Nat.le_of_ble_eq_true rfl) ?_)))))
        | (show Rch _ _ _ _ _ 38 _ _ _; refine Rch.blk' (Rn_mono mt _ _) bl_X0_passWithinLast_38 (i_pop rfl (i_iinc2 trivial k_1 (t_goto 27 rfl ?_))))
        | (show Rch _ _ _ _ _ 45 _ _ _; refine Rch.blk' (Rn_mono mt _ _) bl_X0_passWithinLast_45 (i_iconst k_1 (t_zret (by omega) ?_))))
    · obtain rfl : k = n := by omega
      refine Rch.blk' (Rn_mono mt _ _) bl_X0_passWithinLast_27 (i_iload_n rfl (i_iload_n rfl (t_ic_ge 45 32 rfl rfl (by first | exact hI_R | exact band_R | exact bor_R | exact bshr_R | exact lcm_R | omega) (by first | exact hI_R | exact band_R | exact bor_R | exact bshr_R | exact lcm_R | omega) (fun hc => ?_) (fun hc => ?_)))) <;> (first | (exfalso; omega) | skip)
      repeat' (first
        | exact h1 (by omega) (by omega) (by omega) _ hG' hF'
        | (show Rch _ _ _ _ _ 0 _ _ _; refine Rch.blk' (Rn_mono mt _ _) bl_X0_passWithinLast_0 (i_iload_n rfl (i_iconst k_1 (t_ic_lt 23 5 rfl rfl (by first | exact hI_R | exact band_R | exact bor_R | exact bshr_R | exact lcm_R | omega) (by first | exact hI_R | exact band_R | exact bor_R | exact bshr_R | exact lcm_R | omega) (fun hc => ?_) (fun hc => ?_)))) <;> (first | (exfalso; omega) | skip))
        | (show Rch _ _ _ _ _ 5 _ _ _; refine Rch.blk' (Rn_mono mt _ _) bl_X0_passWithinLast_5 (i_iload_n rfl (i_bipush k_60 (t_ic_gt 23 11 rfl rfl (by first | exact hI_R | exact band_R | exact bor_R | exact bshr_R | exact lcm_R | omega) (by first | exact hI_R | exact band_R | exact bor_R | exact bshr_R | exact lcm_R | omega) (fun hc => ?_) (fun hc => ?_)))) <;> (first | (exfalso; omega) | skip))
        | (show Rch _ _ _ _ _ 11 _ _ _; refine Rch.blk' (Rn_mono mt _ _) bl_X0_passWithinLast_11 (i_aload_n rfl (i_gfi rfl (i_iload_n rfl (i_iadd (i_sipush k_999 (t_ic_le 25 23 rfl rfl (by first | exact hI_R | exact band_R | exact bor_R | exact bshr_R | exact lcm_R | omega) (by first | exact hI_R | exact band_R | exact bor_R | exact bshr_R | exact lcm_R | omega) (fun hc => ?_) (fun hc => ?_))))))) <;> (first | (exfalso; omega) | skip))
        | (show Rch _ _ _ _ _ 23 _ _ _; refine Rch.blk' (Rn_mono mt _ _) bl_X0_passWithinLast_23 (i_iconst k_0 (t_zret (by omega) ?_)))
        | (show Rch _ _ _ _ _ 25 _ _ _; refine Rch.blk' (Rn_mono mt _ _) bl_X0_passWithinLast_25 (i_iconst k_0 (i_istore2 trivial (t_none ?_))))
        | (show Rch _ _ _ _ _ 32 _ _ _; refine Rch.blk' (Rn_mono mt _ _) bl_X0_passWithinLast_32 (i_aload_n rfl (i_iconst k_0 (i_iconst k_0 (t_cv3 (Rn_mono mt _ _) 38 rfl (Nat.le_of_ble_eq_true rfl) ?_)))))
        | (show Rch _ _ _ _ _ 38 _ _ _; refine Rch.blk' (Rn_mono mt _ _) bl_X0_passWithinLast_38 (i_pop rfl (i_iinc2 trivial k_1 (t_goto 27 rfl ?_))))
        | (show Rch _ _ _ _ _ 45 _ _ _; refine Rch.blk' (Rn_mono mt _ _) bl_X0_passWithinLast_45 (i_iconst k_1 (t_zret (by omega) ?_))))
  repeat' (first
    | exact key (by omega) (by omega) (by omega) 0 (by omega) (by omega) _ hG FrC.rf
    | exact h0 (by omega)
    | (show Rch _ _ _ _ _ 0 _ _ _; refine Rch.blk' (Rn_mono mt _ _) bl_X0_passWithinLast_0 (i_iload_n rfl (i_iconst k_1 (t_ic_lt 23 5 rfl rfl (by first | exact hI_R | exact band_R | exact bor_R | exact bshr_R | exact lcm_R | omega | (simp (disch := omega) only [e_d]; omega)) (by first | exact hI_R | exact band_R | exact bor_R | exact bshr_R | exact lcm_R | omega | (simp (disch := omega) only [e_d]; omega)) (fun hc => ?_) (fun hc => ?_)))) <;> (first | (exfalso; omega) | skip))
    | (show Rch _ _ _ _ _ 5 _ _ _; refine Rch.blk' (Rn_mono mt _ _) bl_X0_passWithinLast_5 (i_iload_n rfl (i_bipush k_60 (t_ic_gt 23 11 rfl rfl (by first | exact hI_R | exact band_R | exact bor_R | exact bshr_R | exact lcm_R | omega | (simp (disch := omega) only [e_d]; omega)) (by first | exact hI_R | exact band_R | exact bor_R | exact bshr_R | exact lcm_R | omega | (simp (disch := omega) only [e_d]; omega)) (fun hc => ?_) (fun hc => ?_)))) <;> (first | (exfalso; omega) | skip))
    | (show Rch _ _ _ _ _ 11 _ _ _; refine Rch.blk' (Rn_mono mt _ _) bl_X0_passWithinLast_11 (i_aload_n rfl (i_gfi rfl (i_iload_n rfl (i_iadd (i_sipush k_999 (t_ic_le 25 23 rfl rfl (by first | exact hI_R | exact band_R | exact bor_R | exact bshr_R | exact lcm_R | omega | (simp (disch := omega) only [e_d]; omega)) (by first | exact hI_R | exact band_R | exact bor_R | exact bshr_R | exact lcm_R | omega | (simp (disch := omega) only [e_d]; omega)) (fun hc => ?_) (fun hc => ?_))))))) <;> (try (simp (disch := omega) only [e_d] at hc ⊢)) <;> (first | (exfalso; omega) | skip))
    | (show Rch _ _ _ _ _ 23 _ _ _; refine Rch.blk' (Rn_mono mt _ _) bl_X0_passWithinLast_23 (i_iconst k_0 (t_zret (by omega) ?_)))
    | (show Rch _ _ _ _ _ 25 _ _ _; refine Rch.blk' (Rn_mono mt _ _) bl_X0_passWithinLast_25 (i_iconst k_0 (i_istore2 trivial (t_none ?_))))
    | (show Rch _ _ _ _ _ 32 _ _ _; refine Rch.blk' (Rn_mono mt _ _) bl_X0_passWithinLast_32 (i_aload_n rfl (i_iconst k_0 (i_iconst k_0 (t_cv3 (Rn_mono mt _ _) 38 rfl (Nat.le_of_ble_eq_true rfl) ?_)))))
    | (show Rch _ _ _ _ _ 38 _ _ _; refine Rch.blk' (Rn_mono mt _ _) bl_X0_passWithinLast_38 (i_pop rfl (i_iinc2 trivial k_1 (t_goto 27 rfl ?_))))
    | (show Rch _ _ _ _ _ 45 _ _ _; refine Rch.blk' (Rn_mono mt _ _) bl_X0_passWithinLast_45 (i_iconst k_1 (t_zret (by omega) ?_))))
theorem mcp_ne {h : Mem} {t0 b0 sp t1 b1 dp n : Nat} {t b k : Nat} (ht : ¬ t = t1) : hI (mcpy h t0 b0 sp t1 b1 dp n) t b k = hI h t b k := by
  unfold hI mcpy; rw [if_neg (fun z => ht z.1)]
theorem mcp_nb {h : Mem} {t0 b0 sp t1 b1 dp n : Nat} {t b k : Nat} (ht : ¬ b = b1) : hI (mcpy h t0 b0 sp t1 b1 dp n) t b k = hI h t b k := by
  unfold hI mcpy; rw [if_neg (fun z => ht z.2)]
theorem mcp_eq {h : Mem} {t0 b0 t1 b1 n : Nat} {k : Nat} (hk : k < n) : hI (mcpy h t0 b0 0 t1 b1 0 n) t1 b1 k = hI h t0 b0 k := by
  unfold hI mcpy va_cpy; rw [if_pos ⟨rfl, rfl⟩, if_pos (by omega)]; simp
theorem FrC.cp {h h' : Mem} {b t0 b0 sp t1 dp n : Nat} (a : FrC h h' b) (ht : t1 = 0 ∨ (4 ≤ t1 ∧ t1 ≤ 8)) : FrC h (mcpy h' t0 b0 sp t1 b dp n) b := by
  intro t' b' k' hn
  rw [← a t' b' k' hn]
  by_cases e : b' = b
  · exact mcp_ne (fun z => hn ⟨e, by rw [z]; exact ht⟩)
  · exact mcp_nb e
theorem c_X0_becomes {b1 : Nat} (hG : RC h b1 G) (hO : OKB G) (hb : ¬ b1 = b) (hq : ∀ h', RC h' b G → FrC h h' b → Q none h') : Rn mt L (d + 1) 0 [ar 0 b, ar 0 b1] h Q := by
  refine Rn.intro iX0_becomes rfl rfl ?_
  show Rch bX0_becomes _ _ _ _ 0 [some (ar 0 b), some (ar 0 b1)] [] _
  have e_n := hG.n
  have e_t := hG.t
  have e_o := hG.o
  have e_d := hG.d
  have g_n := hO.n
  have g_t := hO.2.1
  have g_h := hO.2.2.1
  have r_d : inR (dy G) := by rw [← e_d]; exact hI_R
  refine Rch.blk' (Rn_mono mt _ _) bl_X0_becomes_0 (i_aload_n rfl (i_gfr rfl (i_iconst k_0 (i_aload_n rfl (i_gfr rfl (i_iconst k_0 (i_bipush k_10 (i_acp (n1 := 10) (n2 := 10) rfl rfl rfl (by first | omega | (simp (disch := omega) only [mcp_ne, hI_nb, e_n, e_t, e_o, e_d]; omega)) (by first | omega | (simp (disch := omega) only [mcp_ne, hI_nb, e_n, e_t, e_o, e_d]; omega)) (by first | omega | (simp (disch := omega) only [mcp_ne, hI_nb, e_n, e_t, e_o, e_d]; omega)) (by first | omega | (simp (disch := omega) only [mcp_ne, hI_nb, e_n, e_t, e_o, e_d]; omega)) (by first | omega | (simp (disch := omega) only [mcp_ne, hI_nb, e_n, e_t, e_o, e_d]; omega)) (by first | omega | (simp (disch := omega) only [mcp_ne, hI_nb, e_n, e_t, e_o, e_d]; omega)) (by first | omega | (simp (disch := omega) only [mcp_ne, hI_nb, e_n, e_t, e_o, e_d]; omega)) (Nat.le_of_ble_eq_true rfl) (i_aload_n rfl (i_gfr rfl (i_iconst k_0 (i_aload_n rfl (i_gfr rfl (i_iconst k_0 (i_bipush k_10 (i_acp (n1 := 10) (n2 := 10) rfl rfl rfl (by first | omega | (simp (disch := omega) only [mcp_ne, hI_nb, e_n, e_t, e_o, e_d]; omega)) (by first | omega | (simp (disch := omega) only [mcp_ne, hI_nb, e_n, e_t, e_o, e_d]; omega)) (by first | omega | (simp (disch := omega) only [mcp_ne, hI_nb, e_n, e_t, e_o, e_d]; omega)) (by first | omega | (simp (disch := omega) only [mcp_ne, hI_nb, e_n, e_t, e_o, e_d]; omega)) (by first | omega | (simp (disch := omega) only [mcp_ne, hI_nb, e_n, e_t, e_o, e_d]; omega)) (by first | omega | (simp (disch := omega) only [mcp_ne, hI_nb, e_n, e_t, e_o, e_d]; omega)) (by first | omega | (simp (disch := omega) only [mcp_ne, hI_nb, e_n, e_t, e_o, e_d]; omega)) (Nat.le_of_ble_eq_true rfl) (i_aload_n rfl (i_gfr rfl (i_iconst k_0 (i_aload_n rfl (i_gfr rfl (i_iconst k_0 (i_bipush k_10 (i_acp (n1 := 10) (n2 := 10) rfl rfl rfl (by first | omega | (simp (disch := omega) only [mcp_ne, hI_nb, e_n, e_t, e_o, e_d]; omega)) (by first | omega | (simp (disch := omega) only [mcp_ne, hI_nb, e_n, e_t, e_o, e_d]; omega)) (by first | omega | (simp (disch := omega) only [mcp_ne, hI_nb, e_n, e_t, e_o, e_d]; omega)) (by first | omega | (simp (disch := omega) only [mcp_ne, hI_nb, e_n, e_t, e_o, e_d]; omega)) (by first | omega | (simp (disch := omega) only [mcp_ne, hI_nb, e_n, e_t, e_o, e_d]; omega)) (by first | omega | (simp (disch := omega) only [mcp_ne, hI_nb, e_n, e_t, e_o, e_d]; omega)) (by first | omega | (simp (disch := omega) only [mcp_ne, hI_nb, e_n, e_t, e_o, e_d]; omega)) (Nat.le_of_ble_eq_true rfl) (i_aload_n rfl (i_gfr rfl (i_iconst k_0 (i_aload_n rfl (i_gfr rfl (i_iconst k_0 (i_bipush k_10 (i_acp (n1 := 10) (n2 := 10) rfl rfl rfl (by first | omega | (simp (disch := omega) only [mcp_ne, hI_nb, e_n, e_t, e_o, e_d]; omega)) (by first | omega | (simp (disch := omega) only [mcp_ne, hI_nb, e_n, e_t, e_o, e_d]; omega)) (by first | omega | (simp (disch := omega) only [mcp_ne, hI_nb, e_n, e_t, e_o, e_d]; omega)) (by first | omega | (simp (disch := omega) only [mcp_ne, hI_nb, e_n, e_t, e_o, e_d]; omega)) (by first | omega | (simp (disch := omega) only [mcp_ne, hI_nb, e_n, e_t, e_o, e_d]; omega)) (by first | omega | (simp (disch := omega) only [mcp_ne, hI_nb, e_n, e_t, e_o, e_d]; omega)) (by first | omega | (simp (disch := omega) only [mcp_ne, hI_nb, e_n, e_t, e_o, e_d]; omega)) (Nat.le_of_ble_eq_true rfl) (i_aload_n rfl (i_gfr rfl (i_iconst k_0 (i_aload_n rfl (i_gfr rfl (i_iconst k_0 (i_bipush k_36 (i_acp (n1 := 36) (n2 := 36) rfl rfl rfl (by first | omega | (simp (disch := omega) only [mcp_ne, hI_nb, e_n, e_t, e_o, e_d]; omega)) (by first | omega | (simp (disch := omega) only [mcp_ne, hI_nb, e_n, e_t, e_o, e_d]; omega)) (by first | omega | (simp (disch := omega) only [mcp_ne, hI_nb, e_n, e_t, e_o, e_d]; omega)) (by first | omega | (simp (disch := omega) only [mcp_ne, hI_nb, e_n, e_t, e_o, e_d]; omega)) (by first | omega | (simp (disch := omega) only [mcp_ne, hI_nb, e_n, e_t, e_o, e_d]; omega)) (by first | omega | (simp (disch := omega) only [mcp_ne, hI_nb, e_n, e_t, e_o, e_d]; omega)) (by first | omega | (simp (disch := omega) only [mcp_ne, hI_nb, e_n, e_t, e_o, e_d]; omega)) (Nat.le_of_ble_eq_true rfl) (i_aload_n rfl (i_aload_n rfl (i_gfi rfl (i_pfi rfl (i_aload_n rfl (i_aload_n rfl (i_gfi rfl (i_pfi rfl (i_aload_n rfl (i_aload_n rfl (i_gfi rfl (i_pfi rfl (i_aload_n rfl (i_aload_n rfl (i_gfi rfl (i_pfi rfl (t_vret ?_))))))))))))))))))))))))))))))))))))))))))))))))))))))))) <;> (try (simp (disch := omega) only [mcp_ne, hI_nb, e_n, e_t, e_o, e_d]))
  refine hq _ ⟨?_, ?_, ?_, ?_, fun p p0 p1 => ⟨?_, ?_, ?_, ?_⟩, fun q q0 q1 => ?_⟩ ?_
  · rw [hI_nk (by omega), hI_nk (by omega), hI_nk (by omega), hI_eq ⟨by omega, by omega⟩]
  · rw [hI_nk (by omega), hI_nk (by omega), hI_eq ⟨by omega, by omega⟩]
  · rw [hI_nk (by omega), hI_eq ⟨by omega, by omega⟩]
  · rw [hI_eq r_d]
  · simp (disch := omega) only [hI_nt, mcp_ne]; rw [show Int.toNat 0 = 0 from rfl, mcp_eq (by omega)]; exact hG.k p0 p1
  · simp (disch := omega) only [hI_nt, mcp_ne]; rw [show Int.toNat 0 = 0 from rfl, mcp_eq (by omega)]; simp (disch := omega) only [hI_nt, mcp_ne]; exact hG.f p0 p1
  · simp (disch := omega) only [hI_nt, mcp_ne]; rw [show Int.toNat 0 = 0 from rfl, mcp_eq (by omega)]; simp (disch := omega) only [hI_nt, mcp_ne]; exact hG.s p0 p1
  · simp (disch := omega) only [hI_nt, mcp_ne]; rw [show Int.toNat 0 = 0 from rfl, mcp_eq (by omega)]; simp (disch := omega) only [hI_nt, mcp_ne]; exact hG.q p0 p1
  · simp (disch := omega) only [hI_nt]; rw [show Int.toNat 0 = 0 from rfl, mcp_eq (by omega)]; simp (disch := omega) only [hI_nt, mcp_ne]; exact hG.w q0 q1
  · exact ((((((((FrC.rf.cp (by omega)).cp (by omega)).cp (by omega)).cp (by omega)).cp (by omega)).ms (by omega)).ms (by omega)).ms (by omega)).ms (by omega)
end C7


