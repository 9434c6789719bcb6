/-! WHO HEARS, WHO GOES: both sides -/
def er (G : Bd) (ra i : Int) : Int := if ra = 0 then ea (kd G i) (fg G i) else 1
abbrev HC (G : Bd) (ra p i : Int) : Prop := sd G i = sd G p ∧ sq G i < 36 ∧ fr (sq G i) (sq G p) ≤ er G ra i
def HS (G : Bd) (ra p i : Int) : Prop := i < nn G ∧ (i = p ∨ HC G ra p i)
noncomputable def NH (G : Bd) (ra p : Int) : Int := cnt (HS G ra p) 10
abbrev OC (G : Bd) (s i : Int) : Prop := sd G i = s ∧ sq G i < 36
def OS (G : Bd) (s i : Int) : Prop := i < nn G ∧ OC G s i
def TS (G : Bd) (i : Int) : Prop := i < nn G ∧ sq G i < 36
noncomputable def CT (G : Bd) (s : Int) : Int := cnt (OC G s) (nn G)
noncomputable def NT (G : Bd) : Int := cnt (fun i => sq G i < 36) (nn G)
noncomputable def WO (G : Bd) (s : Int) : Int := SM (fun i => ifp (OC G s i) (wo (kd G i) (fg G i)) 0) (nn G)
noncomputable def gb (C : Int → Prop) (w : Int → Int) : Nat → Int
  | 0 => -4
  | n + 1 => ifp (C (n : Int) ∧ (gb C w n < 0 ∨ w (gb C w n) < w (n : Int))) (n : Int) (gb C w n)
noncomputable def GB (C : Int → Prop) (w : Int → Int) (k : Int) : Int := gb C w k.toNat
theorem GB_0 {C : Int → Prop} {w : Int → Int} : GB C w 0 = -4 := rfl
theorem GB_up {C : Int → Prop} {w : Int → Int} {k : Int} (h0 : 0 ≤ k) : GB C w (k + 1) = ifp (C k ∧ (GB C w k < 0 ∨ w (GB C w k) < w k)) k (GB C w k) := by
  obtain ⟨n, rfl⟩ := Int.eq_ofNat_of_zero_le h0
  unfold GB
  rw [show ((n : Int) + 1).toNat = n + 1 by omega, show ((n : Int)).toNat = n by omega]
  rfl
theorem GB_R {C : Int → Prop} {w : Int → Int} : ∀ k : Int, 0 ≤ k → (GB C w k = -4 ∨ (0 ≤ GB C w k ∧ GB C w k < k ∧ C (GB C w k))) := by
  refine ind0 (Or.inl rfl) (fun k h0 ih => ?_)
  rw [GB_up h0]
  by_cases hc : C k ∧ (GB C w k < 0 ∨ w (GB C w k) < w k)
  · rw [ifp_p hc]; exact Or.inr ⟨h0, by omega, hc.1⟩
  · rw [ifp_n hc]
    rcases ih with ih | ⟨a, b, c⟩
    · exact Or.inl ih
    · exact Or.inr ⟨a, by omega, c⟩
abbrev cand (G : Bd) (M : Int → Prop) (y p : Int) : Prop := sd G p = tn G ∧ sq G p < 36 ∧ ¬ M p ∧ ¬ ide G p y = -4
noncomputable def goer (G : Bd) (M : Int → Prop) (ra y : Int) : Int := if 0 ≤ GB (cand G M y) (NH G ra) (nn G) ∧ CT G (tn G) < 2 * NH G ra (GB (cand G M y) (NH G ra) (nn G)) then GB (cand G M y) (NH G ra) (nn G) else -4
theorem goer_R {G : Bd} {M : Int → Prop} {ra y : Int} (hO : OKB G) : goer G M ra y = -4 ∨ (0 ≤ goer G M ra y ∧ goer G M ra y < nn G ∧ cand G M y (goer G M ra y)) := by
  unfold goer
  split
  · rename_i hc
    rcases GB_R (C := cand G M y) (w := NH G ra) (nn G) hO.n.1 with e | e
    · omega
    · exact Or.inr e
  · exact Or.inl rfl
theorem cnt_pos {C : Int → Prop} {j : Int} (hj : 0 ≤ j) (hC : C j) : ∀ k : Int, 0 ≤ k → j < k → 1 ≤ cnt C k := by
  refine ind0 (fun h => by omega) (fun k h0 ih hk => ?_)
  have := cnt_R (C := C) (k := k) h0
  by_cases hjk : j = k
  · subst hjk; rw [cnt_u1 h0 hC]; omega
  · by_cases hCk : C k
    · rw [cnt_u1 h0 hCk]; omega
    · rw [cnt_u0 h0 hCk]; exact ih (by omega)
theorem NH_R {G : Bd} {ra p : Int} (hO : OKB G) (h0 : 0 ≤ p) (h1 : p < nn G) : 1 ≤ NH G ra p ∧ NH G ra p ≤ 10 := by
  have := hO.n
  refine ⟨cnt_pos h0 ⟨h1, Or.inl rfl⟩ 10 (by omega) (by omega), (cnt_R (by omega)).2⟩
theorem cut10 {G : Bd} (hO : OKB G) (C : Int → Prop) : cnt (fun i => i < nn G ∧ C i) 10 = cnt C (nn G) := by
  have := hO.n
  have e := cnt_cut (C := C) this.1 (10 - nn G) (by omega)
  rw [show nn G + (10 - nn G) = 10 by omega] at e
  exact e
theorem OS_cnt {G : Bd} (hO : OKB G) (s : Int) : cnt (OS G s) 10 = CT G s := cut10 hO (OC G s)
theorem TS_cnt {G : Bd} (hO : OKB G) : cnt (TS G) 10 = NT G := cut10 hO (fun i => sq G i < 36)
theorem NT_eq {G : Bd} (hO : OKB G) : CT G 0 + CT G 1 = NT G := by
  have key : ∀ k : Int, 0 ≤ k → k ≤ nn G → cnt (OC G 0) k + cnt (OC G 1) k = cnt (fun i => sq G i < 36) k := by
    refine ind0 (fun _ => rfl) (fun k h0 ih hk => ?_)
    have ih := ih (by omega)
    have g := hO.pc k h0 (by omega)
    by_cases hq : sq G k < 36
    · by_cases hs : sd G k = 0
      · rw [cnt_u1 (C := OC G 0) h0 ⟨hs, hq⟩, cnt_u0 (C := OC G 1) h0 (fun z => by omega), cnt_u1 (C := fun i => sq G i < 36) h0 hq]; omega
      · rw [cnt_u0 (C := OC G 0) h0 (fun z => by omega), cnt_u1 (C := OC G 1) h0 ⟨by omega, hq⟩, cnt_u1 (C := fun i => sq G i < 36) h0 hq]; omega
    · rw [cnt_u0 (C := OC G 0) h0 (fun z => hq z.2), cnt_u0 (C := OC G 1) h0 (fun z => hq z.2), cnt_u0 (C := fun i => sq G i < 36) h0 hq]; omega
  exact key (nn G) hO.n.1 (by omega)
theorem CT_R {G : Bd} (hO : OKB G) (s : Int) : 0 ≤ CT G s ∧ CT G s ≤ 10 := by
  have := cnt_R (C := OC G s) hO.n.1
  have := hO.n
  unfold CT
  omega
theorem NT_R {G : Bd} (hO : OKB G) : 0 ≤ NT G ∧ NT G ≤ 10 := by
  have := cnt_R (C := fun i => sq G i < 36) hO.n.1
  have := hO.n
  unfold NT
  omega
theorem ea_R {k f : Int} (h0 : 0 ≤ f) (h1 : f ≤ 10) : 0 ≤ ea k f ∧ ea k f ≤ 20 := by unfold ea; omega
theorem wo_R {k f : Int} (h0 : 0 ≤ f) (h1 : f ≤ 10) : 1 ≤ wo k f ∧ wo k f ≤ 9 := by unfold wo; omega
theorem woS_R {G : Bd} (hO : OKB G) (C : Int → Prop) : ∀ k : Int, 0 ≤ k → k ≤ nn G → 0 ≤ SM (fun i => ifp (C i) (wo (kd G i) (fg G i)) 0) k ∧ SM (fun i => ifp (C i) (wo (kd G i) (fg G i)) 0) k ≤ 9 * k := by
  refine SM_R (by omega) (fun i h0 h1 => ?_)
  have g := hO.pc i h0 h1
  have g2 := @wo_R (kd G i) (fg G i) (by omega) (by omega)
  by_cases hc : C i
  · rw [ifp_p hc]; omega
  · rw [ifp_n hc]; omega
theorem WO_R {G : Bd} (hO : OKB G) (s : Int) : 0 ≤ WO G s ∧ WO G s ≤ 90 := by
  have := woS_R hO (OC G s) (nn G) hO.n.1 (by omega)
  have := hO.n
  unfold WO
  omega
section C5
variable {d L : Nat} {h : Mem} {Q : Option AV → Mem → Prop} {b : Nat} {G : Bd} {M : Int → Prop} {ra : Int}
theorem c_X0_hearersOf (hG : RC h b G) (hO : OKB G) (hra : ra = 0 ∨ ra = 1) {z : Int} (hz : inR z) (h1 : 0 ≤ z → z < nn G → sq G z < 36 → Q (some (ai (I (BT (HS G ra z))))) h) (h0 : ¬ (0 ≤ z ∧ z < nn G ∧ sq G z < 36) → Q (some (ai (I 0))) h) : Rn mt L (d + 3) 25 [ar 0 b, ai (I z), ai (I ra)] h Q := by
  refine Rn.intro iX0_hearersOf rfl rfl ?_
  show Rch bX0_hearersOf _ _ _ _ 0 [some (ar 0 b), some (ai (I z)), some (ai (I ra)), none, none, none] [] _
  have e_n := hG.n
  have e_k := @RC.k _ _ _ hG
  have e_f := @RC.f _ _ _ hG
  have e_s := @RC.s _ _ _ hG
  have e_q := @RC.q _ _ _ hG
  have g_n := hO.n
  have key : 0 ≤ z → z < nn G → sq G z < 36 → ∀ k : Int, k ≤ nn G → 0 ≤ k → ∀ u : Option AV, RH L bX0_hearersOf (d + 2) Q 17 [some (ar 0 b), some (ai (I z)), some (ai (I ra)), some (ai (I (BT (fun i => i = z ∨ (i < k ∧ HC G ra z i))))), some (ai (I k)), u] h := by
    intro z0 z1 z2
    have g_z := hO.pc z z0 z1
    refine up_ind (fun k hk ih hk0 u => ?_)
    by_cases hk1 : k < nn G
    · have g_k := hO.pc k hk0 hk1
      have g_e : ra = 0 → er G ra k = ea (kd G k) (fg G k) := fun e => if_pos e
      have g_e1 : ra = 1 → er G ra k = 1 := fun e => if_neg (by omega)
      have ih1 : (sd G k = sd G z ∧ sq G k < 36 ∧ fr (sq G k) (sq G z) ≤ er G ra k) → ∀ u : Option AV, RH L bX0_hearersOf (d + 2) Q 17 [some (ar 0 b), some (ai (I z)), some (ai (I ra)), some (ai (I (bor (BT (fun i => i = z ∨ (i < k ∧ HC G ra z i))) (bshl 1 k)))), some (ai (I (k + 1))), u] h := by
        intro hC u
        rw [BT_upA (C := HC G ra z) hk0 (by omega) hC]
        exact ih hk1 (by omega) u
      have ih0 : ¬ (sd G k = sd G z ∧ sq G k < 36 ∧ fr (sq G k) (sq G z) ≤ er G ra k) → ∀ u : Option AV, RH L bX0_hearersOf (d + 2) Q 17 [some (ar 0 b), some (ai (I z)), some (ai (I ra)), some (ai (I (BT (fun i => i = z ∨ (i < k ∧ HC G ra z i))))), some (ai (I (k + 1))), u] h := by
        intro hC u
        rw [BT_upB (C := HC G ra z) hC]
        exact ih hk1 (by omega) u
      clear ih
      refine Rch.blk' (Rn_mono mt _ _) bl_X0_hearersOf_17 (i_iload rfl (i_aload_n rfl (i_gfi rfl (t_ic_ge 102 26 rfl rfl (by first | exact hI_R | exact band_R | exact bor_R | exact bshr_R | exact lcm_R | omega | (simp (disch := omega) only [e_n]; omega)) (by first | exact hI_R | exact band_R | exact bor_R | exact bshr_R | exact lcm_R | omega | (simp (disch := omega) only [e_n]; omega)) (fun hc => ?_) (fun hc => ?_))))) <;> (try (simp (disch := omega) only [e_n] at hc ⊢)) <;> (first | (exfalso; omega) | skip)
      repeat' (first
        | exact ih1 (by omega) _
        | exact ih0 (by omega) _
        | (show Rn _ _ _ 2 _ _ _; refine c_X0_isThere (by assumption) (by assumption) (by first | omega | exact hI_R) (fun _ _ _ _ => ?_) (fun _ => ?_))
        | (show Rn _ _ _ 3 _ _ _; refine c_X0_isThereOf (by assumption) (by assumption) (by first | omega | exact hI_R) (by first | omega | exact hI_R) (fun _ _ _ _ _ => ?_) (fun _ => ?_))
        | (show Rn _ _ _ 24 _ _ _; refine c_X1_earsWith (by omega) (by omega) (by omega) (fun _ _ => ?_))
        | (show Rn _ _ _ 20 _ _ _; refine c_X3_far (by omega) (by omega) (by omega) (by omega) (fun _ _ => ?_))
        | (show Rch _ _ _ _ _ 0 _ _ _; refine Rch.blk' (Rn_mono mt _ _) bl_X0_hearersOf_0 (i_aload_n rfl (i_iload_n rfl (t_cv2 (Rn_mono mt _ _) 5 rfl (Nat.le_of_ble_eq_true rfl) ?_))))
        | (show Rch _ _ _ _ _ 5 _ _ _; refine Rch.blk' (Rn_mono mt _ _) bl_X0_hearersOf_5 (t_if_ne 10 8 rfl rfl (by first | exact hI_R | exact band_R | exact bor_R | exact bshr_R | exact lcm_R | omega | (simp (disch := omega) only [e_n, e_k, e_f, e_s, e_q]; omega)) (fun hc => ?_) (fun hc => ?_)) <;> (first | (exfalso; omega) | skip))
        | (show Rch _ _ _ _ _ 8 _ _ _; refine Rch.blk' (Rn_mono mt _ _) bl_X0_hearersOf_8 (i_iconst k_0 (t_iret ?_)))
        | (show Rch _ _ _ _ _ 10 _ _ _; refine Rch.blk' (Rn_mono mt _ _) bl_X0_hearersOf_10 (i_iconst k_1 (i_iload_n rfl (i_ishl (i_istore3 trivial (i_iconst k_0 (i_istore4 trivial (t_none ?_))))))))
        | (show Rch _ _ _ _ _ 26 _ _ _; refine Rch.blk' (Rn_mono mt _ _) bl_X0_hearersOf_26 (i_aload_n rfl (i_iload rfl (i_aload_n rfl (i_gfr rfl (i_iload_n rfl (i_iald (n := 10) rfl (by first | omega | (simp (disch := omega) only [e_n, e_k, e_f, e_s, e_q]; omega)) (by first | omega | (simp (disch := omega) only [e_n, e_k, e_f, e_s, e_q]; omega)) (by first | omega | (simp (disch := omega) only [e_n, e_k, e_f, e_s, e_q]; omega)) (t_cv3 (Rn_mono mt _ _) 38 rfl (Nat.le_of_ble_eq_true rfl) ?_))))))) <;> (try (simp (disch := omega) only [e_n, e_k, e_f, e_s, e_q])))
        | (show Rch _ _ _ _ _ 38 _ _ _; refine Rch.blk' (Rn_mono mt _ _) bl_X0_hearersOf_38 (t_if_eq 96 41 rfl rfl (by first | exact hI_R | exact band_R | exact bor_R | exact bshr_R | exact lcm_R | omega | (simp (disch := omega) only [e_n, e_k, e_f, e_s, e_q]; omega)) (fun hc => ?_) (fun hc => ?_)) <;> (first | (exfalso; omega) | skip))
        | (show Rch _ _ _ _ _ 41 _ _ _; refine Rch.blk' (Rn_mono mt _ _) bl_X0_hearersOf_41 (i_iload_n rfl (t_if_eq 49 45 rfl rfl (by first | exact hI_R | exact band_R | exact bor_R | exact bshr_R | exact lcm_R | omega | (simp (disch := omega) only [e_n, e_k, e_f, e_s, e_q]; omega)) (fun hc => ?_) (fun hc => ?_))) <;> (first | (exfalso; omega) | skip))
        | (show Rch _ _ _ _ _ 45 _ _ _; refine Rch.blk' (Rn_mono mt _ _) bl_X0_hearersOf_45 (i_iconst k_1 (t_goto 66 rfl ?_)))
        | (show Rch _ _ _ _ _ 49 _ _ _; refine Rch.blk' (Rn_mono mt _ _) bl_X0_hearersOf_49 (i_aload_n rfl (i_gfr rfl (i_iload rfl (i_iald (n := 10) rfl (by first | omega | (simp (disch := omega) only [e_n, e_k, e_f, e_s, e_q]; omega)) (by first | omega | (simp (disch := omega) only [e_n, e_k, e_f, e_s, e_q]; omega)) (by first | omega | (simp (disch := omega) only [e_n, e_k, e_f, e_s, e_q]; omega)) (i_aload_n rfl (i_gfr rfl (i_iload rfl (i_iald (n := 10) rfl (by first | omega | (simp (disch := omega) only [e_n, e_k, e_f, e_s, e_q]; omega)) (by first | omega | (simp (disch := omega) only [e_n, e_k, e_f, e_s, e_q]; omega)) (by first | omega | (simp (disch := omega) only [e_n, e_k, e_f, e_s, e_q]; omega)) (t_cs2 (Rn_mono mt _ _) 66 rfl (Nat.le_of_ble_eq_true rfl) ?_))))))))) <;> (try (simp (disch := omega) only [e_n, e_k, e_f, e_s, e_q])))
        | (show Rch _ _ _ _ _ 66 _ _ _; refine Rch.blk' (Rn_mono mt _ _) bl_X0_hearersOf_66 (i_istore5 trivial (i_aload_n rfl (i_gfr rfl (i_iload rfl (i_iald (n := 10) rfl (by first | omega | (simp (disch := omega) only [e_n, e_k, e_f, e_s, e_q]; omega)) (by first | omega | (simp (disch := omega) only [e_n, e_k, e_f, e_s, e_q]; omega)) (by first | omega | (simp (disch := omega) only [e_n, e_k, e_f, e_s, e_q]; omega)) (i_aload_n rfl (i_gfr rfl (i_iload_n rfl (i_iald (n := 10) rfl (by first | omega | (simp (disch := omega) only [e_n, e_k, e_f, e_s, e_q]; omega)) (by first | omega | (simp (disch := omega) only [e_n, e_k, e_f, e_s, e_q]; omega)) (by first | omega | (simp (disch := omega) only [e_n, e_k, e_f, e_s, e_q]; omega)) (t_cs2 (Rn_mono mt _ _) 84 rfl (Nat.le_of_ble_eq_true rfl) ?_)))))))))) <;> (try (simp (disch := omega) only [e_n, e_k, e_f, e_s, e_q])))
        | (show Rch _ _ _ _ _ 84 _ _ _; refine Rch.blk' (Rn_mono mt _ _) bl_X0_hearersOf_84 (i_iload rfl (t_ic_gt 96 89 rfl rfl (by first | exact hI_R | exact band_R | exact bor_R | exact bshr_R | exact lcm_R | omega | (simp (disch := omega) only [e_n, e_k, e_f, e_s, e_q]; omega)) (by first | exact hI_R | exact band_R | exact bor_R | exact bshr_R | exact lcm_R | omega | (simp (disch := omega) only [e_n, e_k, e_f, e_s, e_q]; omega)) (fun hc => ?_) (fun hc => ?_))) <;> (first | (exfalso; omega) | skip))
        | (show Rch _ _ _ _ _ 89 _ _ _; refine Rch.blk' (Rn_mono mt _ _) bl_X0_hearersOf_89 (i_iload_n rfl (i_iconst k_1 (i_iload rfl (i_ishl (i_ior (i_istore3 trivial (t_none ?_))))))))
        | (show Rch _ _ _ _ _ 96 _ _ _; refine Rch.blk' (Rn_mono mt _ _) bl_X0_hearersOf_96 (i_iinc4 trivial k_1 (t_goto 17 rfl ?_)))
        | (show Rch _ _ _ _ _ 102 _ _ _; refine Rch.blk' (Rn_mono mt _ _) bl_X0_hearersOf_102 (i_iload_n rfl (t_iret ?_))))
    · obtain rfl : k = nn G := by omega
      have hq := h1 z0 z1 z2
      have e : BT (HS G ra z) = BT (fun i => i = z ∨ (i < nn G ∧ HC G ra z i)) := BT_ext (fun i i0 i1 => ⟨fun q => q.2.elim Or.inl (fun w => Or.inr ⟨q.1, w⟩), fun q => q.elim (fun w => ⟨by omega, Or.inl w⟩) (fun w => ⟨w.1, Or.inr w.2⟩)⟩)
      rw [e] at hq
      refine Rch.blk' (Rn_mono mt _ _) bl_X0_hearersOf_17 (i_iload rfl (i_aload_n rfl (i_gfi rfl (t_ic_ge 102 26 rfl rfl (by first | exact hI_R | exact band_R | exact bor_R | exact bshr_R | exact lcm_R | omega | (simp (disch := omega) only [e_n]; omega)) (by first | exact hI_R | exact band_R | exact bor_R | exact bshr_R | exact lcm_R | omega | (simp (disch := omega) only [e_n]; omega)) (fun hc => ?_) (fun hc => ?_))))) <;> (try (simp (disch := omega) only [e_n] at hc ⊢)) <;> (first | (exfalso; omega) | skip)
      repeat' (first
        | exact hq
        | (show Rn _ _ _ 2 _ _ _; refine c_X0_isThere (by assumption) (by assumption) (by first | omega | exact hI_R) (fun _ _ _ _ => ?_) (fun _ => ?_))
        | (show Rn _ _ _ 3 _ _ _; refine c_X0_isThereOf (by assumption) (by assumption) (by first | omega | exact hI_R) (by first | omega | exact hI_R) (fun _ _ _ _ _ => ?_) (fun _ => ?_))
        | (show Rn _ _ _ 24 _ _ _; refine c_X1_earsWith (by omega) (by omega) (by omega) (fun _ _ => ?_))
        | (show Rn _ _ _ 20 _ _ _; refine c_X3_far (by omega) (by omega) (by omega) (by omega) (fun _ _ => ?_))
        | (show Rch _ _ _ _ _ 0 _ _ _; refine Rch.blk' (Rn_mono mt _ _) bl_X0_hearersOf_0 (i_aload_n rfl (i_iload_n rfl (t_cv2 (Rn_mono mt _ _) 5 rfl (Nat.le_of_ble_eq_true rfl) ?_))))
        | (show Rch _ _ _ _ _ 5 _ _ _; refine Rch.blk' (Rn_mono mt _ _) bl_X0_hearersOf_5 (t_if_ne 10 8 rfl rfl (by first | exact hI_R | exact band_R | exact bor_R | exact bshr_R | exact lcm_R | omega) (fun hc => ?_) (fun hc => ?_)) <;> (first | (exfalso; omega) | skip))
        | (show Rch _ _ _ _ _ 8 _ _ _; refine Rch.blk' (Rn_mono mt _ _) bl_X0_hearersOf_8 (i_iconst k_0 (t_iret ?_)))
        | (show Rch _ _ _ _ _ 10 _ _ _; refine Rch.blk' (Rn_mono mt _ _) bl_X0_hearersOf_10 (i_iconst k_1 (i_iload_n rfl (i_ishl (i_istore3 trivial (i_iconst k_0 (i_istore4 trivial (t_none ?_))))))))
        | (show Rch _ _ _ _ _ 26 _ _ _; refine Rch.blk' (Rn_mono mt _ _) bl_X0_hearersOf_26 (i_aload_n rfl (i_iload rfl (i_aload_n rfl (i_gfr rfl (i_iload_n rfl (i_iald (n := 10) rfl (by omega) (by omega) (by omega) (t_cv3 (Rn_mono mt _ _) 38 rfl (Nat.le_of_ble_eq_true rfl) ?_))))))))
        | (show Rch _ _ _ _ _ 38 _ _ _; refine Rch.blk' (Rn_mono mt _ _) bl_X0_hearersOf_38 (t_if_eq 96 41 rfl rfl (by first | exact hI_R | exact band_R | exact bor_R | exact bshr_R | exact lcm_R | omega) (fun hc => ?_) (fun hc => ?_)) <;> (first | (exfalso; omega) | skip))
        | (show Rch _ _ _ _ _ 41 _ _ _; refine Rch.blk' (Rn_mono mt _ _) bl_X0_hearersOf_41 (i_iload_n rfl (t_if_eq 49 45 rfl rfl (by first | exact hI_R | exact band_R | exact bor_R | exact bshr_R | exact lcm_R | omega) (fun hc => ?_) (fun hc => ?_))) <;> (first | (exfalso; omega) | skip))
        | (show Rch _ _ _ _ _ 45 _ _ _; refine Rch.blk' (Rn_mono mt _ _) bl_X0_hearersOf_45 (i_iconst k_1 (t_goto 66 rfl ?_)))
        | (show Rch _ _ _ _ _ 49 _ _ _; refine Rch.blk' (Rn_mono mt _ _) bl_X0_hearersOf_49 (i_aload_n rfl (i_gfr rfl (i_iload rfl (i_iald (n := 10) rfl (by omega) (by omega) (by omega) (i_aload_n rfl (i_gfr rfl (i_iload rfl (i_iald (n := 10) rfl (by omega) (by omega) (by omega) (t_cs2 (Rn_mono mt _ _) 66 rfl (Nat.le_of_ble_eq_true rfl) ?_))))))))))
        | (show Rch _ _ _ _ _ 66 _ _ _; refine Rch.blk' (Rn_mono mt _ _) bl_X0_hearersOf_66 (i_istore5 trivial (i_aload_n rfl (i_gfr rfl (i_iload rfl (i_iald (n := 10) rfl (by omega) (by omega) (by omega) (i_aload_n rfl (i_gfr rfl (i_iload_n rfl (i_iald (n := 10) rfl (by omega) (by omega) (by omega) (t_cs2 (Rn_mono mt _ _) 84 rfl (Nat.le_of_ble_eq_true rfl) ?_)))))))))))
        | (show Rch _ _ _ _ _ 84 _ _ _; refine Rch.blk' (Rn_mono mt _ _) bl_X0_hearersOf_84 (i_iload rfl (t_ic_gt 96 89 rfl rfl (by first | exact hI_R | exact band_R | exact bor_R | exact bshr_R | exact lcm_R | omega) (by first | exact hI_R | exact band_R | exact bor_R | exact bshr_R | exact lcm_R | omega) (fun hc => ?_) (fun hc => ?_))) <;> (first | (exfalso; omega) | skip))
        | (show Rch _ _ _ _ _ 89 _ _ _; refine Rch.blk' (Rn_mono mt _ _) bl_X0_hearersOf_89 (i_iload_n rfl (i_iconst k_1 (i_iload rfl (i_ishl (i_ior (i_istore3 trivial (t_none ?_))))))))
        | (show Rch _ _ _ _ _ 96 _ _ _; refine Rch.blk' (Rn_mono mt _ _) bl_X0_hearersOf_96 (i_iinc4 trivial k_1 (t_goto 17 rfl ?_)))
        | (show Rch _ _ _ _ _ 102 _ _ _; refine Rch.blk' (Rn_mono mt _ _) bl_X0_hearersOf_102 (i_iload_n rfl (t_iret ?_))))
  have key0 : 0 ≤ z → z < nn G → sq G z < 36 → RH L bX0_hearersOf (d + 2) Q 17 [some (ar 0 b), some (ai (I z)), some (ai (I ra)), some (ai (I (bshl 1 z))), some (ai (I 0)), none] h := by
    intro z0 z1 z2
    have := key z0 z1 z2 0 (by omega) (by omega) none
    rw [b_one z0 (by omega)]
    have e : BT (fun i => i = z) = BT (fun i => i = z ∨ (i < 0 ∧ HC G ra z i)) := BT_ext (fun i i0 i1 => ⟨Or.inl, fun q => q.elim id (fun w => by omega)⟩)
    rw [e]
    exact this
  repeat' (first
    | exact key0 (by omega) (by omega) (by omega)
    | exact h0 (by omega)
    | (show Rn _ _ _ 2 _ _ _; refine c_X0_isThere (by assumption) (by assumption) (by first | omega | exact hI_R) (fun _ _ _ _ => ?_) (fun _ => ?_))
    | (show Rn _ _ _ 3 _ _ _; refine c_X0_isThereOf (by assumption) (by assumption) (by first | omega | exact hI_R) (by first | omega | exact hI_R) (fun _ _ _ _ _ => ?_) (fun _ => ?_))
    | (show Rn _ _ _ 24 _ _ _; refine c_X1_earsWith (by omega) (by omega) (by omega) (fun _ _ => ?_))
    | (show Rn _ _ _ 20 _ _ _; refine c_X3_far (by omega) (by omega) (by omega) (by omega) (fun _ _ => ?_))
    | (show Rch _ _ _ _ _ 0 _ _ _; refine Rch.blk' (Rn_mono mt _ _) bl_X0_hearersOf_0 (i_aload_n rfl (i_iload_n rfl (t_cv2 (Rn_mono mt _ _) 5 rfl (Nat.le_of_ble_eq_true rfl) ?_))))
    | (show Rch _ _ _ _ _ 5 _ _ _; refine Rch.blk' (Rn_mono mt _ _) bl_X0_hearersOf_5 (t_if_ne 10 8 rfl rfl (by first | exact hI_R | exact band_R | exact bor_R | exact bshr_R | exact lcm_R | omega) (fun hc => ?_) (fun hc => ?_)) <;> (first | (exfalso; omega) | skip))
    | (show Rch _ _ _ _ _ 8 _ _ _; refine Rch.blk' (Rn_mono mt _ _) bl_X0_hearersOf_8 (i_iconst k_0 (t_iret ?_)))
    | (show Rch _ _ _ _ _ 10 _ _ _; refine Rch.blk' (Rn_mono mt _ _) bl_X0_hearersOf_10 (i_iconst k_1 (i_iload_n rfl (i_ishl (i_istore3 trivial (i_iconst k_0 (i_istore4 trivial (t_none ?_))))))))
    | (show Rch _ _ _ _ _ 26 _ _ _; refine Rch.blk' (Rn_mono mt _ _) bl_X0_hearersOf_26 (i_aload_n rfl (i_iload rfl (i_aload_n rfl (i_gfr rfl (i_iload_n rfl (i_iald (n := 10) rfl (by omega) (by omega) (by omega) (t_cv3 (Rn_mono mt _ _) 38 rfl (Nat.le_of_ble_eq_true rfl) ?_))))))))
    | (show Rch _ _ _ _ _ 38 _ _ _; refine Rch.blk' (Rn_mono mt _ _) bl_X0_hearersOf_38 (t_if_eq 96 41 rfl rfl (by first | exact hI_R | exact band_R | exact bor_R | exact bshr_R | exact lcm_R | omega) (fun hc => ?_) (fun hc => ?_)) <;> (first | (exfalso; omega) | skip))
    | (show Rch _ _ _ _ _ 41 _ _ _; refine Rch.blk' (Rn_mono mt _ _) bl_X0_hearersOf_41 (i_iload_n rfl (t_if_eq 49 45 rfl rfl (by first | exact hI_R | exact band_R | exact bor_R | exact bshr_R | exact lcm_R | omega) (fun hc => ?_) (fun hc => ?_))) <;> (first | (exfalso; omega) | skip))
    | (show Rch _ _ _ _ _ 45 _ _ _; refine Rch.blk' (Rn_mono mt _ _) bl_X0_hearersOf_45 (i_iconst k_1 (t_goto 66 rfl ?_)))
    | (show Rch _ _ _ _ _ 49 _ _ _; refine Rch.blk' (Rn_mono mt _ _) bl_X0_hearersOf_49 (i_aload_n rfl (i_gfr rfl (i_iload rfl (i_iald (n := 10) rfl (by omega) (by omega) (by omega) (i_aload_n rfl (i_gfr rfl (i_iload rfl (i_iald (n := 10) rfl (by omega) (by omega) (by omega) (t_cs2 (Rn_mono mt _ _) 66 rfl (Nat.le_of_ble_eq_true rfl) ?_))))))))))
    | (show Rch _ _ _ _ _ 66 _ _ _; refine Rch.blk' (Rn_mono mt _ _) bl_X0_hearersOf_66 (i_istore5 trivial (i_aload_n rfl (i_gfr rfl (i_iload rfl (i_iald (n := 10) rfl (by omega) (by omega) (by omega) (i_aload_n rfl (i_gfr rfl (i_iload_n rfl (i_iald (n := 10) rfl (by omega) (by omega) (by omega) (t_cs2 (Rn_mono mt _ _) 84 rfl (Nat.le_of_ble_eq_true rfl) ?_)))))))))))
    | (show Rch _ _ _ _ _ 84 _ _ _; refine Rch.blk' (Rn_mono mt _ _) bl_X0_hearersOf_84 (i_iload rfl (t_ic_gt 96 89 rfl rfl (by first | exact hI_R | exact band_R | exact bor_R | exact bshr_R | exact lcm_R | omega) (by first | exact hI_R | exact band_R | exact bor_R | exact bshr_R | exact lcm_R | omega) (fun hc => ?_) (fun hc => ?_))) <;> (first | (exfalso; omega) | skip))
    | (show Rch _ _ _ _ _ 89 _ _ _; refine Rch.blk' (Rn_mono mt _ _) bl_X0_hearersOf_89 (i_iload_n rfl (i_iconst k_1 (i_iload rfl (i_ishl (i_ior (i_istore3 trivial (t_none ?_))))))))
    | (show Rch _ _ _ _ _ 96 _ _ _; refine Rch.blk' (Rn_mono mt _ _) bl_X0_hearersOf_96 (i_iinc4 trivial k_1 (t_goto 17 rfl ?_)))
    | (show Rch _ _ _ _ _ 102 _ _ _; refine Rch.blk' (Rn_mono mt _ _) bl_X0_hearersOf_102 (i_iload_n rfl (t_iret ?_))))
theorem c_X0_howManyOf (hG : RC h b G) (hO : OKB G) {s : Int} (hs : inR s) (hq : 0 ≤ CT G s → CT G s ≤ 10 → Q (some (ai (I (CT G s)))) h) : Rn mt L (d + 2) 27 [ar 0 b, ai (I s)] h Q := by
  refine Rn.intro iX0_howManyOf rfl rfl ?_
  show Rch bX0_howManyOf _ _ _ _ 0 [some (ar 0 b), some (ai (I s)), none, none] [] _
  have e_n := hG.n
  have g_n := hO.n
  have hq := hq (CT_R hO s).1 (CT_R hO s).2
  have key : ∀ k : Int, k ≤ nn G → 0 ≤ k → RH L bX0_howManyOf (d + 1) Q 4 [some (ar 0 b), some (ai (I s)), some (ai (I (cnt (OC G s) k))), some (ai (I k))] h := by
    refine up_ind (fun k hk ih hk0 => ?_)
    by_cases hk1 : k < nn G
    · have ih := ih hk1 (by omega)
      have ih1 : (sd G k = s ∧ sq G k < 36) → RH L bX0_howManyOf (d + 1) Q 4 [some (ar 0 b), some (ai (I s)), some (ai (I (cnt (OC G s) k + 1))), some (ai (I (k + 1)))] h := by
        intro hC; rw [cnt_u1 (C := OC G s) hk0 hC] at ih; exact ih
      have ih0 : ¬ (sd G k = s ∧ sq G k < 36) → RH L bX0_howManyOf (d + 1) Q 4 [some (ar 0 b), some (ai (I s)), some (ai (I (cnt (OC G s) k + 0))), some (ai (I (k + 1)))] h := by
        intro hC; rw [cnt_u0 (C := OC G s) hk0 hC] at ih; rw [Int.add_zero]; exact ih
      clear ih
      refine Rch.blk' (Rn_mono mt _ _) bl_X0_howManyOf_4 (i_iload_n rfl (i_aload_n rfl (i_gfi rfl (t_ic_ge 35 12 rfl rfl (by first | exact hI_R | exact band_R | exact bor_R | exact bshr_R | exact lcm_R | omega | (simp (disch := omega) only [e_n]; omega)) (by first | exact hI_R | exact band_R | exact bor_R | exact bshr_R | exact lcm_R | omega | (simp (disch := omega) only [e_n]; omega)) (fun hc => ?_) (fun hc => ?_))))) <;> (try (simp (disch := omega) only [e_n] at hc ⊢)) <;> (first | (exfalso; omega) | skip)
      repeat' (first
        | exact ih1 (by omega)
        | exact ih0 (by omega)
        | (show Rn _ _ _ 3 _ _ _; refine c_X0_isThereOf (by assumption) (by assumption) (by first | omega | exact hI_R) (by first | omega | exact hI_R) (fun _ _ _ _ _ => ?_) (fun _ => ?_))
        | (show Rch _ _ _ _ _ 0 _ _ _; refine Rch.blk' (Rn_mono mt _ _) bl_X0_howManyOf_0 (i_iconst k_0 (i_istore2 trivial (i_iconst k_0 (i_istore3 trivial (t_none ?_))))))
        | (show Rch _ _ _ _ _ 12 _ _ _; refine Rch.blk' (Rn_mono mt _ _) bl_X0_howManyOf_12 (i_iload_n rfl (i_aload_n rfl (i_iload_n rfl (i_iload_n rfl (t_cv3 (Rn_mono mt _ _) 19 rfl (Nat.le_of_ble_eq_true rfl) ?_))))))
        | (show Rch _ _ _ _ _ 19 _ _ _; refine Rch.blk' (Rn_mono mt _ _) bl_X0_howManyOf_19 (t_if_eq 26 22 rfl rfl (by first | exact hI_R | exact band_R | exact bor_R | exact bshr_R | exact lcm_R | omega) (fun hc => ?_) (fun hc => ?_)) <;> (first | (exfalso; omega) | skip))
        | (show Rch _ _ _ _ _ 22 _ _ _; refine Rch.blk' (Rn_mono mt _ _) bl_X0_howManyOf_22 (i_iconst k_1 (t_goto 27 rfl ?_)))
        | (show Rch _ _ _ _ _ 26 _ _ _; refine Rch.blk' (Rn_mono mt _ _) bl_X0_howManyOf_26 (i_iconst k_0 (t_none ?_)))
        | (show Rch _ _ _ _ _ 27 _ _ _; refine Rch.blk' (Rn_mono mt _ _) bl_X0_howManyOf_27 (i_iadd (i_istore2 trivial (i_iinc3 trivial k_1 (t_goto 4 rfl ?_)))))
        | (show Rch _ _ _ _ _ 35 _ _ _; refine Rch.blk' (Rn_mono mt _ _) bl_X0_howManyOf_35 (i_iload_n rfl (t_iret ?_))))
    · obtain rfl : k = nn G := by omega
      refine Rch.blk' (Rn_mono mt _ _) bl_X0_howManyOf_4 (i_iload_n rfl (i_aload_n rfl (i_gfi rfl (t_ic_ge 35 12 rfl rfl (by first | exact hI_R | exact band_R | exact bor_R | exact bshr_R | exact lcm_R | omega | (simp (disch := omega) only [e_n]; omega)) (by first | exact hI_R | exact band_R | exact bor_R | exact bshr_R | exact lcm_R | omega | (simp (disch := omega) only [e_n]; omega)) (fun hc => ?_) (fun hc => ?_))))) <;> (try (simp (disch := omega) only [e_n] at hc ⊢)) <;> (first | (exfalso; omega) | skip)
      repeat' (first
        | exact hq
        | (show Rn _ _ _ 3 _ _ _; refine c_X0_isThereOf (by assumption) (by assumption) (by first | omega | exact hI_R) (by first | omega | exact hI_R) (fun _ _ _ _ _ => ?_) (fun _ => ?_))
        | (show Rch _ _ _ _ _ 0 _ _ _; refine Rch.blk' (Rn_mono mt _ _) bl_X0_howManyOf_0 (i_iconst k_0 (i_istore2 trivial (i_iconst k_0 (i_istore3 trivial (t_none ?_))))))
        | (show Rch _ _ _ _ _ 12 _ _ _; refine Rch.blk' (Rn_mono mt _ _) bl_X0_howManyOf_12 (i_iload_n rfl (i_aload_n rfl (i_iload_n rfl (i_iload_n rfl (t_cv3 (Rn_mono mt _ _) 19 rfl (Nat.le_of_ble_eq_true rfl) ?_))))))
        | (show Rch _ _ _ _ _ 19 _ _ _; refine Rch.blk' (Rn_mono mt _ _) bl_X0_howManyOf_19 (t_if_eq 26 22 rfl rfl (by first | exact hI_R | exact band_R | exact bor_R | exact bshr_R | exact lcm_R | omega) (fun hc => ?_) (fun hc => ?_)) <;> (first | (exfalso; omega) | skip))
        | (show Rch _ _ _ _ _ 22 _ _ _; refine Rch.blk' (Rn_mono mt _ _) bl_X0_howManyOf_22 (i_iconst k_1 (t_goto 27 rfl ?_)))
        | (show Rch _ _ _ _ _ 26 _ _ _; refine Rch.blk' (Rn_mono mt _ _) bl_X0_howManyOf_26 (i_iconst k_0 (t_none ?_)))
        | (show Rch _ _ _ _ _ 27 _ _ _; refine Rch.blk' (Rn_mono mt _ _) bl_X0_howManyOf_27 (i_iadd (i_istore2 trivial (i_iinc3 trivial k_1 (t_goto 4 rfl ?_)))))
        | (show Rch _ _ _ _ _ 35 _ _ _; refine Rch.blk' (Rn_mono mt _ _) bl_X0_howManyOf_35 (i_iload_n rfl (t_iret ?_))))
  repeat' (first
    | exact key 0 (by omega) (by omega)
    | (show Rn _ _ _ 3 _ _ _; refine c_X0_isThereOf (by assumption) (by assumption) (by first | omega | exact hI_R) (by first | omega | exact hI_R) (fun _ _ _ _ _ => ?_) (fun _ => ?_))
    | (show Rch _ _ _ _ _ 0 _ _ _; refine Rch.blk' (Rn_mono mt _ _) bl_X0_howManyOf_0 (i_iconst k_0 (i_istore2 trivial (i_iconst k_0 (i_istore3 trivial (t_none ?_))))))
    | (show Rch _ _ _ _ _ 12 _ _ _; refine Rch.blk' (Rn_mono mt _ _) bl_X0_howManyOf_12 (i_iload_n rfl (i_aload_n rfl (i_iload_n rfl (i_iload_n rfl (t_cv3 (Rn_mono mt _ _) 19 rfl (Nat.le_of_ble_eq_true rfl) ?_))))))
    | (show Rch _ _ _ _ _ 19 _ _ _; refine Rch.blk' (Rn_mono mt _ _) bl_X0_howManyOf_19 (t_if_eq 26 22 rfl rfl (by first | exact hI_R | exact band_R | exact bor_R | exact bshr_R | exact lcm_R | omega) (fun hc => ?_) (fun hc => ?_)) <;> (first | (exfalso; omega) | skip))
    | (show Rch _ _ _ _ _ 22 _ _ _; refine Rch.blk' (Rn_mono mt _ _) bl_X0_howManyOf_22 (i_iconst k_1 (t_goto 27 rfl ?_)))
    | (show Rch _ _ _ _ _ 26 _ _ _; refine Rch.blk' (Rn_mono mt _ _) bl_X0_howManyOf_26 (i_iconst k_0 (t_none ?_)))
    | (show Rch _ _ _ _ _ 27 _ _ _; refine Rch.blk' (Rn_mono mt _ _) bl_X0_howManyOf_27 (i_iadd (i_istore2 trivial (i_iinc3 trivial k_1 (t_goto 4 rfl ?_)))))
    | (show Rch _ _ _ _ _ 35 _ _ _; refine Rch.blk' (Rn_mono mt _ _) bl_X0_howManyOf_35 (i_iload_n rfl (t_iret ?_))))
theorem c_X0_howManyThere (hG : RC h b G) (hO : OKB G) (hq : 0 ≤ NT G → NT G ≤ 10 → Q (some (ai (I (NT G)))) h) : Rn mt L (d + 3) 32 [ar 0 b] h Q := by
  refine Rn.intro iX0_howManyThere rfl rfl ?_
  show Rch bX0_howManyThere _ _ _ _ 0 [some (ar 0 b)] [] _
  have hq := hq (NT_R hO).1 (NT_R hO).2
  rw [← NT_eq hO] at hq
  repeat' (first
    | exact hq
    | (show Rn _ _ _ 27 _ _ _; refine c_X0_howManyOf (by assumption) (by assumption) (by first | omega | exact hI_R) (fun _ _ => ?_))
    | (show Rch _ _ _ _ _ 0 _ _ _; refine Rch.blk' (Rn_mono mt _ _) bl_X0_howManyThere_0 (i_aload_n rfl (i_iconst k_0 (t_cv2 (Rn_mono mt _ _) 5 rfl (Nat.le_of_ble_eq_true rfl) ?_))))
    | (show Rch _ _ _ _ _ 5 _ _ _; refine Rch.blk' (Rn_mono mt _ _) bl_X0_howManyThere_5 (i_aload_n rfl (i_iconst k_1 (t_cv2 (Rn_mono mt _ _) 10 rfl (Nat.le_of_ble_eq_true rfl) ?_))))
    | (show Rch _ _ _ _ _ 10 _ _ _; refine Rch.blk' (Rn_mono mt _ _) bl_X0_howManyThere_10 (i_iadd (t_iret ?_))))
theorem c_X0_bitsThere (hG : RC h b G) (hO : OKB G) (hq : Q (some (ai (I (BT (TS G))))) h) : Rn mt L (d + 3) 33 [ar 0 b] h Q := by
  refine Rn.intro iX0_bitsThere rfl rfl ?_
  show Rch bX0_bitsThere _ _ _ _ 0 [some (ar 0 b), none, none] [] _
  have e_n := hG.n
  have g_n := hO.n
  have key : ∀ k : Int, k ≤ nn G → 0 ≤ k → RH L bX0_bitsThere (d + 2) Q 4 [some (ar 0 b), some (ai (I (BT (fun i => i < k ∧ sq G i < 36)))), some (ai (I k))] h := by
    refine up_ind (fun k hk ih hk0 => ?_)
    by_cases hk1 : k < nn G
    · have ih := ih hk1 (by omega)
      have ih1 : sq G k < 36 → RH L bX0_bitsThere (d + 2) Q 4 [some (ar 0 b), some (ai (I (bor (BT (fun i => i < k ∧ sq G i < 36)) (bshl 1 k)))), some (ai (I (k + 1)))] h := by
        intro hC; rw [BT_up1 (C := fun i => sq G i < 36) hk0 (by omega) hC]; exact ih
      have ih0 : ¬ sq G k < 36 → RH L bX0_bitsThere (d + 2) Q 4 [some (ar 0 b), some (ai (I (bor (BT (fun i => i < k ∧ sq G i < 36)) 0))), some (ai (I (k + 1)))] h := by
        intro hC; rw [BT_up2 (C := fun i => sq G i < 36) hC]; exact ih
      clear ih
      refine Rch.blk' (Rn_mono mt _ _) bl_X0_bitsThere_4 (i_iload_n rfl (i_aload_n rfl (i_gfi rfl (t_ic_ge 36 12 rfl rfl (by first | exact hI_R | exact band_R | exact bor_R | exact bshr_R | exact lcm_R | omega | (simp (disch := omega) only [e_n]; omega)) (by first | exact hI_R | exact band_R | exact bor_R | exact bshr_R | exact lcm_R | omega | (simp (disch := omega) only [e_n]; omega)) (fun hc => ?_) (fun hc => ?_))))) <;> (try (simp (disch := omega) only [e_n] at hc ⊢)) <;> (first | (exfalso; omega) | skip)
      repeat' (first
        | exact ih1 (by omega)
        | exact ih0 (by omega)
        | (show Rn _ _ _ 2 _ _ _; refine c_X0_isThere (by assumption) (by assumption) (by first | omega | exact hI_R) (fun _ _ _ _ => ?_) (fun _ => ?_))
        | (show Rch _ _ _ _ _ 0 _ _ _; refine Rch.blk' (Rn_mono mt _ _) bl_X0_bitsThere_0 (i_iconst k_0 (i_istore1 trivial (i_iconst k_0 (i_istore2 trivial (t_none ?_))))))
        | (show Rch _ _ _ _ _ 12 _ _ _; refine Rch.blk' (Rn_mono mt _ _) bl_X0_bitsThere_12 (i_iload_n rfl (i_aload_n rfl (i_iload_n rfl (t_cv2 (Rn_mono mt _ _) 18 rfl (Nat.le_of_ble_eq_true rfl) ?_)))))
        | (show Rch _ _ _ _ _ 18 _ _ _; refine Rch.blk' (Rn_mono mt _ _) bl_X0_bitsThere_18 (t_if_eq 27 21 rfl rfl (by first | exact hI_R | exact band_R | exact bor_R | exact bshr_R | exact lcm_R | omega) (fun hc => ?_) (fun hc => ?_)) <;> (first | (exfalso; omega) | skip))
        | (show Rch _ _ _ _ _ 21 _ _ _; refine Rch.blk' (Rn_mono mt _ _) bl_X0_bitsThere_21 (i_iconst k_1 (i_iload_n rfl (i_ishl (t_goto 28 rfl ?_)))))
        | (show Rch _ _ _ _ _ 27 _ _ _; refine Rch.blk' (Rn_mono mt _ _) bl_X0_bitsThere_27 (i_iconst k_0 (t_none ?_)))
        | (show Rch _ _ _ _ _ 28 _ _ _; refine Rch.blk' (Rn_mono mt _ _) bl_X0_bitsThere_28 (i_ior (i_istore1 trivial (i_iinc2 trivial k_1 (t_goto 4 rfl ?_)))))
        | (show Rch _ _ _ _ _ 36 _ _ _; refine Rch.blk' (Rn_mono mt _ _) bl_X0_bitsThere_36 (i_iload_n rfl (t_iret ?_))))
    · obtain rfl : k = nn G := by omega
      refine Rch.blk' (Rn_mono mt _ _) bl_X0_bitsThere_4 (i_iload_n rfl (i_aload_n rfl (i_gfi rfl (t_ic_ge 36 12 rfl rfl (by first | exact hI_R | exact band_R | exact bor_R | exact bshr_R | exact lcm_R | omega | (simp (disch := omega) only [e_n]; omega)) (by first | exact hI_R | exact band_R | exact bor_R | exact bshr_R | exact lcm_R | omega | (simp (disch := omega) only [e_n]; omega)) (fun hc => ?_) (fun hc => ?_))))) <;> (try (simp (disch := omega) only [e_n] at hc ⊢)) <;> (first | (exfalso; omega) | skip)
      repeat' (first
        | exact hq
        | (show Rn _ _ _ 2 _ _ _; refine c_X0_isThere (by assumption) (by assumption) (by first | omega | exact hI_R) (fun _ _ _ _ => ?_) (fun _ => ?_))
        | (show Rch _ _ _ _ _ 0 _ _ _; refine Rch.blk' (Rn_mono mt _ _) bl_X0_bitsThere_0 (i_iconst k_0 (i_istore1 trivial (i_iconst k_0 (i_istore2 trivial (t_none ?_))))))
        | (show Rch _ _ _ _ _ 12 _ _ _; refine Rch.blk' (Rn_mono mt _ _) bl_X0_bitsThere_12 (i_iload_n rfl (i_aload_n rfl (i_iload_n rfl (t_cv2 (Rn_mono mt _ _) 18 rfl (Nat.le_of_ble_eq_true rfl) ?_)))))
        | (show Rch _ _ _ _ _ 18 _ _ _; refine Rch.blk' (Rn_mono mt _ _) bl_X0_bitsThere_18 (t_if_eq 27 21 rfl rfl (by first | exact hI_R | exact band_R | exact bor_R | exact bshr_R | exact lcm_R | omega) (fun hc => ?_) (fun hc => ?_)) <;> (first | (exfalso; omega) | skip))
        | (show Rch _ _ _ _ _ 21 _ _ _; refine Rch.blk' (Rn_mono mt _ _) bl_X0_bitsThere_21 (i_iconst k_1 (i_iload_n rfl (i_ishl (t_goto 28 rfl ?_)))))
        | (show Rch _ _ _ _ _ 27 _ _ _; refine Rch.blk' (Rn_mono mt _ _) bl_X0_bitsThere_27 (i_iconst k_0 (t_none ?_)))
        | (show Rch _ _ _ _ _ 28 _ _ _; refine Rch.blk' (Rn_mono mt _ _) bl_X0_bitsThere_28 (i_ior (i_istore1 trivial (i_iinc2 trivial k_1 (t_goto 4 rfl ?_)))))
        | (show Rch _ _ _ _ _ 36 _ _ _; refine Rch.blk' (Rn_mono mt _ _) bl_X0_bitsThere_36 (i_iload_n rfl (t_iret ?_))))
  have key0 := key 0 (by omega) (by omega)
  rw [BT_0 (C := fun i => sq G i < 36)] at key0
  repeat' (first
    | exact key0
    | (show Rn _ _ _ 2 _ _ _; refine c_X0_isThere (by assumption) (by assumption) (by first | omega | exact hI_R) (fun _ _ _ _ => ?_) (fun _ => ?_))
    | (show Rch _ _ _ _ _ 0 _ _ _; refine Rch.blk' (Rn_mono mt _ _) bl_X0_bitsThere_0 (i_iconst k_0 (i_istore1 trivial (i_iconst k_0 (i_istore2 trivial (t_none ?_))))))
    | (show Rch _ _ _ _ _ 12 _ _ _; refine Rch.blk' (Rn_mono mt _ _) bl_X0_bitsThere_12 (i_iload_n rfl (i_aload_n rfl (i_iload_n rfl (t_cv2 (Rn_mono mt _ _) 18 rfl (Nat.le_of_ble_eq_true rfl) ?_)))))
    | (show Rch _ _ _ _ _ 18 _ _ _; refine Rch.blk' (Rn_mono mt _ _) bl_X0_bitsThere_18 (t_if_eq 27 21 rfl rfl (by first | exact hI_R | exact band_R | exact bor_R | exact bshr_R | exact lcm_R | omega) (fun hc => ?_) (fun hc => ?_)) <;> (first | (exfalso; omega) | skip))
    | (show Rch _ _ _ _ _ 21 _ _ _; refine Rch.blk' (Rn_mono mt _ _) bl_X0_bitsThere_21 (i_iconst k_1 (i_iload_n rfl (i_ishl (t_goto 28 rfl ?_)))))
    | (show Rch _ _ _ _ _ 27 _ _ _; refine Rch.blk' (Rn_mono mt _ _) bl_X0_bitsThere_27 (i_iconst k_0 (t_none ?_)))
    | (show Rch _ _ _ _ _ 28 _ _ _; refine Rch.blk' (Rn_mono mt _ _) bl_X0_bitsThere_28 (i_ior (i_istore1 trivial (i_iinc2 trivial k_1 (t_goto 4 rfl ?_)))))
    | (show Rch _ _ _ _ _ 36 _ _ _; refine Rch.blk' (Rn_mono mt _ _) bl_X0_bitsThere_36 (i_iload_n rfl (t_iret ?_))))
theorem c_X0_worthOf (hG : RC h b G) (hO : OKB G) {s : Int} (hs : inR s) (hq : 0 ≤ WO G s → WO G s ≤ 90 → Q (some (ai (I (WO G s)))) h) : Rn mt L (d + 2) 35 [ar 0 b, ai (I s)] h Q := by
  refine Rn.intro iX0_worthOf rfl rfl ?_
  show Rch bX0_worthOf _ _ _ _ 0 [some (ar 0 b), some (ai (I s)), none, none] [] _
  have e_n := hG.n
  have e_k := @RC.k _ _ _ hG
  have e_f := @RC.f _ _ _ hG
  have g_n := hO.n
  have hq := hq (WO_R hO s).1 (WO_R hO s).2
  have key : ∀ k : Int, k ≤ nn G → 0 ≤ k → RH L bX0_worthOf (d + 1) Q 4 [some (ar 0 b), some (ai (I s)), some (ai (I (SM (fun i => ifp (OC G s i) (wo (kd G i) (fg G i)) 0) k))), some (ai (I k))] h := by
    refine up_ind (fun k hk ih hk0 => ?_)
    by_cases hk1 : k < nn G
    · have ih := ih hk1 (by omega)
      have g_k := hO.pc k hk0 hk1
      rw [SM_up hk0] at ih
      have ih1 : (sd G k = s ∧ sq G k < 36) → RH L bX0_worthOf (d + 1) Q 4 [some (ar 0 b), some (ai (I s)), some (ai (I (SM (fun i => ifp (OC G s i) (wo (kd G i) (fg G i)) 0) k + wo (kd G k) (fg G k)))), some (ai (I (k + 1)))] h := by
        intro hC; rw [ifp_p hC] at ih; exact ih
      have ih0 : ¬ (sd G k = s ∧ sq G k < 36) → RH L bX0_worthOf (d + 1) Q 4 [some (ar 0 b), some (ai (I s)), some (ai (I (SM (fun i => ifp (OC G s i) (wo (kd G i) (fg G i)) 0) k + 0))), some (ai (I (k + 1)))] h := by
        intro hC; rw [ifp_n hC] at ih; exact ih
      clear ih
      refine Rch.blk' (Rn_mono mt _ _) bl_X0_worthOf_4 (i_iload_n rfl (i_aload_n rfl (i_gfi rfl (t_ic_ge 49 12 rfl rfl (by first | exact hI_R | exact band_R | exact bor_R | exact bshr_R | exact lcm_R | omega | (simp (disch := omega) only [e_n]; omega)) (by first | exact hI_R | exact band_R | exact bor_R | exact bshr_R | exact lcm_R | omega | (simp (disch := omega) only [e_n]; omega)) (fun hc => ?_) (fun hc => ?_))))) <;> (try (simp (disch := omega) only [e_n] at hc ⊢)) <;> (first | (exfalso; omega) | skip)
      repeat' (first
        | exact ih1 (by omega)
        | exact ih0 (by omega)
        | (show Rn _ _ _ 3 _ _ _; refine c_X0_isThereOf (by assumption) (by assumption) (by first | omega | exact hI_R) (by first | omega | exact hI_R) (fun _ _ _ _ _ => ?_) (fun _ => ?_))
        | (show Rn _ _ _ 34 _ _ _; refine c_X1_worthWith (by omega) (by omega) (by omega) (fun _ _ => ?_))
        | (show Rch _ _ _ _ _ 0 _ _ _; refine Rch.blk' (Rn_mono mt _ _) bl_X0_worthOf_0 (i_iconst k_0 (i_istore2 trivial (i_iconst k_0 (i_istore3 trivial (t_none ?_))))))
        | (show Rch _ _ _ _ _ 12 _ _ _; refine Rch.blk' (Rn_mono mt _ _) bl_X0_worthOf_12 (i_iload_n rfl (i_aload_n rfl (i_iload_n rfl (i_iload_n rfl (t_cv3 (Rn_mono mt _ _) 19 rfl (Nat.le_of_ble_eq_true rfl) ?_))))))
        | (show Rch _ _ _ _ _ 19 _ _ _; refine Rch.blk' (Rn_mono mt _ _) bl_X0_worthOf_19 (t_if_eq 40 22 rfl rfl (by first | exact hI_R | exact band_R | exact bor_R | exact bshr_R | exact lcm_R | omega | (simp (disch := omega) only [e_k, e_f]; omega)) (fun hc => ?_) (fun hc => ?_)) <;> (first | (exfalso; omega) | skip))
        | (show Rch _ _ _ _ _ 22 _ _ _; refine Rch.blk' (Rn_mono mt _ _) bl_X0_worthOf_22 (i_aload_n rfl (i_gfr rfl (i_iload_n rfl (i_iald (n := 10) rfl (by first | omega | (simp (disch := omega) only [e_k, e_f]; omega)) (by first | omega | (simp (disch := omega) only [e_k, e_f]; omega)) (by first | omega | (simp (disch := omega) only [e_k, e_f]; omega)) (i_aload_n rfl (i_gfr rfl (i_iload_n rfl (i_iald (n := 10) rfl (by first | omega | (simp (disch := omega) only [e_k, e_f]; omega)) (by first | omega | (simp (disch := omega) only [e_k, e_f]; omega)) (by first | omega | (simp (disch := omega) only [e_k, e_f]; omega)) (t_cs2 (Rn_mono mt _ _) 37 rfl (Nat.le_of_ble_eq_true rfl) ?_))))))))) <;> (try (simp (disch := omega) only [e_k, e_f])))
        | (show Rch _ _ _ _ _ 37 _ _ _; refine Rch.blk' (Rn_mono mt _ _) bl_X0_worthOf_37 (t_goto 41 rfl ?_))
        | (show Rch _ _ _ _ _ 40 _ _ _; refine Rch.blk' (Rn_mono mt _ _) bl_X0_worthOf_40 (i_iconst k_0 (t_none ?_)))
        | (show Rch _ _ _ _ _ 41 _ _ _; refine Rch.blk' (Rn_mono mt _ _) bl_X0_worthOf_41 (i_iadd (i_istore2 trivial (i_iinc3 trivial k_1 (t_goto 4 rfl ?_)))))
        | (show Rch _ _ _ _ _ 49 _ _ _; refine Rch.blk' (Rn_mono mt _ _) bl_X0_worthOf_49 (i_iload_n rfl (t_iret ?_))))
    · obtain rfl : k = nn G := by omega
      refine Rch.blk' (Rn_mono mt _ _) bl_X0_worthOf_4 (i_iload_n rfl (i_aload_n rfl (i_gfi rfl (t_ic_ge 49 12 rfl rfl (by first | exact hI_R | exact band_R | exact bor_R | exact bshr_R | exact lcm_R | omega | (simp (disch := omega) only [e_n]; omega)) (by first | exact hI_R | exact band_R | exact bor_R | exact bshr_R | exact lcm_R | omega | (simp (disch := omega) only [e_n]; omega)) (fun hc => ?_) (fun hc => ?_))))) <;> (try (simp (disch := omega) only [e_n] at hc ⊢)) <;> (first | (exfalso; omega) | skip)
      repeat' (first
        | exact hq
        | (show Rn _ _ _ 3 _ _ _; refine c_X0_isThereOf (by assumption) (by assumption) (by first | omega | exact hI_R) (by first | omega | exact hI_R) (fun _ _ _ _ _ => ?_) (fun _ => ?_))
        | (show Rn _ _ _ 34 _ _ _; refine c_X1_worthWith (by omega) (by omega) (by omega) (fun _ _ => ?_))
        | (show Rch _ _ _ _ _ 0 _ _ _; refine Rch.blk' (Rn_mono mt _ _) bl_X0_worthOf_0 (i_iconst k_0 (i_istore2 trivial (i_iconst k_0 (i_istore3 trivial (t_none ?_))))))
        | (show Rch _ _ _ _ _ 12 _ _ _; refine Rch.blk' (Rn_mono mt _ _) bl_X0_worthOf_12 (i_iload_n rfl (i_aload_n rfl (i_iload_n rfl (i_iload_n rfl (t_cv3 (Rn_mono mt _ _) 19 rfl (Nat.le_of_ble_eq_true rfl) ?_))))))
        | (show Rch _ _ _ _ _ 19 _ _ _; refine Rch.blk' (Rn_mono mt _ _) bl_X0_worthOf_19 (t_if_eq 40 22 rfl rfl (by first | exact hI_R | exact band_R | exact bor_R | exact bshr_R | exact lcm_R | omega) (fun hc => ?_) (fun hc => ?_)) <;> (first | (exfalso; omega) | skip))
        | (show Rch _ _ _ _ _ 22 _ _ _; refine Rch.blk' (Rn_mono mt _ _) bl_X0_worthOf_22 (i_aload_n rfl (i_gfr rfl (i_iload_n rfl (i_iald (n := 10) rfl (by omega) (by omega) (by omega) (i_aload_n rfl (i_gfr rfl (i_iload_n rfl (i_iald (n := 10) rfl (by omega) (by omega) (by omega) (t_cs2 (Rn_mono mt _ _) 37 rfl (Nat.le_of_ble_eq_true rfl) ?_))))))))))
        | (show Rch _ _ _ _ _ 37 _ _ _; refine Rch.blk' (Rn_mono mt _ _) bl_X0_worthOf_37 (t_goto 41 rfl ?_))
        | (show Rch _ _ _ _ _ 40 _ _ _; refine Rch.blk' (Rn_mono mt _ _) bl_X0_worthOf_40 (i_iconst k_0 (t_none ?_)))
        | (show Rch _ _ _ _ _ 41 _ _ _; refine Rch.blk' (Rn_mono mt _ _) bl_X0_worthOf_41 (i_iadd (i_istore2 trivial (i_iinc3 trivial k_1 (t_goto 4 rfl ?_)))))
        | (show Rch _ _ _ _ _ 49 _ _ _; refine Rch.blk' (Rn_mono mt _ _) bl_X0_worthOf_49 (i_iload_n rfl (t_iret ?_))))
  repeat' (first
    | exact key 0 (by omega) (by omega)
    | (show Rn _ _ _ 3 _ _ _; refine c_X0_isThereOf (by assumption) (by assumption) (by first | omega | exact hI_R) (by first | omega | exact hI_R) (fun _ _ _ _ _ => ?_) (fun _ => ?_))
    | (show Rn _ _ _ 34 _ _ _; refine c_X1_worthWith (by omega) (by omega) (by omega) (fun _ _ => ?_))
    | (show Rch _ _ _ _ _ 0 _ _ _; refine Rch.blk' (Rn_mono mt _ _) bl_X0_worthOf_0 (i_iconst k_0 (i_istore2 trivial (i_iconst k_0 (i_istore3 trivial (t_none ?_))))))
    | (show Rch _ _ _ _ _ 12 _ _ _; refine Rch.blk' (Rn_mono mt _ _) bl_X0_worthOf_12 (i_iload_n rfl (i_aload_n rfl (i_iload_n rfl (i_iload_n rfl (t_cv3 (Rn_mono mt _ _) 19 rfl (Nat.le_of_ble_eq_true rfl) ?_))))))
    | (show Rch _ _ _ _ _ 19 _ _ _; refine Rch.blk' (Rn_mono mt _ _) bl_X0_worthOf_19 (t_if_eq 40 22 rfl rfl (by first | exact hI_R | exact band_R | exact bor_R | exact bshr_R | exact lcm_R | omega) (fun hc => ?_) (fun hc => ?_)) <;> (first | (exfalso; omega) | skip))
    | (show Rch _ _ _ _ _ 22 _ _ _; refine Rch.blk' (Rn_mono mt _ _) bl_X0_worthOf_22 (i_aload_n rfl (i_gfr rfl (i_iload_n rfl (i_iald (n := 10) rfl (by omega) (by omega) (by omega) (i_aload_n rfl (i_gfr rfl (i_iload_n rfl (i_iald (n := 10) rfl (by omega) (by omega) (by omega) (t_cs2 (Rn_mono mt _ _) 37 rfl (Nat.le_of_ble_eq_true rfl) ?_))))))))))
    | (show Rch _ _ _ _ _ 37 _ _ _; refine Rch.blk' (Rn_mono mt _ _) bl_X0_worthOf_37 (t_goto 41 rfl ?_))
    | (show Rch _ _ _ _ _ 40 _ _ _; refine Rch.blk' (Rn_mono mt _ _) bl_X0_worthOf_40 (i_iconst k_0 (t_none ?_)))
    | (show Rch _ _ _ _ _ 41 _ _ _; refine Rch.blk' (Rn_mono mt _ _) bl_X0_worthOf_41 (i_iadd (i_istore2 trivial (i_iinc3 trivial k_1 (t_goto 4 rfl ?_)))))
    | (show Rch _ _ _ _ _ 49 _ _ _; refine Rch.blk' (Rn_mono mt _ _) bl_X0_worthOf_49 (i_iload_n rfl (t_iret ?_))))
theorem c_X0_goerOn (hG : RC h b G) (hO : OKB G) (hra : ra = 0 ∨ ra = 1) {y : Int} (h4 : 0 ≤ y) (h5 : y < 1000000) (hq : ∀ v, v = goer G M ra y → (v = -4 ∨ (0 ≤ v ∧ v < nn G)) → Q (some (ai (I v))) h) : Rn mt L (d + 4) 28 [ar 0 b, ai (I y), ai (I (BT M)), ai (I ra)] h Q := by
  refine Rn.intro iX0_goerOn rfl rfl ?_
  show Rch bX0_goerOn _ _ _ _ 0 [some (ar 0 b), some (ai (I y)), some (ai (I (BT M))), some (ai (I ra)), none, none, none, none, none] [] _
  have e_n := hG.n
  have e_t := hG.t
  have g_n := hO.n
  have g_t := hO.2.1
  have key : ∀ k : Int, k ≤ nn G → 0 ≤ k → ∀ (o : Int) (u v : Option AV), ((GB (cand G M y) (NH G ra) k < 0 → o = 0) ∧ (¬ GB (cand G M y) (NH G ra) k < 0 → o = NH G ra (GB (cand G M y) (NH G ra) k))) → RH L bX0_goerOn (d + 3) Q 10 [some (ar 0 b), some (ai (I y)), some (ai (I (BT M))), some (ai (I ra)), some (ai (I (GB (cand G M y) (NH G ra) k))), some (ai (I o)), some (ai (I k)), u, v] h := by
    refine up_ind (fun k hk ih hk0 o u v ho => ?_)
    have g_g := GB_R (C := cand G M y) (w := NH G ra) k hk0
    have g_o : 0 ≤ o ∧ o ≤ 10 := by
      rcases g_g with e | ⟨e0, e1, -⟩
      · rw [ho.1 (by omega)]; omega
      · have := @NH_R G ra (GB (cand G M y) (NH G ra) k) hO e0 (by omega)
        rw [ho.2 (by omega)]; omega
    by_cases hk1 : k < nn G
    · have ih := ih hk1 (by omega)
      rw [GB_up hk0] at ih
      have g_w := @NH_R G ra k hO hk0 hk1
      have g_i := @ide_R G k y
      have ih1 : (sd G k = tn G ∧ sq G k < 36) → ¬ M k → ¬ ide G k y = -4 → o < cnt (HS G ra k) 10 → ∀ u v : Option AV, RH L bX0_goerOn (d + 3) Q 10 [some (ar 0 b), some (ai (I y)), some (ai (I (BT M))), some (ai (I ra)), some (ai (I k)), some (ai (I (cnt (HS G ra k) 10))), some (ai (I (k + 1))), u, v] h := by
        intro c1 c2 c3 c4 u v
        have c5 : cand G M y k ∧ (GB (cand G M y) (NH G ra) k < 0 ∨ NH G ra (GB (cand G M y) (NH G ra) k) < NH G ra k) := by
          refine ⟨⟨c1.1, c1.2, c2, c3⟩, ?_⟩
          by_cases hn : GB (cand G M y) (NH G ra) k < 0
          · exact Or.inl hn
          · right; rw [← ho.2 hn]; exact c4
        rw [ifp_p c5] at ih
        exact ih _ u v ⟨fun z => by omega, fun _ => rfl⟩
      have ih0 : ¬ ((sd G k = tn G ∧ sq G k < 36) ∧ ¬ M k ∧ ¬ ide G k y = -4 ∧ o < cnt (HS G ra k) 10) → ∀ u v : Option AV, RH L bX0_goerOn (d + 3) Q 10 [some (ar 0 b), some (ai (I y)), some (ai (I (BT M))), some (ai (I ra)), some (ai (I (GB (cand G M y) (NH G ra) k))), some (ai (I o)), some (ai (I (k + 1))), u, v] h := by
        intro c1 u v
        have c5 : ¬ (cand G M y k ∧ (GB (cand G M y) (NH G ra) k < 0 ∨ NH G ra (GB (cand G M y) (NH G ra) k) < NH G ra k)) := by
          rintro ⟨⟨a1, a2, a3, a4⟩, a5⟩
          refine c1 ⟨⟨a1, a2⟩, a3, a4, ?_⟩
          show o < NH G ra k
          by_cases hn : GB (cand G M y) (NH G ra) k < 0
          · rw [ho.1 hn]; omega
          · rw [ho.2 hn]; rcases a5 with a5 | a5
            · exact absurd a5 hn
            · exact a5
        rw [ifp_n c5] at ih
        exact ih o u v ho
      clear ih
      have g_w2 : 0 ≤ cnt (HS G ra k) 10 ∧ cnt (HS G ra k) 10 ≤ 10 := cnt_R (by omega)
      have e_m := b_has (P := M) hk0 (by omega)
      by_cases hM : M k
      · rw [ifp_p hM] at e_m
        have ih0 := ih0 (fun q => q.2.1 hM)
        refine Rch.blk' (Rn_mono mt _ _) bl_X0_goerOn_10 (i_iload rfl (i_aload_n rfl (i_gfi rfl (t_ic_ge 98 19 rfl rfl (by first | exact hI_R | exact band_R | exact bor_R | exact bshr_R | exact lcm_R | omega | (simp (disch := omega) only [e_n]; omega)) (by first | exact hI_R | exact band_R | exact bor_R | exact bshr_R | exact lcm_R | omega | (simp (disch := omega) only [e_n]; omega)) (fun hc => ?_) (fun hc => ?_))))) <;> (try (simp (disch := omega) only [e_n] at hc ⊢)) <;> (first | (exfalso; omega) | skip)
        repeat' (first
          | exact ih0 _ _
          | (show Rn _ _ _ 3 _ _ _; refine c_X0_isThereOf (by assumption) (by assumption) (by first | omega | exact hI_R) (by first | omega | exact hI_R) (fun _ _ _ _ _ => ?_) (fun _ => ?_))
          | (show Rn _ _ _ 23 _ _ _; refine c_X0_ideaOf (by assumption) (by assumption) (by first | omega | exact hI_R) (by omega) (by omega) (fun _ _ _ _ _ _ _ => ?_) (fun _ => ?_))
          | (show Rn _ _ _ 25 _ _ _; refine c_X0_hearersOf (by assumption) (by assumption) (by omega) (by first | omega | exact hI_R) (fun _ _ _ => ?_) (fun _ => ?_) <;> (first | (exfalso; omega) | skip))
          | (show Rn _ _ _ 26 _ _ _; refine c_J6_bitCount_0f7a4 (fun _ _ => ?_))
          | (show Rn _ _ _ 27 _ _ _; refine c_X0_howManyOf (by assumption) (by assumption) (by first | omega | exact hI_R) (fun _ _ => ?_))
          | (show Rch _ _ _ _ _ 0 _ _ _; refine Rch.blk' (Rn_mono mt _ _) bl_X0_goerOn_0 (i_bipush k_m4 (i_istore4 trivial (i_iconst k_0 (i_istore5 trivial (i_iconst k_0 (i_istore6 trivial (t_none ?_))))))))
          | (show Rch _ _ _ _ _ 19 _ _ _; refine Rch.blk' (Rn_mono mt _ _) bl_X0_goerOn_19 (i_aload_n rfl (i_iload rfl (i_aload_n rfl (i_gfi rfl (t_cv3 (Rn_mono mt _ _) 29 rfl (Nat.le_of_ble_eq_true rfl) ?_))))) <;> (try (simp (disch := omega) only [e_t])))
          | (show Rch _ _ _ _ _ 29 _ _ _; refine Rch.blk' (Rn_mono mt _ _) bl_X0_goerOn_29 (t_if_eq 45 32 rfl rfl (by first | exact hI_R | exact band_R | exact bor_R | exact bshr_R | exact lcm_R | omega | (simp (disch := omega) only [e_t]; omega)) (fun hc => ?_) (fun hc => ?_)) <;> (first | (exfalso; omega) | skip))
          | (show Rch _ _ _ _ _ 32 _ _ _; refine Rch.blk' (Rn_mono mt _ _) bl_X0_goerOn_32 (i_iload_n rfl (i_iload rfl (i_ishr (i_iconst k_1 (i_iand (t_if_ne 45 41 rfl rfl (by first | exact hI_R | exact band_R | exact bor_R | exact bshr_R | exact lcm_R | omega | (simp (disch := omega) only [e_t]; omega)) (fun hc => ?_) (fun hc => ?_))))))) <;> (first | (exfalso; omega) | skip))
          | (show Rch _ _ _ _ _ 41 _ _ _; refine Rch.blk' (Rn_mono mt _ _) bl_X0_goerOn_41 (i_iconst k_1 (t_goto 46 rfl ?_)))
          | (show Rch _ _ _ _ _ 45 _ _ _; refine Rch.blk' (Rn_mono mt _ _) bl_X0_goerOn_45 (i_iconst k_0 (t_none ?_)))
          | (show Rch _ _ _ _ _ 46 _ _ _; refine Rch.blk' (Rn_mono mt _ _) bl_X0_goerOn_46 (i_istore7 trivial (i_iload rfl (t_if_eq 92 53 rfl rfl (by first | exact hI_R | exact band_R | exact bor_R | exact bshr_R | exact lcm_R | omega | (simp (disch := omega) only [e_t]; omega)) (fun hc => ?_) (fun hc => ?_)))) <;> (first | (exfalso; omega) | skip))
          | (show Rch _ _ _ _ _ 53 _ _ _; refine Rch.blk' (Rn_mono mt _ _) bl_X0_goerOn_53 (i_aload_n rfl (i_iload rfl (i_iload_n rfl (t_cv3 (Rn_mono mt _ _) 60 rfl (Nat.le_of_ble_eq_true rfl) ?_)))))
          | (show Rch _ _ _ _ _ 60 _ _ _; refine Rch.blk' (Rn_mono mt _ _) bl_X0_goerOn_60 (i_bipush k_m4 (t_ic_eq 92 65 rfl rfl (by first | exact hI_R | exact band_R | exact bor_R | exact bshr_R | exact lcm_R | omega | (simp (disch := omega) only [e_t]; omega)) (by first | exact hI_R | exact band_R | exact bor_R | exact bshr_R | exact lcm_R | omega | (simp (disch := omega) only [e_t]; omega)) (fun hc => ?_) (fun hc => ?_))) <;> (first | (exfalso; omega) | skip))
          | (show Rch _ _ _ _ _ 65 _ _ _; refine Rch.blk' (Rn_mono mt _ _) bl_X0_goerOn_65 (i_aload_n rfl (i_iload rfl (i_iload_n rfl (t_cv3 (Rn_mono mt _ _) 72 rfl (Nat.le_of_ble_eq_true rfl) ?_)))))
          | (show Rch _ _ _ _ _ 72 _ _ _; refine Rch.blk' (Rn_mono mt _ _) bl_X0_goerOn_72 (t_cs1 (Rn_mono mt _ _) 75 rfl (Nat.le_of_ble_eq_true rfl) ?_))
          | (show Rch _ _ _ _ _ 75 _ _ _; refine Rch.blk' (Rn_mono mt _ _) bl_X0_goerOn_75 (i_istore8 trivial (i_iload rfl (i_iload rfl (t_ic_le 92 84 rfl rfl (by first | exact hI_R | exact band_R | exact bor_R | exact bshr_R | exact lcm_R | omega | (simp (disch := omega) only [e_t]; omega)) (by first | exact hI_R | exact band_R | exact bor_R | exact bshr_R | exact lcm_R | omega | (simp (disch := omega) only [e_t]; omega)) (fun hc => ?_) (fun hc => ?_))))) <;> (first | (exfalso; omega) | skip))
          | (show Rch _ _ _ _ _ 84 _ _ _; refine Rch.blk' (Rn_mono mt _ _) bl_X0_goerOn_84 (i_iload rfl (i_istore4 trivial (i_iload rfl (i_istore5 trivial (t_none ?_))))))
          | (show Rch _ _ _ _ _ 92 _ _ _; refine Rch.blk' (Rn_mono mt _ _) bl_X0_goerOn_92 (i_iinc6 trivial k_1 (t_goto 10 rfl ?_)))
          | (show Rch _ _ _ _ _ 98 _ _ _; refine Rch.blk' (Rn_mono mt _ _) bl_X0_goerOn_98 (i_iconst k_2 (i_iload rfl (i_imul (i_aload_n rfl (i_aload_n rfl (i_gfi rfl (t_cv2 (Rn_mono mt _ _) 110 rfl (Nat.le_of_ble_eq_true rfl) ?_))))))) <;> (try (simp (disch := omega) only [e_t])))
          | (show Rch _ _ _ _ _ 110 _ _ _; refine Rch.blk' (Rn_mono mt _ _) bl_X0_goerOn_110 (t_ic_le 118 113 rfl rfl (by first | exact hI_R | exact band_R | exact bor_R | exact bshr_R | exact lcm_R | omega | (simp (disch := omega) only [e_t]; omega)) (by first | exact hI_R | exact band_R | exact bor_R | exact bshr_R | exact lcm_R | omega | (simp (disch := omega) only [e_t]; omega)) (fun hc => ?_) (fun hc => ?_)) <;> (first | (exfalso; omega) | skip))
          | (show Rch _ _ _ _ _ 113 _ _ _; refine Rch.blk' (Rn_mono mt _ _) bl_X0_goerOn_113 (i_iload rfl (t_goto 120 rfl ?_)))
          | (show Rch _ _ _ _ _ 118 _ _ _; refine Rch.blk' (Rn_mono mt _ _) bl_X0_goerOn_118 (i_bipush k_m4 (t_none ?_)))
          | (show Rch _ _ _ _ _ 120 _ _ _; refine Rch.blk' (Rn_mono mt _ _) bl_X0_goerOn_120 (t_iret ?_)))
      · rw [ifp_n hM] at e_m
        have ih1 := fun a c e => ih1 a hM c e
        have ih0 : ¬ ((sd G k = tn G ∧ sq G k < 36) ∧ ¬ ide G k y = -4 ∧ o < cnt (HS G ra k) 10) → ∀ u v : Option AV, RH L bX0_goerOn (d + 3) Q 10 [some (ar 0 b), some (ai (I y)), some (ai (I (BT M))), some (ai (I ra)), some (ai (I (GB (cand G M y) (NH G ra) k))), some (ai (I o)), some (ai (I (k + 1))), u, v] h := fun a => ih0 (fun q => a ⟨q.1, q.2.2⟩)
        refine Rch.blk' (Rn_mono mt _ _) bl_X0_goerOn_10 (i_iload rfl (i_aload_n rfl (i_gfi rfl (t_ic_ge 98 19 rfl rfl (by first | exact hI_R | exact band_R | exact bor_R | exact bshr_R | exact lcm_R | omega | (simp (disch := omega) only [e_n]; omega)) (by first | exact hI_R | exact band_R | exact bor_R | exact bshr_R | exact lcm_R | omega | (simp (disch := omega) only [e_n]; omega)) (fun hc => ?_) (fun hc => ?_))))) <;> (try (simp (disch := omega) only [e_n] at hc ⊢)) <;> (first | (exfalso; omega) | skip)
        repeat' (first
          | exact ih1 (by omega) (by omega) (by omega) _ _
          | exact ih0 (by omega) _ _
          | (show Rn _ _ _ 3 _ _ _; refine c_X0_isThereOf (by assumption) (by assumption) (by first | omega | exact hI_R) (by first | omega | exact hI_R) (fun _ _ _ _ _ => ?_) (fun _ => ?_))
          | (show Rn _ _ _ 23 _ _ _; refine c_X0_ideaOf (by assumption) (by assumption) (by first | omega | exact hI_R) (by omega) (by omega) (fun _ _ _ _ _ _ _ => ?_) (fun _ => ?_))
          | (show Rn _ _ _ 25 _ _ _; refine c_X0_hearersOf (by assumption) (by assumption) (by omega) (by first | omega | exact hI_R) (fun _ _ _ => ?_) (fun _ => ?_) <;> (first | (exfalso; omega) | skip))
          | (show Rn _ _ _ 26 _ _ _; refine c_J6_bitCount_0f7a4 (fun _ _ => ?_))
          | (show Rn _ _ _ 27 _ _ _; refine c_X0_howManyOf (by assumption) (by assumption) (by first | omega | exact hI_R) (fun _ _ => ?_))
          | (show Rch _ _ _ _ _ 0 _ _ _; refine Rch.blk' (Rn_mono mt _ _) bl_X0_goerOn_0 (i_bipush k_m4 (i_istore4 trivial (i_iconst k_0 (i_istore5 trivial (i_iconst k_0 (i_istore6 trivial (t_none ?_))))))))
          | (show Rch _ _ _ _ _ 19 _ _ _; refine Rch.blk' (Rn_mono mt _ _) bl_X0_goerOn_19 (i_aload_n rfl (i_iload rfl (i_aload_n rfl (i_gfi rfl (t_cv3 (Rn_mono mt _ _) 29 rfl (Nat.le_of_ble_eq_true rfl) ?_))))) <;> (try (simp (disch := omega) only [e_t])))
          | (show Rch _ _ _ _ _ 29 _ _ _; refine Rch.blk' (Rn_mono mt _ _) bl_X0_goerOn_29 (t_if_eq 45 32 rfl rfl (by first | exact hI_R | exact band_R | exact bor_R | exact bshr_R | exact lcm_R | omega | (simp (disch := omega) only [e_t]; omega)) (fun hc => ?_) (fun hc => ?_)) <;> (first | (exfalso; omega) | skip))
          | (show Rch _ _ _ _ _ 32 _ _ _; refine Rch.blk' (Rn_mono mt _ _) bl_X0_goerOn_32 (i_iload_n rfl (i_iload rfl (i_ishr (i_iconst k_1 (i_iand (t_if_ne 45 41 rfl rfl (by first | exact hI_R | exact band_R | exact bor_R | exact bshr_R | exact lcm_R | omega | (simp (disch := omega) only [e_t]; omega)) (fun hc => ?_) (fun hc => ?_))))))) <;> (first | (exfalso; omega) | skip))
          | (show Rch _ _ _ _ _ 41 _ _ _; refine Rch.blk' (Rn_mono mt _ _) bl_X0_goerOn_41 (i_iconst k_1 (t_goto 46 rfl ?_)))
          | (show Rch _ _ _ _ _ 45 _ _ _; refine Rch.blk' (Rn_mono mt _ _) bl_X0_goerOn_45 (i_iconst k_0 (t_none ?_)))
          | (show Rch _ _ _ _ _ 46 _ _ _; refine Rch.blk' (Rn_mono mt _ _) bl_X0_goerOn_46 (i_istore7 trivial (i_iload rfl (t_if_eq 92 53 rfl rfl (by first | exact hI_R | exact band_R | exact bor_R | exact bshr_R | exact lcm_R | omega | (simp (disch := omega) only [e_t]; omega)) (fun hc => ?_) (fun hc => ?_)))) <;> (first | (exfalso; omega) | skip))
          | (show Rch _ _ _ _ _ 53 _ _ _; refine Rch.blk' (Rn_mono mt _ _) bl_X0_goerOn_53 (i_aload_n rfl (i_iload rfl (i_iload_n rfl (t_cv3 (Rn_mono mt _ _) 60 rfl (Nat.le_of_ble_eq_true rfl) ?_)))))
          | (show Rch _ _ _ _ _ 60 _ _ _; refine Rch.blk' (Rn_mono mt _ _) bl_X0_goerOn_60 (i_bipush k_m4 (t_ic_eq 92 65 rfl rfl (by first | exact hI_R | exact band_R | exact bor_R | exact bshr_R | exact lcm_R | omega | (simp (disch := omega) only [e_t]; omega)) (by first | exact hI_R | exact band_R | exact bor_R | exact bshr_R | exact lcm_R | omega | (simp (disch := omega) only [e_t]; omega)) (fun hc => ?_) (fun hc => ?_))) <;> (first | (exfalso; omega) | skip))
          | (show Rch _ _ _ _ _ 65 _ _ _; refine Rch.blk' (Rn_mono mt _ _) bl_X0_goerOn_65 (i_aload_n rfl (i_iload rfl (i_iload_n rfl (t_cv3 (Rn_mono mt _ _) 72 rfl (Nat.le_of_ble_eq_true rfl) ?_)))))
          | (show Rch _ _ _ _ _ 72 _ _ _; refine Rch.blk' (Rn_mono mt _ _) bl_X0_goerOn_72 (t_cs1 (Rn_mono mt _ _) 75 rfl (Nat.le_of_ble_eq_true rfl) ?_))
          | (show Rch _ _ _ _ _ 75 _ _ _; refine Rch.blk' (Rn_mono mt _ _) bl_X0_goerOn_75 (i_istore8 trivial (i_iload rfl (i_iload rfl (t_ic_le 92 84 rfl rfl (by first | exact hI_R | exact band_R | exact bor_R | exact bshr_R | exact lcm_R | omega | (simp (disch := omega) only [e_t]; omega)) (by first | exact hI_R | exact band_R | exact bor_R | exact bshr_R | exact lcm_R | omega | (simp (disch := omega) only [e_t]; omega)) (fun hc => ?_) (fun hc => ?_))))) <;> (first | (exfalso; omega) | skip))
          | (show Rch _ _ _ _ _ 84 _ _ _; refine Rch.blk' (Rn_mono mt _ _) bl_X0_goerOn_84 (i_iload rfl (i_istore4 trivial (i_iload rfl (i_istore5 trivial (t_none ?_))))))
          | (show Rch _ _ _ _ _ 92 _ _ _; refine Rch.blk' (Rn_mono mt _ _) bl_X0_goerOn_92 (i_iinc6 trivial k_1 (t_goto 10 rfl ?_)))
          | (show Rch _ _ _ _ _ 98 _ _ _; refine Rch.blk' (Rn_mono mt _ _) bl_X0_goerOn_98 (i_iconst k_2 (i_iload rfl (i_imul (i_aload_n rfl (i_aload_n rfl (i_gfi rfl (t_cv2 (Rn_mono mt _ _) 110 rfl (Nat.le_of_ble_eq_true rfl) ?_))))))) <;> (try (simp (disch := omega) only [e_t])))
          | (show Rch _ _ _ _ _ 110 _ _ _; refine Rch.blk' (Rn_mono mt _ _) bl_X0_goerOn_110 (t_ic_le 118 113 rfl rfl (by first | exact hI_R | exact band_R | exact bor_R | exact bshr_R | exact lcm_R | omega | (simp (disch := omega) only [e_t]; omega)) (by first | exact hI_R | exact band_R | exact bor_R | exact bshr_R | exact lcm_R | omega | (simp (disch := omega) only [e_t]; omega)) (fun hc => ?_) (fun hc => ?_)) <;> (first | (exfalso; omega) | skip))
          | (show Rch _ _ _ _ _ 113 _ _ _; refine Rch.blk' (Rn_mono mt _ _) bl_X0_goerOn_113 (i_iload rfl (t_goto 120 rfl ?_)))
          | (show Rch _ _ _ _ _ 118 _ _ _; refine Rch.blk' (Rn_mono mt _ _) bl_X0_goerOn_118 (i_bipush k_m4 (t_none ?_)))
          | (show Rch _ _ _ _ _ 120 _ _ _; refine Rch.blk' (Rn_mono mt _ _) bl_X0_goerOn_120 (t_iret ?_)))
    · obtain rfl : k = nn G := by omega
      have g_c := CT_R hO (tn G)
      have q1 : CT G (tn G) < 2 * o → GB (cand G M y) (NH G ra) (nn G) = goer G M ra y := by
        intro hh
        have h9 : ¬ GB (cand G M y) (NH G ra) (nn G) < 0 := fun z => by rw [ho.1 z] at hh; omega
        unfold goer
        rw [← ho.2 h9, if_pos ⟨by omega, hh⟩]
      have q0 : ¬ CT G (tn G) < 2 * o → -4 = goer G M ra y := by
        intro hh
        unfold goer
        rw [if_neg]
        rintro ⟨a, c⟩
        rw [← ho.2 (by omega)] at c
        exact hh c
      refine Rch.blk' (Rn_mono mt _ _) bl_X0_goerOn_10 (i_iload rfl (i_aload_n rfl (i_gfi rfl (t_ic_ge 98 19 rfl rfl (by first | exact hI_R | exact band_R | exact bor_R | exact bshr_R | exact lcm_R | omega | (simp (disch := omega) only [e_n]; omega)) (by first | exact hI_R | exact band_R | exact bor_R | exact bshr_R | exact lcm_R | omega | (simp (disch := omega) only [e_n]; omega)) (fun hc => ?_) (fun hc => ?_))))) <;> (try (simp (disch := omega) only [e_n] at hc ⊢)) <;> (first | (exfalso; omega) | skip)
      repeat' (first
        | exact hq _ (q1 (by omega)) (by omega)
        | exact hq _ (q0 (by omega)) (by omega)
        | (show Rn _ _ _ 3 _ _ _; refine c_X0_isThereOf (by assumption) (by assumption) (by first | omega | exact hI_R) (by first | omega | exact hI_R) (fun _ _ _ _ _ => ?_) (fun _ => ?_))
        | (show Rn _ _ _ 23 _ _ _; refine c_X0_ideaOf (by assumption) (by assumption) (by first | omega | exact hI_R) (by omega) (by omega) (fun _ _ _ _ _ _ _ => ?_) (fun _ => ?_))
        | (show Rn _ _ _ 25 _ _ _; refine c_X0_hearersOf (by assumption) (by assumption) (by omega) (by first | omega | exact hI_R) (fun _ _ _ => ?_) (fun _ => ?_) <;> (first | (exfalso; omega) | skip))
        | (show Rn _ _ _ 26 _ _ _; refine c_J6_bitCount_0f7a4 (fun _ _ => ?_))
        | (show Rn _ _ _ 27 _ _ _; refine c_X0_howManyOf (by assumption) (by assumption) (by first | omega | exact hI_R) (fun _ _ => ?_))
        | (show Rch _ _ _ _ _ 0 _ _ _; refine Rch.blk' (Rn_mono mt _ _) bl_X0_goerOn_0 (i_bipush k_m4 (i_istore4 trivial (i_iconst k_0 (i_istore5 trivial (i_iconst k_0 (i_istore6 trivial (t_none ?_))))))))
        | (show Rch _ _ _ _ _ 19 _ _ _; refine Rch.blk' (Rn_mono mt _ _) bl_X0_goerOn_19 (i_aload_n rfl (i_iload rfl (i_aload_n rfl (i_gfi rfl (t_cv3 (Rn_mono mt _ _) 29 rfl (Nat.le_of_ble_eq_true rfl) ?_))))) <;> (try (simp (disch := omega) only [e_t])))
        | (show Rch _ _ _ _ _ 29 _ _ _; refine Rch.blk' (Rn_mono mt _ _) bl_X0_goerOn_29 (t_if_eq 45 32 rfl rfl (by first | exact hI_R | exact band_R | exact bor_R | exact bshr_R | exact lcm_R | omega | (simp (disch := omega) only [e_t]; omega)) (fun hc => ?_) (fun hc => ?_)) <;> (first | (exfalso; omega) | skip))
        | (show Rch _ _ _ _ _ 32 _ _ _; refine Rch.blk' (Rn_mono mt _ _) bl_X0_goerOn_32 (i_iload_n rfl (i_iload rfl (i_ishr (i_iconst k_1 (i_iand (t_if_ne 45 41 rfl rfl (by first | exact hI_R | exact band_R | exact bor_R | exact bshr_R | exact lcm_R | omega | (simp (disch := omega) only [e_t]; omega)) (fun hc => ?_) (fun hc => ?_))))))) <;> (first | (exfalso; omega) | skip))
        | (show Rch _ _ _ _ _ 41 _ _ _; refine Rch.blk' (Rn_mono mt _ _) bl_X0_goerOn_41 (i_iconst k_1 (t_goto 46 rfl ?_)))
        | (show Rch _ _ _ _ _ 45 _ _ _; refine Rch.blk' (Rn_mono mt _ _) bl_X0_goerOn_45 (i_iconst k_0 (t_none ?_)))
        | (show Rch _ _ _ _ _ 46 _ _ _; refine Rch.blk' (Rn_mono mt _ _) bl_X0_goerOn_46 (i_istore7 trivial (i_iload rfl (t_if_eq 92 53 rfl rfl (by first | exact hI_R | exact band_R | exact bor_R | exact bshr_R | exact lcm_R | omega | (simp (disch := omega) only [e_t]; omega)) (fun hc => ?_) (fun hc => ?_)))) <;> (first | (exfalso; omega) | skip))
        | (show Rch _ _ _ _ _ 53 _ _ _; refine Rch.blk' (Rn_mono mt _ _) bl_X0_goerOn_53 (i_aload_n rfl (i_iload rfl (i_iload_n rfl (t_cv3 (Rn_mono mt _ _) 60 rfl (Nat.le_of_ble_eq_true rfl) ?_)))))
        | (show Rch _ _ _ _ _ 60 _ _ _; refine Rch.blk' (Rn_mono mt _ _) bl_X0_goerOn_60 (i_bipush k_m4 (t_ic_eq 92 65 rfl rfl (by first | exact hI_R | exact band_R | exact bor_R | exact bshr_R | exact lcm_R | omega | (simp (disch := omega) only [e_t]; omega)) (by first | exact hI_R | exact band_R | exact bor_R | exact bshr_R | exact lcm_R | omega | (simp (disch := omega) only [e_t]; omega)) (fun hc => ?_) (fun hc => ?_))) <;> (first | (exfalso; omega) | skip))
        | (show Rch _ _ _ _ _ 65 _ _ _; refine Rch.blk' (Rn_mono mt _ _) bl_X0_goerOn_65 (i_aload_n rfl (i_iload rfl (i_iload_n rfl (t_cv3 (Rn_mono mt _ _) 72 rfl (Nat.le_of_ble_eq_true rfl) ?_)))))
        | (show Rch _ _ _ _ _ 72 _ _ _; refine Rch.blk' (Rn_mono mt _ _) bl_X0_goerOn_72 (t_cs1 (Rn_mono mt _ _) 75 rfl (Nat.le_of_ble_eq_true rfl) ?_))
        | (show Rch _ _ _ _ _ 75 _ _ _; refine Rch.blk' (Rn_mono mt _ _) bl_X0_goerOn_75 (i_istore8 trivial (i_iload rfl (i_iload rfl (t_ic_le 92 84 rfl rfl (by first | exact hI_R | exact band_R | exact bor_R | exact bshr_R | exact lcm_R | omega | (simp (disch := omega) only [e_t]; omega)) (by first | exact hI_R | exact band_R | exact bor_R | exact bshr_R | exact lcm_R | omega | (simp (disch := omega) only [e_t]; omega)) (fun hc => ?_) (fun hc => ?_))))) <;> (first | (exfalso; omega) | skip))
        | (show Rch _ _ _ _ _ 84 _ _ _; refine Rch.blk' (Rn_mono mt _ _) bl_X0_goerOn_84 (i_iload rfl (i_istore4 trivial (i_iload rfl (i_istore5 trivial (t_none ?_))))))
        | (show Rch _ _ _ _ _ 92 _ _ _; refine Rch.blk' (Rn_mono mt _ _) bl_X0_goerOn_92 (i_iinc6 trivial k_1 (t_goto 10 rfl ?_)))
        | (show Rch _ _ _ _ _ 98 _ _ _; refine Rch.blk' (Rn_mono mt _ _) bl_X0_goerOn_98 (i_iconst k_2 (i_iload rfl (i_imul (i_aload_n rfl (i_aload_n rfl (i_gfi rfl (t_cv2 (Rn_mono mt _ _) 110 rfl (Nat.le_of_ble_eq_true rfl) ?_))))))) <;> (try (simp (disch := omega) only [e_t])))
        | (show Rch _ _ _ _ _ 110 _ _ _; refine Rch.blk' (Rn_mono mt _ _) bl_X0_goerOn_110 (t_ic_le 118 113 rfl rfl (by first | exact hI_R | exact band_R | exact bor_R | exact bshr_R | exact lcm_R | omega | (simp (disch := omega) only [e_t]; omega)) (by first | exact hI_R | exact band_R | exact bor_R | exact bshr_R | exact lcm_R | omega | (simp (disch := omega) only [e_t]; omega)) (fun hc => ?_) (fun hc => ?_)) <;> (first | (exfalso; omega) | skip))
        | (show Rch _ _ _ _ _ 113 _ _ _; refine Rch.blk' (Rn_mono mt _ _) bl_X0_goerOn_113 (i_iload rfl (t_goto 120 rfl ?_)))
        | (show Rch _ _ _ _ _ 118 _ _ _; refine Rch.blk' (Rn_mono mt _ _) bl_X0_goerOn_118 (i_bipush k_m4 (t_none ?_)))
        | (show Rch _ _ _ _ _ 120 _ _ _; refine Rch.blk' (Rn_mono mt _ _) bl_X0_goerOn_120 (t_iret ?_)))
  repeat' (first
    | exact key 0 (by omega) (by omega) 0 _ _ ⟨fun _ => rfl, fun z => absurd (show (-4 : Int) < 0 by omega) z⟩
    | (show Rn _ _ _ 3 _ _ _; refine c_X0_isThereOf (by assumption) (by assumption) (by first | omega | exact hI_R) (by first | omega | exact hI_R) (fun _ _ _ _ _ => ?_) (fun _ => ?_))
    | (show Rn _ _ _ 23 _ _ _; refine c_X0_ideaOf (by assumption) (by assumption) (by first | omega | exact hI_R) (by omega) (by omega) (fun _ _ _ _ _ _ _ => ?_) (fun _ => ?_))
    | (show Rn _ _ _ 25 _ _ _; refine c_X0_hearersOf (by assumption) (by assumption) (by omega) (by first | omega | exact hI_R) (fun _ _ _ => ?_) (fun _ => ?_) <;> (first | (exfalso; omega) | skip))
    | (show Rn _ _ _ 26 _ _ _; refine c_J6_bitCount_0f7a4 (fun _ _ => ?_))
    | (show Rn _ _ _ 27 _ _ _; refine c_X0_howManyOf (by assumption) (by assumption) (by first | omega | exact hI_R) (fun _ _ => ?_))
    | (show Rch _ _ _ _ _ 0 _ _ _; refine Rch.blk' (Rn_mono mt _ _) bl_X0_goerOn_0 (i_bipush k_m4 (i_istore4 trivial (i_iconst k_0 (i_istore5 trivial (i_iconst k_0 (i_istore6 trivial (t_none ?_))))))))
    | (show Rch _ _ _ _ _ 19 _ _ _; refine Rch.blk' (Rn_mono mt _ _) bl_X0_goerOn_19 (i_aload_n rfl (i_iload rfl (i_aload_n rfl (i_gfi rfl (t_cv3 (Rn_mono mt _ _) 29 rfl (Nat.le_of_ble_eq_true rfl) ?_))))))
    | (show Rch _ _ _ _ _ 29 _ _ _; refine Rch.blk' (Rn_mono mt _ _) bl_X0_goerOn_29 (t_if_eq 45 32 rfl rfl (by first | exact hI_R | exact band_R | exact bor_R | exact bshr_R | exact lcm_R | omega) (fun hc => ?_) (fun hc => ?_)) <;> (first | (exfalso; omega) | skip))
    | (show Rch _ _ _ _ _ 32 _ _ _; refine Rch.blk' (Rn_mono mt _ _) bl_X0_goerOn_32 (i_iload_n rfl (i_iload rfl (i_ishr (i_iconst k_1 (i_iand (t_if_ne 45 41 rfl rfl (by first | exact hI_R | exact band_R | exact bor_R | exact bshr_R | exact lcm_R | omega) (fun hc => ?_) (fun hc => ?_))))))) <;> (first | (exfalso; omega) | skip))
    | (show Rch _ _ _ _ _ 41 _ _ _; refine Rch.blk' (Rn_mono mt _ _) bl_X0_goerOn_41 (i_iconst k_1 (t_goto 46 rfl ?_)))
    | (show Rch _ _ _ _ _ 45 _ _ _; refine Rch.blk' (Rn_mono mt _ _) bl_X0_goerOn_45 (i_iconst k_0 (t_none ?_)))
    | (show Rch _ _ _ _ _ 46 _ _ _; refine Rch.blk' (Rn_mono mt _ _) bl_X0_goerOn_46 (i_istore7 trivial (i_iload rfl (t_if_eq 92 53 rfl rfl (by first | exact hI_R | exact band_R | exact bor_R | exact bshr_R | exact lcm_R | omega) (fun hc => ?_) (fun hc => ?_)))) <;> (first | (exfalso; omega) | skip))
    | (show Rch _ _ _ _ _ 53 _ _ _; refine Rch.blk' (Rn_mono mt _ _) bl_X0_goerOn_53 (i_aload_n rfl (i_iload rfl (i_iload_n rfl (t_cv3 (Rn_mono mt _ _) 60 rfl (Nat.le_of_ble_eq_true rfl) ?_)))))
    | (show Rch _ _ _ _ _ 60 _ _ _; refine Rch.blk' (Rn_mono mt _ _) bl_X0_goerOn_60 (i_bipush k_m4 (t_ic_eq 92 65 rfl rfl (by first | exact hI_R | exact band_R | exact bor_R | exact bshr_R | exact lcm_R | omega) (by first | exact hI_R | exact band_R | exact bor_R | exact bshr_R | exact lcm_R | omega) (fun hc => ?_) (fun hc => ?_))) <;> (first | (exfalso; omega) | skip))
    | (show Rch _ _ _ _ _ 65 _ _ _; refine Rch.blk' (Rn_mono mt _ _) bl_X0_goerOn_65 (i_aload_n rfl (i_iload rfl (i_iload_n rfl (t_cv3 (Rn_mono mt _ _) 72 rfl (Nat.le_of_ble_eq_true rfl) ?_)))))
    | (show Rch _ _ _ _ _ 72 _ _ _; refine Rch.blk' (Rn_mono mt _ _) bl_X0_goerOn_72 (t_cs1 (Rn_mono mt _ _) 75 rfl (Nat.le_of_ble_eq_true rfl) ?_))
    | (show Rch _ _ _ _ _ 75 _ _ _; refine Rch.blk' (Rn_mono mt _ _) bl_X0_goerOn_75 (i_istore8 trivial (i_iload rfl (i_iload rfl (t_ic_le 92 84 rfl rfl (by first | exact hI_R | exact band_R | exact bor_R | exact bshr_R | exact lcm_R | omega) (by first | exact hI_R | exact band_R | exact bor_R | exact bshr_R | exact lcm_R | omega) (fun hc => ?_) (fun hc => ?_))))) <;> (first | (exfalso; omega) | skip))
    | (show Rch _ _ _ _ _ 84 _ _ _; refine Rch.blk' (Rn_mono mt _ _) bl_X0_goerOn_84 (i_iload rfl (i_istore4 trivial (i_iload rfl (i_istore5 trivial (t_none ?_))))))
    | (show Rch _ _ _ _ _ 92 _ _ _; refine Rch.blk' (Rn_mono mt _ _) bl_X0_goerOn_92 (i_iinc6 trivial k_1 (t_goto 10 rfl ?_)))
    | (show Rch _ _ _ _ _ 98 _ _ _; refine Rch.blk' (Rn_mono mt _ _) bl_X0_goerOn_98 (i_iconst k_2 (i_iload rfl (i_imul (i_aload_n rfl (i_aload_n rfl (i_gfi rfl (t_cv2 (Rn_mono mt _ _) 110 rfl (Nat.le_of_ble_eq_true rfl) ?_))))))))
    | (show Rch _ _ _ _ _ 110 _ _ _; refine Rch.blk' (Rn_mono mt _ _) bl_X0_goerOn_110 (t_ic_le 118 113 rfl rfl (by first | exact hI_R | exact band_R | exact bor_R | exact bshr_R | exact lcm_R | omega) (by first | exact hI_R | exact band_R | exact bor_R | exact bshr_R | exact lcm_R | omega) (fun hc => ?_) (fun hc => ?_)) <;> (first | (exfalso; omega) | skip))
    | (show Rch _ _ _ _ _ 113 _ _ _; refine Rch.blk' (Rn_mono mt _ _) bl_X0_goerOn_113 (i_iload rfl (t_goto 120 rfl ?_)))
    | (show Rch _ _ _ _ _ 118 _ _ _; refine Rch.blk' (Rn_mono mt _ _) bl_X0_goerOn_118 (i_bipush k_m4 (t_none ?_)))
    | (show Rch _ _ _ _ _ 120 _ _ _; refine Rch.blk' (Rn_mono mt _ _) bl_X0_goerOn_120 (t_iret ?_)))
end C5


