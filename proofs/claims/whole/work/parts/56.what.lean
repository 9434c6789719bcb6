/-! WHAT KIND: both sides -/
theorem DN_sh {V : Bd} {M : Int → Prop} : ∀ i : Int, 0 ≤ i → DN (DAY V M 0) M i = DN V M (i + 1) := by
  refine ind0 ?_ (fun k k0 ih => ?_)
  · rw [DN_0, DN_up (by omega), DN_0]
  · rw [DN_up k0, ih, ← DN_up (by omega)]
def tolC (V : Bd) (S : Sv) (x p f : Int) : Prop := ∀ i : Int, 0 ≤ i → i < sz S x → (el S x i = lst (so S x) ∨ el S x i = sq (DN V no0 (i + f)) p)
theorem tol_sh {V : Bd} {S : Sv} {x p : Int} : tolC (DAY V no0 0) S x p 0 ↔ tolC V S x p 1 := by
  constructor
  · intro h i i0 i1
    have := h i i0 i1
    rw [Int.add_zero, DN_sh i i0] at this
    exact this
  · intro h i i0 i1
    have := h i i0 i1
    rw [Int.add_zero, DN_sh i i0]
    exact this
noncomputable def wiV (G : Bd) (p w k : Int) : Bd := if w = 0 then stk G p k (fg G p) else stk G p (kd G p) k
def wiM (w : Int) : Int := if w = 0 then 8 else 10
def wiC (G : Bd) (S : Sv) (x p w k : Int) : Prop := tolC (wiV G p w k) S x p 0
noncomputable def vWhatIs (G : Bd) (S : Sv) (x p w : Int) : Int := if (0 ≤ p ∧ p < nn G) ∧ 0 ≤ w ∧ w ≤ 1 then (if rfu S x 2 = 0 then BT (fun k => k < wiM w ∧ wiC G S x p w k) else rfu S x 2) else -1
theorem wiV_f {G : Bd} {p w k : Int} : nn (wiV G p w k) = nn G ∧ dy (wiV G p w k) = dy G := by
  unfold wiV
  split <;> exact ⟨rfl, rfl⟩
theorem OKB_wi {G : Bd} (hO : OKB G) {p w k : Int} (p0 : 0 ≤ p) (p1 : p < nn G) (k0 : 0 ≤ k) (k1 : k < wiM w) : OKB (wiV G p w k) := by
  have g := hO.pc p p0 p1
  unfold wiM at k1
  unfold wiV
  split
  · exact OKB_stk hO (by omega) g.2.1
  · exact OKB_stk hO g.1 (by omega)
section C31
variable {d : Nat} {h : Mem} {Q : Option AV → Mem → Prop} {G W : Bd} {S : Sv} {b : Nat} {M : Int → Prop} {ra : Int}
theorem c_X3_wentAsTold (hW : RC h 2 W) (hO : OKB W) (hS : SC h S) (hK : OKS S) {x p f : Int} (x0 : 0 ≤ x) (x1 : x < 8) (hh : ho S x = 2) (p0 : 0 ≤ p) (p1 : p < nn W) (hf : f = 0 ∨ f = 1) (hd : dy W < 800000) (h1 : tolC W S x p f → ∀ h', FrC h h' 2 → Q (some (ai (I 1))) h') (h0 : ¬ tolC W S x p f → ∀ h', FrC h h' 2 → Q (some (ai (I 0))) h') : Rn mt (d + 8) 83 [ar 2 0, ai (I p), ar 1 x.toNat, ai (I f)] h Q := by
  refine Rn.intro iX3_wentAsTold rfl rfl ?_
  show Rch bX3_wentAsTold _ _ _ _ 0 [some (ar 2 0), some (ai (I p)), some (ar 1 x.toNat), some (ai (I f)), none] [] _
  have g := (hK x x0 x1).2.2 hh
  have g_n := hO.n
  have key : ∀ k : Int, k ≤ sz S x → 0 ≤ k → (∀ j : Int, 0 ≤ j → j < k → (el S x j = lst (so S x) ∨ el S x j = sq (DN W no0 (j + f)) p)) → ∀ (m : Int) (h' : Mem), (k = 0 ∧ m = 0) ∨ (0 < k ∧ m = k - 1 + f) → RC h' 2 (DN W no0 m) → FrC h h' 2 → RH bX3_wentAsTold (d + 7) Q 3 [some (ar 2 0), some (ai (I p)), some (ar 1 x.toNat), some (ai (I f)), some (ai (I k))] h' := by
    refine up_ind (fun k hk ih hk0 hn m h' hm hR hF => ?_)
    have hS' : SC h' S := hS.fr (fun t b j ht => hF t b j (by omega))
    have e_z := hS'.z x0 x1 hh
    obtain ⟨hOm, hnm, hdm, -⟩ := DN_f (M := no0) hO m (by omega)
    by_cases hk1 : k < sz S x
    · have ih := ih hk1 (by omega)
      have hmid : ∀ h2, RC h2 2 (DN W no0 (k + f)) → FrC h h2 2 → Rch bX3_wentAsTold (Rn mt (d + 7)) 0 (fun _ _ _ _ => False) Q 31 [some (ar 2 0), some (ai (I p)), some (ar 1 x.toNat), some (ai (I f)), some (ai (I k))] [] h2 := by
        intro h2 hR2 hF2
        have hS2 : SC h2 S := hS.fr (fun t b j ht => hF2 t b j (by omega))
        obtain ⟨hOk, hnk, -⟩ := DN_f (M := no0) hO (k + f) (by omega)
        have g_q := (hOk.pc p p0 (by rw [hnk]; exact p1)).2.2.2
        have kH : ∀ _u : Unit, ¬ (el S x k = lst (so S x) ∨ el S x k = sq (DN W no0 (k + f)) p) → Q (some (ai (I 0))) h2 := fun _ c => h0 (fun z => c (z k hk0 hk1)) h2 hF2
        have ih2 : ∀ _u : Unit, (el S x k = lst (so S x) ∨ el S x k = sq (DN W no0 (k + f)) p) → RH bX3_wentAsTold (d + 7) Q 3 [some (ar 2 0), some (ai (I p)), some (ar 1 x.toNat), some (ai (I f)), some (ai (I (k + 1)))] h2 := fun _ c => ih (fun j j0 j1 => by
          by_cases e : j = k
          · subst e; exact c
          · exact hn j j0 (by omega)) (k + f) h2 (Or.inr ⟨by omega, by omega⟩) hR2 hF2
        clear ih hn h1 h0
        repeat' (first
          | (show Rn _ _ 4 _ _ _; refine c_X0_squareOf hR2 hOk ⟨by omega, by omega⟩ (fun _ _ => ?_) (fun z => absurd ⟨p0, by rw [hnk]; exact p1⟩ z))
          | exact kH () (by omega)
          | exact ih2 () (by omega)
          | (show Rn _ _ 52 _ _ _; refine c_X2_isSkipped (by assumption) (by assumption) (by assumption) (by assumption) (by assumption) (by omega) (by omega) (fun _ => ?_) (fun _ => ?_))
          | (show Rn _ _ 50 _ _ _; refine c_X2_elementAt (by assumption) (by assumption) (by first | omega | exact hI_R) (by assumption) (by assumption) (by assumption) (fun _ _ _ => ?_) (fun _ => ?_))
          | (show Rn _ _ 4 _ _ _; refine c_X0_squareOf (by assumption) (by assumption) (by first | omega | exact hI_R) (fun _ _ => ?_) (fun _ => ?_))
          | (show Rch _ _ _ _ _ 0 _ _ _; refine Rch.blk' (Rn_mono mt _) bl_X3_wentAsTold_0 (i_iconst k_0 (i_istore4 trivial (t_none ?_))))
          | (show Rch _ _ _ _ _ 12 _ _ _; refine Rch.blk' (Rn_mono mt _) bl_X3_wentAsTold_12 (i_iload rfl (t_if_gt 21 17 rfl rfl (by first | exact hI_R | exact band_R | exact bor_R | exact bshr_R | exact lcm_R | omega) (fun hc => ?_) (fun hc => ?_))) <;> (first | (exfalso; omega) | skip))
          | (show Rch _ _ _ _ _ 17 _ _ _; refine Rch.blk' (Rn_mono mt _) bl_X3_wentAsTold_17 (i_iload_n rfl (t_if_le 31 21 rfl rfl (by first | exact hI_R | exact band_R | exact bor_R | exact bshr_R | exact lcm_R | omega) (fun hc => ?_) (fun hc => ?_))) <;> (first | (exfalso; omega) | skip))
          | (show Rch _ _ _ _ _ 21 _ _ _; refine Rch.blk' (Rn_mono mt _) bl_X3_wentAsTold_21 (i_aload_n rfl (i_gfs rfl (i_iconst k_0 (i_iconst k_0 (t_cv3 (Rn_mono mt _) 30 rfl (Nat.le_of_ble_eq_true rfl) ?_))))))
          | (show Rch _ _ _ _ _ 30 _ _ _; refine Rch.blk' (Rn_mono mt _) bl_X3_wentAsTold_30 (i_pop rfl (t_none ?_)))
          | (show Rch _ _ _ _ _ 31 _ _ _; refine Rch.blk' (Rn_mono mt _) bl_X3_wentAsTold_31 (i_aload_n rfl (i_iload rfl (t_cv2 (Rn_mono mt _) 37 rfl (Nat.le_of_ble_eq_true rfl) ?_))))
          | (show Rch _ _ _ _ _ 37 _ _ _; refine Rch.blk' (Rn_mono mt _) bl_X3_wentAsTold_37 (t_if_ne 59 40 rfl rfl (by first | exact hI_R | exact band_R | exact bor_R | exact bshr_R | exact lcm_R | omega) (fun hc => ?_) (fun hc => ?_)) <;> (first | (exfalso; omega) | skip))
          | (show Rch _ _ _ _ _ 40 _ _ _; refine Rch.blk' (Rn_mono mt _) bl_X3_wentAsTold_40 (i_aload_n rfl (i_iload rfl (t_cv2 (Rn_mono mt _) 46 rfl (Nat.le_of_ble_eq_true rfl) ?_))))
          | (show Rch _ _ _ _ _ 46 _ _ _; refine Rch.blk' (Rn_mono mt _) bl_X3_wentAsTold_46 (i_aload_n rfl (i_gfs rfl (i_iload_n rfl (t_cv2 (Rn_mono mt _) 54 rfl (Nat.le_of_ble_eq_true rfl) ?_)))))
          | (show Rch _ _ _ _ _ 54 _ _ _; refine Rch.blk' (Rn_mono mt _) bl_X3_wentAsTold_54 (t_ic_eq 59 57 rfl rfl (by first | exact hI_R | exact band_R | exact bor_R | exact bshr_R | exact lcm_R | omega) (by first | exact hI_R | exact band_R | exact bor_R | exact bshr_R | exact lcm_R | omega) (fun hc => ?_) (fun hc => ?_)) <;> (first | (exfalso; omega) | skip))
          | (show Rch _ _ _ _ _ 57 _ _ _; refine Rch.blk' (Rn_mono mt _) bl_X3_wentAsTold_57 (i_iconst k_0 (t_zret (by omega) ?_)))
          | (show Rch _ _ _ _ _ 59 _ _ _; refine Rch.blk' (Rn_mono mt _) bl_X3_wentAsTold_59 (i_iinc4 trivial k_1 (t_goto 3 rfl ?_)))
          | (show Rch _ _ _ _ _ 65 _ _ _; refine Rch.blk' (Rn_mono mt _) bl_X3_wentAsTold_65 (i_iconst k_1 (t_zret (by omega) ?_))))
      clear ih hn
      refine Rch.blk' (Rn_mono mt _) bl_X3_wentAsTold_3 (i_iload rfl (i_aload_n rfl (i_gfi rfl (t_ic_ge 65 12 rfl rfl (by first | exact hI_R | exact band_R | exact bor_R | exact bshr_R | exact lcm_R | omega | (simp (disch := omega) only [e_z]; omega)) (by first | exact hI_R | exact band_R | exact bor_R | exact bshr_R | exact lcm_R | omega | (simp (disch := omega) only [e_z]; omega)) (fun hc => ?_) (fun hc => ?_))))) <;> (try (simp (disch := omega) only [e_z] at hc ⊢)) <;> (first | (exfalso; omega) | skip)
      by_cases c : k = 0 ∧ f = 0
      · have hm0 : m = k + f := by omega
        rw [hm0] at hR
        refine Rch.blk' (Rn_mono mt _) bl_X3_wentAsTold_12 (i_iload rfl (t_if_gt 21 17 rfl rfl (by first | exact hI_R | exact band_R | exact bor_R | exact bshr_R | exact lcm_R | omega) (fun hc => ?_) (fun hc => ?_))) <;> (first | (exfalso; omega) | skip)
        refine Rch.blk' (Rn_mono mt _) bl_X3_wentAsTold_17 (i_iload_n rfl (t_if_le 31 21 rfl rfl (by first | exact hI_R | exact band_R | exact bor_R | exact bshr_R | exact lcm_R | omega) (fun hc => ?_) (fun hc => ?_))) <;> (first | (exfalso; omega) | skip)
        exact hmid _ hR hF
      · have hm0 : m + 1 = k + f := by omega
        have h21 : Rch bX3_wentAsTold (Rn mt (d + 7)) 0 (fun _ _ _ _ => False) Q 21 [some (ar 2 0), some (ai (I p)), some (ar 1 x.toNat), some (ai (I f)), some (ai (I k))] [] h' := by
          refine Rch.blk' (Rn_mono mt _) bl_X3_wentAsTold_21 (i_aload_n rfl (i_gfs rfl (i_iconst k_0 (i_iconst k_0 (t_cv3 (Rn_mono mt _) 30 rfl (Nat.le_of_ble_eq_true rfl) ?_)))))
          refine c_X0_passDay0 hR hOm (by omega) (by omega) (fun h2 hG2 hF2 v _ => ?_)
          rw [← DN_up (by omega), hm0] at hG2
          refine Rch.blk' (Rn_mono mt _) bl_X3_wentAsTold_30 (i_pop rfl (t_none ?_))
          exact hmid _ hG2 (hF.tr hF2)
        clear hmid
        repeat' (first
          | exact h21
          | (show Rn _ _ 52 _ _ _; refine c_X2_isSkipped (by assumption) (by assumption) (by assumption) (by assumption) (by assumption) (by omega) (by omega) (fun _ => ?_) (fun _ => ?_))
          | (show Rn _ _ 50 _ _ _; refine c_X2_elementAt (by assumption) (by assumption) (by first | omega | exact hI_R) (by assumption) (by assumption) (by assumption) (fun _ _ _ => ?_) (fun _ => ?_))
          | (show Rn _ _ 4 _ _ _; refine c_X0_squareOf (by assumption) (by assumption) (by first | omega | exact hI_R) (fun _ _ => ?_) (fun _ => ?_))
          | (show Rch _ _ _ _ _ 0 _ _ _; refine Rch.blk' (Rn_mono mt _) bl_X3_wentAsTold_0 (i_iconst k_0 (i_istore4 trivial (t_none ?_))))
          | (show Rch _ _ _ _ _ 12 _ _ _; refine Rch.blk' (Rn_mono mt _) bl_X3_wentAsTold_12 (i_iload rfl (t_if_gt 21 17 rfl rfl (by first | exact hI_R | exact band_R | exact bor_R | exact bshr_R | exact lcm_R | omega) (fun hc => ?_) (fun hc => ?_))) <;> (first | (exfalso; omega) | skip))
          | (show Rch _ _ _ _ _ 17 _ _ _; refine Rch.blk' (Rn_mono mt _) bl_X3_wentAsTold_17 (i_iload_n rfl (t_if_le 31 21 rfl rfl (by first | exact hI_R | exact band_R | exact bor_R | exact bshr_R | exact lcm_R | omega) (fun hc => ?_) (fun hc => ?_))) <;> (first | (exfalso; omega) | skip))
          | (show Rch _ _ _ _ _ 30 _ _ _; refine Rch.blk' (Rn_mono mt _) bl_X3_wentAsTold_30 (i_pop rfl (t_none ?_)))
          | (show Rch _ _ _ _ _ 37 _ _ _; refine Rch.blk' (Rn_mono mt _) bl_X3_wentAsTold_37 (t_if_ne 59 40 rfl rfl (by first | exact hI_R | exact band_R | exact bor_R | exact bshr_R | exact lcm_R | omega) (fun hc => ?_) (fun hc => ?_)) <;> (first | (exfalso; omega) | skip))
          | (show Rch _ _ _ _ _ 40 _ _ _; refine Rch.blk' (Rn_mono mt _) bl_X3_wentAsTold_40 (i_aload_n rfl (i_iload rfl (t_cv2 (Rn_mono mt _) 46 rfl (Nat.le_of_ble_eq_true rfl) ?_))))
          | (show Rch _ _ _ _ _ 46 _ _ _; refine Rch.blk' (Rn_mono mt _) bl_X3_wentAsTold_46 (i_aload_n rfl (i_gfs rfl (i_iload_n rfl (t_cv2 (Rn_mono mt _) 54 rfl (Nat.le_of_ble_eq_true rfl) ?_)))))
          | (show Rch _ _ _ _ _ 54 _ _ _; refine Rch.blk' (Rn_mono mt _) bl_X3_wentAsTold_54 (t_ic_eq 59 57 rfl rfl (by first | exact hI_R | exact band_R | exact bor_R | exact bshr_R | exact lcm_R | omega) (by first | exact hI_R | exact band_R | exact bor_R | exact bshr_R | exact lcm_R | omega) (fun hc => ?_) (fun hc => ?_)) <;> (first | (exfalso; omega) | skip))
          | (show Rch _ _ _ _ _ 57 _ _ _; refine Rch.blk' (Rn_mono mt _) bl_X3_wentAsTold_57 (i_iconst k_0 (t_zret (by omega) ?_)))
          | (show Rch _ _ _ _ _ 59 _ _ _; refine Rch.blk' (Rn_mono mt _) bl_X3_wentAsTold_59 (i_iinc4 trivial k_1 (t_goto 3 rfl ?_)))
          | (show Rch _ _ _ _ _ 65 _ _ _; refine Rch.blk' (Rn_mono mt _) bl_X3_wentAsTold_65 (i_iconst k_1 (t_zret (by omega) ?_))))
    · have kk : Q (some (ai (I 1))) h' := h1 (fun i i0 i1 => hn i i0 (by omega)) h' hF
      clear ih hn
      refine Rch.blk' (Rn_mono mt _) bl_X3_wentAsTold_3 (i_iload rfl (i_aload_n rfl (i_gfi rfl (t_ic_ge 65 12 rfl rfl (by first | exact hI_R | exact band_R | exact bor_R | exact bshr_R | exact lcm_R | omega | (simp (disch := omega) only [e_z]; omega)) (by first | exact hI_R | exact band_R | exact bor_R | exact bshr_R | exact lcm_R | omega | (simp (disch := omega) only [e_z]; omega)) (fun hc => ?_) (fun hc => ?_))))) <;> (try (simp (disch := omega) only [e_z] at hc ⊢)) <;> (first | (exfalso; omega) | skip)
      repeat' (first
        | exact kk
        | (show Rn _ _ 52 _ _ _; refine c_X2_isSkipped (by assumption) (by assumption) (by assumption) (by assumption) (by assumption) (by omega) (by omega) (fun _ => ?_) (fun _ => ?_))
        | (show Rn _ _ 50 _ _ _; refine c_X2_elementAt (by assumption) (by assumption) (by first | omega | exact hI_R) (by assumption) (by assumption) (by assumption) (fun _ _ _ => ?_) (fun _ => ?_))
        | (show Rn _ _ 4 _ _ _; refine c_X0_squareOf (by assumption) (by assumption) (by first | omega | exact hI_R) (fun _ _ => ?_) (fun _ => ?_))
        | (show Rch _ _ _ _ _ 0 _ _ _; refine Rch.blk' (Rn_mono mt _) bl_X3_wentAsTold_0 (i_iconst k_0 (i_istore4 trivial (t_none ?_))))
        | (show Rch _ _ _ _ _ 12 _ _ _; refine Rch.blk' (Rn_mono mt _) bl_X3_wentAsTold_12 (i_iload rfl (t_if_gt 21 17 rfl rfl (by first | exact hI_R | exact band_R | exact bor_R | exact bshr_R | exact lcm_R | omega) (fun hc => ?_) (fun hc => ?_))) <;> (first | (exfalso; omega) | skip))
        | (show Rch _ _ _ _ _ 17 _ _ _; refine Rch.blk' (Rn_mono mt _) bl_X3_wentAsTold_17 (i_iload_n rfl (t_if_le 31 21 rfl rfl (by first | exact hI_R | exact band_R | exact bor_R | exact bshr_R | exact lcm_R | omega) (fun hc => ?_) (fun hc => ?_))) <;> (first | (exfalso; omega) | skip))
        | (show Rch _ _ _ _ _ 21 _ _ _; refine Rch.blk' (Rn_mono mt _) bl_X3_wentAsTold_21 (i_aload_n rfl (i_gfs rfl (i_iconst k_0 (i_iconst k_0 (t_cv3 (Rn_mono mt _) 30 rfl (Nat.le_of_ble_eq_true rfl) ?_))))))
        | (show Rch _ _ _ _ _ 30 _ _ _; refine Rch.blk' (Rn_mono mt _) bl_X3_wentAsTold_30 (i_pop rfl (t_none ?_)))
        | (show Rch _ _ _ _ _ 31 _ _ _; refine Rch.blk' (Rn_mono mt _) bl_X3_wentAsTold_31 (i_aload_n rfl (i_iload rfl (t_cv2 (Rn_mono mt _) 37 rfl (Nat.le_of_ble_eq_true rfl) ?_))))
        | (show Rch _ _ _ _ _ 37 _ _ _; refine Rch.blk' (Rn_mono mt _) bl_X3_wentAsTold_37 (t_if_ne 59 40 rfl rfl (by first | exact hI_R | exact band_R | exact bor_R | exact bshr_R | exact lcm_R | omega) (fun hc => ?_) (fun hc => ?_)) <;> (first | (exfalso; omega) | skip))
        | (show Rch _ _ _ _ _ 40 _ _ _; refine Rch.blk' (Rn_mono mt _) bl_X3_wentAsTold_40 (i_aload_n rfl (i_iload rfl (t_cv2 (Rn_mono mt _) 46 rfl (Nat.le_of_ble_eq_true rfl) ?_))))
        | (show Rch _ _ _ _ _ 46 _ _ _; refine Rch.blk' (Rn_mono mt _) bl_X3_wentAsTold_46 (i_aload_n rfl (i_gfs rfl (i_iload_n rfl (t_cv2 (Rn_mono mt _) 54 rfl (Nat.le_of_ble_eq_true rfl) ?_)))))
        | (show Rch _ _ _ _ _ 54 _ _ _; refine Rch.blk' (Rn_mono mt _) bl_X3_wentAsTold_54 (t_ic_eq 59 57 rfl rfl (by first | exact hI_R | exact band_R | exact bor_R | exact bshr_R | exact lcm_R | omega) (by first | exact hI_R | exact band_R | exact bor_R | exact bshr_R | exact lcm_R | omega) (fun hc => ?_) (fun hc => ?_)) <;> (first | (exfalso; omega) | skip))
        | (show Rch _ _ _ _ _ 57 _ _ _; refine Rch.blk' (Rn_mono mt _) bl_X3_wentAsTold_57 (i_iconst k_0 (t_zret (by omega) ?_)))
        | (show Rch _ _ _ _ _ 59 _ _ _; refine Rch.blk' (Rn_mono mt _) bl_X3_wentAsTold_59 (i_iinc4 trivial k_1 (t_goto 3 rfl ?_)))
        | (show Rch _ _ _ _ _ 65 _ _ _; refine Rch.blk' (Rn_mono mt _) bl_X3_wentAsTold_65 (i_iconst k_1 (t_zret (by omega) ?_))))
  have kz := key 0 (by omega) (by omega) (fun j a b => by omega) 0 h (Or.inl ⟨rfl, rfl⟩) hW FrC.rf
  clear key
  repeat' (first
    | exact kz
    | (show Rn _ _ 52 _ _ _; refine c_X2_isSkipped (by assumption) (by assumption) (by assumption) (by assumption) (by assumption) (by omega) (by omega) (fun _ => ?_) (fun _ => ?_))
    | (show Rn _ _ 50 _ _ _; refine c_X2_elementAt (by assumption) (by assumption) (by first | omega | exact hI_R) (by assumption) (by assumption) (by assumption) (fun _ _ _ => ?_) (fun _ => ?_))
    | (show Rn _ _ 4 _ _ _; refine c_X0_squareOf (by assumption) (by assumption) (by first | omega | exact hI_R) (fun _ _ => ?_) (fun _ => ?_))
    | (show Rch _ _ _ _ _ 0 _ _ _; refine Rch.blk' (Rn_mono mt _) bl_X3_wentAsTold_0 (i_iconst k_0 (i_istore4 trivial (t_none ?_))))
    | (show Rch _ _ _ _ _ 12 _ _ _; refine Rch.blk' (Rn_mono mt _) bl_X3_wentAsTold_12 (i_iload rfl (t_if_gt 21 17 rfl rfl (by first | exact hI_R | exact band_R | exact bor_R | exact bshr_R | exact lcm_R | omega) (fun hc => ?_) (fun hc => ?_))) <;> (first | (exfalso; omega) | skip))
    | (show Rch _ _ _ _ _ 17 _ _ _; refine Rch.blk' (Rn_mono mt _) bl_X3_wentAsTold_17 (i_iload_n rfl (t_if_le 31 21 rfl rfl (by first | exact hI_R | exact band_R | exact bor_R | exact bshr_R | exact lcm_R | omega) (fun hc => ?_) (fun hc => ?_))) <;> (first | (exfalso; omega) | skip))
    | (show Rch _ _ _ _ _ 21 _ _ _; refine Rch.blk' (Rn_mono mt _) bl_X3_wentAsTold_21 (i_aload_n rfl (i_gfs rfl (i_iconst k_0 (i_iconst k_0 (t_cv3 (Rn_mono mt _) 30 rfl (Nat.le_of_ble_eq_true rfl) ?_))))))
    | (show Rch _ _ _ _ _ 30 _ _ _; refine Rch.blk' (Rn_mono mt _) bl_X3_wentAsTold_30 (i_pop rfl (t_none ?_)))
    | (show Rch _ _ _ _ _ 31 _ _ _; refine Rch.blk' (Rn_mono mt _) bl_X3_wentAsTold_31 (i_aload_n rfl (i_iload rfl (t_cv2 (Rn_mono mt _) 37 rfl (Nat.le_of_ble_eq_true rfl) ?_))))
    | (show Rch _ _ _ _ _ 37 _ _ _; refine Rch.blk' (Rn_mono mt _) bl_X3_wentAsTold_37 (t_if_ne 59 40 rfl rfl (by first | exact hI_R | exact band_R | exact bor_R | exact bshr_R | exact lcm_R | omega) (fun hc => ?_) (fun hc => ?_)) <;> (first | (exfalso; omega) | skip))
    | (show Rch _ _ _ _ _ 40 _ _ _; refine Rch.blk' (Rn_mono mt _) bl_X3_wentAsTold_40 (i_aload_n rfl (i_iload rfl (t_cv2 (Rn_mono mt _) 46 rfl (Nat.le_of_ble_eq_true rfl) ?_))))
    | (show Rch _ _ _ _ _ 46 _ _ _; refine Rch.blk' (Rn_mono mt _) bl_X3_wentAsTold_46 (i_aload_n rfl (i_gfs rfl (i_iload_n rfl (t_cv2 (Rn_mono mt _) 54 rfl (Nat.le_of_ble_eq_true rfl) ?_)))))
    | (show Rch _ _ _ _ _ 54 _ _ _; refine Rch.blk' (Rn_mono mt _) bl_X3_wentAsTold_54 (t_ic_eq 59 57 rfl rfl (by first | exact hI_R | exact band_R | exact bor_R | exact bshr_R | exact lcm_R | omega) (by first | exact hI_R | exact band_R | exact bor_R | exact bshr_R | exact lcm_R | omega) (fun hc => ?_) (fun hc => ?_)) <;> (first | (exfalso; omega) | skip))
    | (show Rch _ _ _ _ _ 57 _ _ _; refine Rch.blk' (Rn_mono mt _) bl_X3_wentAsTold_57 (i_iconst k_0 (t_zret (by omega) ?_)))
    | (show Rch _ _ _ _ _ 59 _ _ _; refine Rch.blk' (Rn_mono mt _) bl_X3_wentAsTold_59 (i_iinc4 trivial k_1 (t_goto 3 rfl ?_)))
    | (show Rch _ _ _ _ _ 65 _ _ _; refine Rch.blk' (Rn_mono mt _) bl_X3_wentAsTold_65 (i_iconst k_1 (t_zret (by omega) ?_))))
theorem c_X3_whatIs (hG : RC h 0 G) (hO : OKB G) (hy : dy G ≤ 999) (hS : SC h S) (hK : OKS S) {x p w : Int} (hx : inR x) (hp : inR p) (hw : inR w) (hq : ∀ v h', v = vWhatIs G S x p w → JX h h' → Q (some (ai (I v))) h') : Rn mt (d + 20) 84 [ar 2 0, ai (I x), ai (I p), ai (I w)] h Q := by
  refine Rn.intro iX3_whatIs rfl rfl ?_
  show Rch bX3_whatIs _ _ _ _ 0 [some (ar 2 0), some (ai (I x)), some (ai (I p)), some (ai (I w)), none, none, none, none] [] _
  have g_n := hO.n
  have k1 : ∀ u, u = -1 → ¬ ((0 ≤ x ∧ x < 8) ∧ (0 ≤ p ∧ p < nn G) ∧ 0 ≤ w ∧ w ≤ 1) → Q (some (ai (I u))) h := fun u e a => hq _ _ (by
    unfold vWhatIs
    split
    · rename_i c
      have r : rfu S x 2 = -1 := by unfold rfu; rw [if_neg (fun z => a ⟨z, c⟩)]
      rw [r, if_neg (by omega)]; exact e
    · exact e) JX.rf
  have k2 : ∀ u, u = rfu S x 2 → ¬ u = 0 → (0 ≤ p ∧ p < nn G) ∧ 0 ≤ w ∧ w ≤ 1 → Q (some (ai (I u))) h := fun u e a c => hq _ _ (by unfold vWhatIs; rw [if_pos c, if_neg (by omega)]; exact e) JX.rf
  have key : 0 ≤ x → x < 8 → ho S x = 2 → (0 ≤ p ∧ p < nn G) → (0 ≤ w ∧ w ≤ 1) → ∀ k : Int, k ≤ wiM w → 0 ≤ k → ∀ h', FrC h h' 2 → RH bX3_whatIs (d + 19) Q 56 [some (ar 2 0), some (ai (I x)), some (ai (I p)), some (ai (I w)), some (ar 1 x.toNat), some (ai (I 0)), some (ai (I (BT (fun i => i < k ∧ wiC G S x p w i)))), some (ai (I k))] h' := by
    rintro x0 x1 hh ⟨p0, p1⟩ hw2
    have r0 : rfu S x 2 = 0 := by unfold rfu; rw [if_pos ⟨x0, x1⟩, if_neg (by omega), if_pos hh]
    have g_M : (w = 0 → wiM w = 8) ∧ (w = 1 → wiM w = 10) := ⟨fun e => if_pos e, fun e => if_neg (by omega)⟩
    refine up_ind (fun k hk ih hk0 h' hF => ?_)
    have hR := hG.fr hF (by decide)
    by_cases hk1 : k < wiM w
    · have ih := ih hk1 (by omega)
      have ih1 : wiC G S x p w k → ∀ h2, FrC h h2 2 → RH bX3_whatIs (d + 19) Q 56 [some (ar 2 0), some (ai (I x)), some (ai (I p)), some (ai (I w)), some (ar 1 x.toNat), some (ai (I 0)), some (ai (I (bor (BT (fun i => i < k ∧ wiC G S x p w i)) (bshl 1 k)))), some (ai (I (k + 1)))] h2 := fun c h2 hF2 => by
        rw [BT_up1 (C := wiC G S x p w) hk0 (by omega) c]; exact ih h2 hF2
      have ih0 : ¬ wiC G S x p w k → ∀ h2, FrC h h2 2 → RH bX3_whatIs (d + 19) Q 56 [some (ar 2 0), some (ai (I x)), some (ai (I p)), some (ai (I w)), some (ar 1 x.toNat), some (ai (I 0)), some (ai (I (BT (fun i => i < k ∧ wiC G S x p w i)))), some (ai (I (k + 1)))] h2 := fun c h2 hF2 => by
        rw [BT_up0 (C := wiC G S x p w) c]; exact ih h2 hF2
      clear ih hq k1 k2
      have hf := @wiV_f G p w k
      have hO2 := OKB_wi hO p0 p1 hk0 hk1
      have hmid : ∀ h2, RC h2 2 (wiV G p w k) → FrC h h2 2 → Rch bX3_whatIs (Rn mt (d + 19)) 0 (fun _ _ _ _ => False) Q 130 [some (ar 2 0), some (ai (I x)), some (ai (I p)), some (ai (I w)), some (ar 1 x.toNat), some (ai (I 0)), some (ai (I (BT (fun i => i < k ∧ wiC G S x p w i)))), some (ai (I k))] [] h2 := by
        intro h2 hR2 hF2
        have hS2 : SC h2 S := hS.fr (fun t b j ht => hF2 t b j (by omega))
        refine Rch.blk' (Rn_mono mt _) bl_X3_whatIs_130 (i_aload_n rfl (i_iload_n rfl (i_aload rfl (i_iconst k_0 (t_cv4 (Rn_mono mt _) 138 rfl (Nat.le_of_ble_eq_true rfl) ?_)))))
        refine c_X3_wentAsTold hR2 hO2 hS2 hK x0 x1 hh p0 (by omega) (Or.inl rfl) (by omega) (fun c h3 hF3 => ?_) (fun c h3 hF3 => ?_)
        · have i1 := ih1 c h3 (hF2.tr hF3)
          clear ih1 ih0
          repeat' (first
            | exact i1
            | (show Rn _ _ 57 _ _ _; refine c_X3_shelfAt (by first | omega | exact hI_R) (fun _ _ => ?_) (fun _ => ?_))
            | (show Rn _ _ 1 _ _ _; refine c_X0_has (by assumption) (by assumption) (by first | omega | exact hI_R) (fun _ _ => ?_) (fun _ => ?_))
            | (show Rn _ _ 58 _ _ _; refine c_X3_refusalUnless_n ?_)
            | (show Rn _ _ 58 _ _ _; refine c_X3_refusalUnless_s (by assumption) (by omega) (by assumption) (by assumption) (fun _ => ?_) (fun _ _ => ?_) (fun _ _ => ?_))
            | (show Rn _ _ 16 _ _ _; refine c_X0_turnInto (by assumption) (by assumption) (by first | omega | exact hI_R) (by first | omega | exact hI_R) (by first | omega | exact hI_R) (fun _ _ _ _ _ _ _ => ?_) (fun _ => ?_))
            | (show Rch _ _ _ _ _ 0 _ _ _; refine Rch.blk' (Rn_mono mt _) bl_X3_whatIs_0 (i_aload_n rfl (i_iload_n rfl (t_cv2 (Rn_mono mt _) 5 rfl (Nat.le_of_ble_eq_true rfl) ?_))))
            | (show Rch _ _ _ _ _ 5 _ _ _; refine Rch.blk' (Rn_mono mt _) bl_X3_whatIs_5 (i_astore4 trivial (i_aload rfl (t_ifnull_n 32 rfl ?_))))
            | (show Rch _ _ _ _ _ 5 _ _ _; refine Rch.blk' (Rn_mono mt _) bl_X3_whatIs_5 (i_astore4 trivial (i_aload rfl (t_ifnull_s 12 rfl ?_))))
            | (show Rch _ _ _ _ _ 12 _ _ _; refine Rch.blk' (Rn_mono mt _) bl_X3_whatIs_12 (i_aload_n rfl (i_gfs rfl (i_iload_n rfl (t_cv2 (Rn_mono mt _) 20 rfl (Nat.le_of_ble_eq_true rfl) ?_)))))
            | (show Rch _ _ _ _ _ 20 _ _ _; refine Rch.blk' (Rn_mono mt _) bl_X3_whatIs_20 (t_if_eq 32 23 rfl rfl (by first | exact hI_R | exact band_R | exact bor_R | exact bshr_R | exact lcm_R | omega) (fun hc => ?_) (fun hc => ?_)) <;> (first | (exfalso; omega) | skip))
            | (show Rch _ _ _ _ _ 23 _ _ _; refine Rch.blk' (Rn_mono mt _) bl_X3_whatIs_23 (i_iload_n rfl (t_if_lt 32 27 rfl rfl (by first | exact hI_R | exact band_R | exact bor_R | exact bshr_R | exact lcm_R | omega) (fun hc => ?_) (fun hc => ?_))) <;> (first | (exfalso; omega) | skip))
            | (show Rch _ _ _ _ _ 27 _ _ _; refine Rch.blk' (Rn_mono mt _) bl_X3_whatIs_27 (i_iload_n rfl (i_iconst k_1 (t_ic_le 34 32 rfl rfl (by first | exact hI_R | exact band_R | exact bor_R | exact bshr_R | exact lcm_R | omega) (by first | exact hI_R | exact band_R | exact bor_R | exact bshr_R | exact lcm_R | omega) (fun hc => ?_) (fun hc => ?_)))) <;> (first | (exfalso; omega) | skip))
            | (show Rch _ _ _ _ _ 32 _ _ _; refine Rch.blk' (Rn_mono mt _) bl_X3_whatIs_32 (i_iconst k_m1 (t_iret ?_)))
            | (show Rch _ _ _ _ _ 34 _ _ _; refine Rch.blk' (Rn_mono mt _) bl_X3_whatIs_34 (i_aload rfl (i_iconst k_2 (t_cs2 (Rn_mono mt _) 40 rfl (Nat.le_of_ble_eq_true rfl) ?_))))
            | (show Rch _ _ _ _ _ 40 _ _ _; refine Rch.blk' (Rn_mono mt _) bl_X3_whatIs_40 (i_istore5 trivial (i_iload rfl (t_if_eq 50 47 rfl rfl (by first | exact hI_R | exact band_R | exact bor_R | exact bshr_R | exact lcm_R | omega) (fun hc => ?_) (fun hc => ?_)))) <;> (first | (exfalso; omega) | skip))
            | (show Rch _ _ _ _ _ 47 _ _ _; refine Rch.blk' (Rn_mono mt _) bl_X3_whatIs_47 (i_iload rfl (t_iret ?_)))
            | (show Rch _ _ _ _ _ 50 _ _ _; refine Rch.blk' (Rn_mono mt _) bl_X3_whatIs_50 (i_iconst k_0 (i_istore6 trivial (i_iconst k_0 (i_istore7 trivial (t_none ?_))))))
            | (show Rch _ _ _ _ _ 62 _ _ _; refine Rch.blk' (Rn_mono mt _) bl_X3_whatIs_62 (i_bipush k_8 (t_goto 69 rfl ?_)))
            | (show Rch _ _ _ _ _ 67 _ _ _; refine Rch.blk' (Rn_mono mt _) bl_X3_whatIs_67 (i_bipush k_10 (t_none ?_)))
            | (show Rch _ _ _ _ _ 69 _ _ _; refine Rch.blk' (Rn_mono mt _) bl_X3_whatIs_69 (t_ic_ge 156 72 rfl rfl (by first | exact hI_R | exact band_R | exact bor_R | exact bshr_R | exact lcm_R | omega) (by first | exact hI_R | exact band_R | exact bor_R | exact bshr_R | exact lcm_R | omega) (fun hc => ?_) (fun hc => ?_)) <;> (first | (exfalso; omega) | skip))
            | (show Rch _ _ _ _ _ 72 _ _ _; refine Rch.blk' (Rn_mono mt _) bl_X3_whatIs_72 (i_aload_n rfl (i_gfs rfl (i_aload_n rfl (i_gfs rfl (t_cv2 (Rn_mono mt _) 83 rfl (Nat.le_of_ble_eq_true rfl) ?_))))))
            | (show Rch _ _ _ _ _ 83 _ _ _; refine Rch.blk' (Rn_mono mt _) bl_X3_whatIs_83 (i_iload_n rfl (t_if_ne 110 87 rfl rfl (by first | exact hI_R | exact band_R | exact bor_R | exact bshr_R | exact lcm_R | omega) (fun hc => ?_) (fun hc => ?_))) <;> (first | (exfalso; omega) | skip))
            | (show Rch _ _ _ _ _ 87 _ _ _; refine Rch.blk' (Rn_mono mt _) bl_X3_whatIs_87 (i_aload_n rfl (i_gfs rfl (i_iload_n rfl (i_iload rfl (i_aload_n rfl (i_gfs rfl (i_gfr rfl (i_iload_n rfl (i_iald (n := 10) rfl (by omega) (by omega) (by omega) (t_cv4 (Rn_mono mt _) 106 rfl (Nat.le_of_ble_eq_true rfl) ?_)))))))))))
            | (show Rch _ _ _ _ _ 106 _ _ _; refine Rch.blk' (Rn_mono mt _) bl_X3_whatIs_106 (i_pop rfl (t_goto 130 rfl ?_)))
            | (show Rch _ _ _ _ _ 110 _ _ _; refine Rch.blk' (Rn_mono mt _) bl_X3_whatIs_110 (i_aload_n rfl (i_gfs rfl (i_iload_n rfl (i_aload_n rfl (i_gfs rfl (i_gfr rfl (i_iload_n rfl (i_iald (n := 10) rfl (by omega) (by omega) (by omega) (i_iload rfl (t_cv4 (Rn_mono mt _) 129 rfl (Nat.le_of_ble_eq_true rfl) ?_)))))))))))
            | (show Rch _ _ _ _ _ 129 _ _ _; refine Rch.blk' (Rn_mono mt _) bl_X3_whatIs_129 (i_pop rfl (t_none ?_)))
            | (show Rch _ _ _ _ _ 130 _ _ _; refine Rch.blk' (Rn_mono mt _) bl_X3_whatIs_130 (i_aload_n rfl (i_iload_n rfl (i_aload rfl (i_iconst k_0 (t_cv4 (Rn_mono mt _) 138 rfl (Nat.le_of_ble_eq_true rfl) ?_))))))
            | (show Rch _ _ _ _ _ 138 _ _ _; refine Rch.blk' (Rn_mono mt _) bl_X3_whatIs_138 (t_if_eq 150 141 rfl rfl (by first | exact hI_R | exact band_R | exact bor_R | exact bshr_R | exact lcm_R | omega) (fun hc => ?_) (fun hc => ?_)) <;> (first | (exfalso; omega) | skip))
            | (show Rch _ _ _ _ _ 141 _ _ _; refine Rch.blk' (Rn_mono mt _) bl_X3_whatIs_141 (i_iload rfl (i_iconst k_1 (i_iload rfl (i_ishl (i_ior (i_istore6 trivial (t_none ?_))))))))
            | (show Rch _ _ _ _ _ 150 _ _ _; refine Rch.blk' (Rn_mono mt _) bl_X3_whatIs_150 (i_iinc7 trivial k_1 (t_goto 56 rfl ?_)))
            | (show Rch _ _ _ _ _ 156 _ _ _; refine Rch.blk' (Rn_mono mt _) bl_X3_whatIs_156 (i_iload rfl (t_iret ?_))))
        · have i0 := ih0 c h3 (hF2.tr hF3)
          clear ih1 ih0
          repeat' (first
            | exact i0
            | (show Rn _ _ 57 _ _ _; refine c_X3_shelfAt (by first | omega | exact hI_R) (fun _ _ => ?_) (fun _ => ?_))
            | (show Rn _ _ 1 _ _ _; refine c_X0_has (by assumption) (by assumption) (by first | omega | exact hI_R) (fun _ _ => ?_) (fun _ => ?_))
            | (show Rn _ _ 58 _ _ _; refine c_X3_refusalUnless_n ?_)
            | (show Rn _ _ 58 _ _ _; refine c_X3_refusalUnless_s (by assumption) (by omega) (by assumption) (by assumption) (fun _ => ?_) (fun _ _ => ?_) (fun _ _ => ?_))
            | (show Rn _ _ 16 _ _ _; refine c_X0_turnInto (by assumption) (by assumption) (by first | omega | exact hI_R) (by first | omega | exact hI_R) (by first | omega | exact hI_R) (fun _ _ _ _ _ _ _ => ?_) (fun _ => ?_))
            | (show Rch _ _ _ _ _ 0 _ _ _; refine Rch.blk' (Rn_mono mt _) bl_X3_whatIs_0 (i_aload_n rfl (i_iload_n rfl (t_cv2 (Rn_mono mt _) 5 rfl (Nat.le_of_ble_eq_true rfl) ?_))))
            | (show Rch _ _ _ _ _ 5 _ _ _; refine Rch.blk' (Rn_mono mt _) bl_X3_whatIs_5 (i_astore4 trivial (i_aload rfl (t_ifnull_n 32 rfl ?_))))
            | (show Rch _ _ _ _ _ 5 _ _ _; refine Rch.blk' (Rn_mono mt _) bl_X3_whatIs_5 (i_astore4 trivial (i_aload rfl (t_ifnull_s 12 rfl ?_))))
            | (show Rch _ _ _ _ _ 12 _ _ _; refine Rch.blk' (Rn_mono mt _) bl_X3_whatIs_12 (i_aload_n rfl (i_gfs rfl (i_iload_n rfl (t_cv2 (Rn_mono mt _) 20 rfl (Nat.le_of_ble_eq_true rfl) ?_)))))
            | (show Rch _ _ _ _ _ 20 _ _ _; refine Rch.blk' (Rn_mono mt _) bl_X3_whatIs_20 (t_if_eq 32 23 rfl rfl (by first | exact hI_R | exact band_R | exact bor_R | exact bshr_R | exact lcm_R | omega) (fun hc => ?_) (fun hc => ?_)) <;> (first | (exfalso; omega) | skip))
            | (show Rch _ _ _ _ _ 23 _ _ _; refine Rch.blk' (Rn_mono mt _) bl_X3_whatIs_23 (i_iload_n rfl (t_if_lt 32 27 rfl rfl (by first | exact hI_R | exact band_R | exact bor_R | exact bshr_R | exact lcm_R | omega) (fun hc => ?_) (fun hc => ?_))) <;> (first | (exfalso; omega) | skip))
            | (show Rch _ _ _ _ _ 27 _ _ _; refine Rch.blk' (Rn_mono mt _) bl_X3_whatIs_27 (i_iload_n rfl (i_iconst k_1 (t_ic_le 34 32 rfl rfl (by first | exact hI_R | exact band_R | exact bor_R | exact bshr_R | exact lcm_R | omega) (by first | exact hI_R | exact band_R | exact bor_R | exact bshr_R | exact lcm_R | omega) (fun hc => ?_) (fun hc => ?_)))) <;> (first | (exfalso; omega) | skip))
            | (show Rch _ _ _ _ _ 32 _ _ _; refine Rch.blk' (Rn_mono mt _) bl_X3_whatIs_32 (i_iconst k_m1 (t_iret ?_)))
            | (show Rch _ _ _ _ _ 34 _ _ _; refine Rch.blk' (Rn_mono mt _) bl_X3_whatIs_34 (i_aload rfl (i_iconst k_2 (t_cs2 (Rn_mono mt _) 40 rfl (Nat.le_of_ble_eq_true rfl) ?_))))
            | (show Rch _ _ _ _ _ 40 _ _ _; refine Rch.blk' (Rn_mono mt _) bl_X3_whatIs_40 (i_istore5 trivial (i_iload rfl (t_if_eq 50 47 rfl rfl (by first | exact hI_R | exact band_R | exact bor_R | exact bshr_R | exact lcm_R | omega) (fun hc => ?_) (fun hc => ?_)))) <;> (first | (exfalso; omega) | skip))
            | (show Rch _ _ _ _ _ 47 _ _ _; refine Rch.blk' (Rn_mono mt _) bl_X3_whatIs_47 (i_iload rfl (t_iret ?_)))
            | (show Rch _ _ _ _ _ 50 _ _ _; refine Rch.blk' (Rn_mono mt _) bl_X3_whatIs_50 (i_iconst k_0 (i_istore6 trivial (i_iconst k_0 (i_istore7 trivial (t_none ?_))))))
            | (show Rch _ _ _ _ _ 62 _ _ _; refine Rch.blk' (Rn_mono mt _) bl_X3_whatIs_62 (i_bipush k_8 (t_goto 69 rfl ?_)))
            | (show Rch _ _ _ _ _ 67 _ _ _; refine Rch.blk' (Rn_mono mt _) bl_X3_whatIs_67 (i_bipush k_10 (t_none ?_)))
            | (show Rch _ _ _ _ _ 69 _ _ _; refine Rch.blk' (Rn_mono mt _) bl_X3_whatIs_69 (t_ic_ge 156 72 rfl rfl (by first | exact hI_R | exact band_R | exact bor_R | exact bshr_R | exact lcm_R | omega) (by first | exact hI_R | exact band_R | exact bor_R | exact bshr_R | exact lcm_R | omega) (fun hc => ?_) (fun hc => ?_)) <;> (first | (exfalso; omega) | skip))
            | (show Rch _ _ _ _ _ 72 _ _ _; refine Rch.blk' (Rn_mono mt _) bl_X3_whatIs_72 (i_aload_n rfl (i_gfs rfl (i_aload_n rfl (i_gfs rfl (t_cv2 (Rn_mono mt _) 83 rfl (Nat.le_of_ble_eq_true rfl) ?_))))))
            | (show Rch _ _ _ _ _ 83 _ _ _; refine Rch.blk' (Rn_mono mt _) bl_X3_whatIs_83 (i_iload_n rfl (t_if_ne 110 87 rfl rfl (by first | exact hI_R | exact band_R | exact bor_R | exact bshr_R | exact lcm_R | omega) (fun hc => ?_) (fun hc => ?_))) <;> (first | (exfalso; omega) | skip))
            | (show Rch _ _ _ _ _ 87 _ _ _; refine Rch.blk' (Rn_mono mt _) bl_X3_whatIs_87 (i_aload_n rfl (i_gfs rfl (i_iload_n rfl (i_iload rfl (i_aload_n rfl (i_gfs rfl (i_gfr rfl (i_iload_n rfl (i_iald (n := 10) rfl (by omega) (by omega) (by omega) (t_cv4 (Rn_mono mt _) 106 rfl (Nat.le_of_ble_eq_true rfl) ?_)))))))))))
            | (show Rch _ _ _ _ _ 106 _ _ _; refine Rch.blk' (Rn_mono mt _) bl_X3_whatIs_106 (i_pop rfl (t_goto 130 rfl ?_)))
            | (show Rch _ _ _ _ _ 110 _ _ _; refine Rch.blk' (Rn_mono mt _) bl_X3_whatIs_110 (i_aload_n rfl (i_gfs rfl (i_iload_n rfl (i_aload_n rfl (i_gfs rfl (i_gfr rfl (i_iload_n rfl (i_iald (n := 10) rfl (by omega) (by omega) (by omega) (i_iload rfl (t_cv4 (Rn_mono mt _) 129 rfl (Nat.le_of_ble_eq_true rfl) ?_)))))))))))
            | (show Rch _ _ _ _ _ 129 _ _ _; refine Rch.blk' (Rn_mono mt _) bl_X3_whatIs_129 (i_pop rfl (t_none ?_)))
            | (show Rch _ _ _ _ _ 130 _ _ _; refine Rch.blk' (Rn_mono mt _) bl_X3_whatIs_130 (i_aload_n rfl (i_iload_n rfl (i_aload rfl (i_iconst k_0 (t_cv4 (Rn_mono mt _) 138 rfl (Nat.le_of_ble_eq_true rfl) ?_))))))
            | (show Rch _ _ _ _ _ 138 _ _ _; refine Rch.blk' (Rn_mono mt _) bl_X3_whatIs_138 (t_if_eq 150 141 rfl rfl (by first | exact hI_R | exact band_R | exact bor_R | exact bshr_R | exact lcm_R | omega) (fun hc => ?_) (fun hc => ?_)) <;> (first | (exfalso; omega) | skip))
            | (show Rch _ _ _ _ _ 141 _ _ _; refine Rch.blk' (Rn_mono mt _) bl_X3_whatIs_141 (i_iload rfl (i_iconst k_1 (i_iload rfl (i_ishl (i_ior (i_istore6 trivial (t_none ?_))))))))
            | (show Rch _ _ _ _ _ 150 _ _ _; refine Rch.blk' (Rn_mono mt _) bl_X3_whatIs_150 (i_iinc7 trivial k_1 (t_goto 56 rfl ?_)))
            | (show Rch _ _ _ _ _ 156 _ _ _; refine Rch.blk' (Rn_mono mt _) bl_X3_whatIs_156 (i_iload rfl (t_iret ?_))))
      clear ih1 ih0
      have h72 : Rch bX3_whatIs (Rn mt (d + 19)) 0 (fun _ _ _ _ => False) Q 72 [some (ar 2 0), some (ai (I x)), some (ai (I p)), some (ai (I w)), some (ar 1 x.toNat), some (ai (I 0)), some (ai (I (BT (fun i => i < k ∧ wiC G S x p w i)))), some (ai (I k))] [] h' := by
        refine Rch.blk' (Rn_mono mt _) bl_X3_whatIs_72 (i_aload_n rfl (i_gfs rfl (i_aload_n rfl (i_gfs rfl (t_cv2 (Rn_mono mt _) 83 rfl (Nat.le_of_ble_eq_true rfl) ?_)))))
        refine c_X0_becomes hR hO (by decide) (fun h2 hG2 hF2 => ?_)
        have hR2 := hR.fr hF2 (by decide)
        have e_f := hR2.f p0 p1
        have e_k := hR2.k p0 p1
        have g_p := hO.pc p p0 p1
        by_cases c : w = 0
        · have eV : wiV G p w k = stk G p k (fg G p) := if_pos c
          refine Rch.blk' (Rn_mono mt _) bl_X3_whatIs_83 (i_iload_n rfl (t_if_ne 110 87 rfl rfl (by first | exact hI_R | exact band_R | exact bor_R | exact bshr_R | exact lcm_R | omega) (fun hc => ?_) (fun hc => ?_))) <;> (first | (exfalso; omega) | skip)
          refine Rch.blk' (Rn_mono mt _) bl_X3_whatIs_87 (i_aload_n rfl (i_gfs rfl (i_iload_n rfl (i_iload rfl (i_aload_n rfl (i_gfs rfl (i_gfr rfl (i_iload_n rfl (i_iald (n := 10) rfl (by first | omega | (simp (disch := omega) only [e_f]; omega)) (by first | omega | (simp (disch := omega) only [e_f]; omega)) (by first | omega | (simp (disch := omega) only [e_f]; omega)) (t_cv4 (Rn_mono mt _) 106 rfl (Nat.le_of_ble_eq_true rfl) ?_)))))))))) <;> (try (simp (disch := omega) only [e_f]))
          refine c_X0_turnInto hG2 hO ⟨by omega, by omega⟩ ⟨by omega, by omega⟩ ⟨by omega, by omega⟩ (fun _ _ _ _ h3 hG3 hF3 => ?_) (fun z => absurd ⟨⟨p0, p1⟩, ⟨hk0, by omega⟩, g_p.2.1⟩ z)
          refine Rch.blk' (Rn_mono mt _) bl_X3_whatIs_106 (i_pop rfl (t_goto 130 rfl ?_))
          exact hmid h3 (by rw [eV]; exact hG3) ((hF.tr hF2).tr hF3)
        · have eV : wiV G p w k = stk G p (kd G p) k := if_neg c
          refine Rch.blk' (Rn_mono mt _) bl_X3_whatIs_83 (i_iload_n rfl (t_if_ne 110 87 rfl rfl (by first | exact hI_R | exact band_R | exact bor_R | exact bshr_R | exact lcm_R | omega) (fun hc => ?_) (fun hc => ?_))) <;> (first | (exfalso; omega) | skip)
          refine Rch.blk' (Rn_mono mt _) bl_X3_whatIs_110 (i_aload_n rfl (i_gfs rfl (i_iload_n rfl (i_aload_n rfl (i_gfs rfl (i_gfr rfl (i_iload_n rfl (i_iald (n := 10) rfl (by first | omega | (simp (disch := omega) only [e_k]; omega)) (by first | omega | (simp (disch := omega) only [e_k]; omega)) (by first | omega | (simp (disch := omega) only [e_k]; omega)) (i_iload rfl (t_cv4 (Rn_mono mt _) 129 rfl (Nat.le_of_ble_eq_true rfl) ?_)))))))))) <;> (try (simp (disch := omega) only [e_k]))
          refine c_X0_turnInto hG2 hO ⟨by omega, by omega⟩ ⟨by omega, by omega⟩ ⟨by omega, by omega⟩ (fun _ _ _ _ h3 hG3 hF3 => ?_) (fun z => absurd ⟨⟨p0, p1⟩, g_p.1, ⟨hk0, by omega⟩⟩ z)
          refine Rch.blk' (Rn_mono mt _) bl_X3_whatIs_129 (i_pop rfl (t_none ?_))
          exact hmid h3 (by rw [eV]; exact hG3) ((hF.tr hF2).tr hF3)
      clear hmid
      repeat' (first
        | exact h72
        | (show Rn _ _ 57 _ _ _; refine c_X3_shelfAt (by first | omega | exact hI_R) (fun _ _ => ?_) (fun _ => ?_))
        | (show Rn _ _ 1 _ _ _; refine c_X0_has (by assumption) (by assumption) (by first | omega | exact hI_R) (fun _ _ => ?_) (fun _ => ?_))
        | (show Rn _ _ 58 _ _ _; refine c_X3_refusalUnless_n ?_)
        | (show Rn _ _ 58 _ _ _; refine c_X3_refusalUnless_s (by assumption) (by omega) (by assumption) (by assumption) (fun _ => ?_) (fun _ _ => ?_) (fun _ _ => ?_))
        | (show Rn _ _ 16 _ _ _; refine c_X0_turnInto (by assumption) (by assumption) (by first | omega | exact hI_R) (by first | omega | exact hI_R) (by first | omega | exact hI_R) (fun _ _ _ _ _ _ _ => ?_) (fun _ => ?_))
        | (show Rch _ _ _ _ _ 0 _ _ _; refine Rch.blk' (Rn_mono mt _) bl_X3_whatIs_0 (i_aload_n rfl (i_iload_n rfl (t_cv2 (Rn_mono mt _) 5 rfl (Nat.le_of_ble_eq_true rfl) ?_))))
        | (show Rch _ _ _ _ _ 5 _ _ _; refine Rch.blk' (Rn_mono mt _) bl_X3_whatIs_5 (i_astore4 trivial (i_aload rfl (t_ifnull_n 32 rfl ?_))))
        | (show Rch _ _ _ _ _ 5 _ _ _; refine Rch.blk' (Rn_mono mt _) bl_X3_whatIs_5 (i_astore4 trivial (i_aload rfl (t_ifnull_s 12 rfl ?_))))
        | (show Rch _ _ _ _ _ 12 _ _ _; refine Rch.blk' (Rn_mono mt _) bl_X3_whatIs_12 (i_aload_n rfl (i_gfs rfl (i_iload_n rfl (t_cv2 (Rn_mono mt _) 20 rfl (Nat.le_of_ble_eq_true rfl) ?_)))))
        | (show Rch _ _ _ _ _ 20 _ _ _; refine Rch.blk' (Rn_mono mt _) bl_X3_whatIs_20 (t_if_eq 32 23 rfl rfl (by first | exact hI_R | exact band_R | exact bor_R | exact bshr_R | exact lcm_R | omega) (fun hc => ?_) (fun hc => ?_)) <;> (first | (exfalso; omega) | skip))
        | (show Rch _ _ _ _ _ 23 _ _ _; refine Rch.blk' (Rn_mono mt _) bl_X3_whatIs_23 (i_iload_n rfl (t_if_lt 32 27 rfl rfl (by first | exact hI_R | exact band_R | exact bor_R | exact bshr_R | exact lcm_R | omega) (fun hc => ?_) (fun hc => ?_))) <;> (first | (exfalso; omega) | skip))
        | (show Rch _ _ _ _ _ 27 _ _ _; refine Rch.blk' (Rn_mono mt _) bl_X3_whatIs_27 (i_iload_n rfl (i_iconst k_1 (t_ic_le 34 32 rfl rfl (by first | exact hI_R | exact band_R | exact bor_R | exact bshr_R | exact lcm_R | omega) (by first | exact hI_R | exact band_R | exact bor_R | exact bshr_R | exact lcm_R | omega) (fun hc => ?_) (fun hc => ?_)))) <;> (first | (exfalso; omega) | skip))
        | (show Rch _ _ _ _ _ 32 _ _ _; refine Rch.blk' (Rn_mono mt _) bl_X3_whatIs_32 (i_iconst k_m1 (t_iret ?_)))
        | (show Rch _ _ _ _ _ 34 _ _ _; refine Rch.blk' (Rn_mono mt _) bl_X3_whatIs_34 (i_aload rfl (i_iconst k_2 (t_cs2 (Rn_mono mt _) 40 rfl (Nat.le_of_ble_eq_true rfl) ?_))))
        | (show Rch _ _ _ _ _ 40 _ _ _; refine Rch.blk' (Rn_mono mt _) bl_X3_whatIs_40 (i_istore5 trivial (i_iload rfl (t_if_eq 50 47 rfl rfl (by first | exact hI_R | exact band_R | exact bor_R | exact bshr_R | exact lcm_R | omega) (fun hc => ?_) (fun hc => ?_)))) <;> (first | (exfalso; omega) | skip))
        | (show Rch _ _ _ _ _ 47 _ _ _; refine Rch.blk' (Rn_mono mt _) bl_X3_whatIs_47 (i_iload rfl (t_iret ?_)))
        | (show Rch _ _ _ _ _ 50 _ _ _; refine Rch.blk' (Rn_mono mt _) bl_X3_whatIs_50 (i_iconst k_0 (i_istore6 trivial (i_iconst k_0 (i_istore7 trivial (t_none ?_))))))
        | (show Rch _ _ _ _ _ 56 _ _ _; refine Rch.blk' (Rn_mono mt _) bl_X3_whatIs_56 (i_iload rfl (i_iload_n rfl (t_if_ne 67 62 rfl rfl (by first | exact hI_R | exact band_R | exact bor_R | exact bshr_R | exact lcm_R | omega) (fun hc => ?_) (fun hc => ?_)))) <;> (first | (exfalso; omega) | skip))
        | (show Rch _ _ _ _ _ 62 _ _ _; refine Rch.blk' (Rn_mono mt _) bl_X3_whatIs_62 (i_bipush k_8 (t_goto 69 rfl ?_)))
        | (show Rch _ _ _ _ _ 67 _ _ _; refine Rch.blk' (Rn_mono mt _) bl_X3_whatIs_67 (i_bipush k_10 (t_none ?_)))
        | (show Rch _ _ _ _ _ 69 _ _ _; refine Rch.blk' (Rn_mono mt _) bl_X3_whatIs_69 (t_ic_ge 156 72 rfl rfl (by first | exact hI_R | exact band_R | exact bor_R | exact bshr_R | exact lcm_R | omega) (by first | exact hI_R | exact band_R | exact bor_R | exact bshr_R | exact lcm_R | omega) (fun hc => ?_) (fun hc => ?_)) <;> (first | (exfalso; omega) | skip))
        | (show Rch _ _ _ _ _ 83 _ _ _; refine Rch.blk' (Rn_mono mt _) bl_X3_whatIs_83 (i_iload_n rfl (t_if_ne 110 87 rfl rfl (by first | exact hI_R | exact band_R | exact bor_R | exact bshr_R | exact lcm_R | omega) (fun hc => ?_) (fun hc => ?_))) <;> (first | (exfalso; omega) | skip))
        | (show Rch _ _ _ _ _ 87 _ _ _; refine Rch.blk' (Rn_mono mt _) bl_X3_whatIs_87 (i_aload_n rfl (i_gfs rfl (i_iload_n rfl (i_iload rfl (i_aload_n rfl (i_gfs rfl (i_gfr rfl (i_iload_n rfl (i_iald (n := 10) rfl (by omega) (by omega) (by omega) (t_cv4 (Rn_mono mt _) 106 rfl (Nat.le_of_ble_eq_true rfl) ?_)))))))))))
        | (show Rch _ _ _ _ _ 106 _ _ _; refine Rch.blk' (Rn_mono mt _) bl_X3_whatIs_106 (i_pop rfl (t_goto 130 rfl ?_)))
        | (show Rch _ _ _ _ _ 110 _ _ _; refine Rch.blk' (Rn_mono mt _) bl_X3_whatIs_110 (i_aload_n rfl (i_gfs rfl (i_iload_n rfl (i_aload_n rfl (i_gfs rfl (i_gfr rfl (i_iload_n rfl (i_iald (n := 10) rfl (by omega) (by omega) (by omega) (i_iload rfl (t_cv4 (Rn_mono mt _) 129 rfl (Nat.le_of_ble_eq_true rfl) ?_)))))))))))
        | (show Rch _ _ _ _ _ 129 _ _ _; refine Rch.blk' (Rn_mono mt _) bl_X3_whatIs_129 (i_pop rfl (t_none ?_)))
        | (show Rch _ _ _ _ _ 130 _ _ _; refine Rch.blk' (Rn_mono mt _) bl_X3_whatIs_130 (i_aload_n rfl (i_iload_n rfl (i_aload rfl (i_iconst k_0 (t_cv4 (Rn_mono mt _) 138 rfl (Nat.le_of_ble_eq_true rfl) ?_))))))
        | (show Rch _ _ _ _ _ 138 _ _ _; refine Rch.blk' (Rn_mono mt _) bl_X3_whatIs_138 (t_if_eq 150 141 rfl rfl (by first | exact hI_R | exact band_R | exact bor_R | exact bshr_R | exact lcm_R | omega) (fun hc => ?_) (fun hc => ?_)) <;> (first | (exfalso; omega) | skip))
        | (show Rch _ _ _ _ _ 141 _ _ _; refine Rch.blk' (Rn_mono mt _) bl_X3_whatIs_141 (i_iload rfl (i_iconst k_1 (i_iload rfl (i_ishl (i_ior (i_istore6 trivial (t_none ?_))))))))
        | (show Rch _ _ _ _ _ 150 _ _ _; refine Rch.blk' (Rn_mono mt _) bl_X3_whatIs_150 (i_iinc7 trivial k_1 (t_goto 56 rfl ?_)))
        | (show Rch _ _ _ _ _ 156 _ _ _; refine Rch.blk' (Rn_mono mt _) bl_X3_whatIs_156 (i_iload rfl (t_iret ?_))))
    · obtain rfl : k = wiM w := by omega
      have kk : Q (some (ai (I (BT (fun i => i < wiM w ∧ wiC G S x p w i))))) h' := hq _ _ (by unfold vWhatIs; rw [if_pos ⟨⟨p0, p1⟩, hw2⟩, if_pos r0]) (hF.jx (by omega))
      clear ih hq k1 k2
      repeat' (first
        | exact kk
        | (show Rn _ _ 57 _ _ _; refine c_X3_shelfAt (by first | omega | exact hI_R) (fun _ _ => ?_) (fun _ => ?_))
        | (show Rn _ _ 1 _ _ _; refine c_X0_has (by assumption) (by assumption) (by first | omega | exact hI_R) (fun _ _ => ?_) (fun _ => ?_))
        | (show Rn _ _ 58 _ _ _; refine c_X3_refusalUnless_n ?_)
        | (show Rn _ _ 58 _ _ _; refine c_X3_refusalUnless_s (by assumption) (by omega) (by assumption) (by assumption) (fun _ => ?_) (fun _ _ => ?_) (fun _ _ => ?_))
        | (show Rn _ _ 16 _ _ _; refine c_X0_turnInto (by assumption) (by assumption) (by first | omega | exact hI_R) (by first | omega | exact hI_R) (by first | omega | exact hI_R) (fun _ _ _ _ _ _ _ => ?_) (fun _ => ?_))
        | (show Rch _ _ _ _ _ 0 _ _ _; refine Rch.blk' (Rn_mono mt _) bl_X3_whatIs_0 (i_aload_n rfl (i_iload_n rfl (t_cv2 (Rn_mono mt _) 5 rfl (Nat.le_of_ble_eq_true rfl) ?_))))
        | (show Rch _ _ _ _ _ 5 _ _ _; refine Rch.blk' (Rn_mono mt _) bl_X3_whatIs_5 (i_astore4 trivial (i_aload rfl (t_ifnull_n 32 rfl ?_))))
        | (show Rch _ _ _ _ _ 5 _ _ _; refine Rch.blk' (Rn_mono mt _) bl_X3_whatIs_5 (i_astore4 trivial (i_aload rfl (t_ifnull_s 12 rfl ?_))))
        | (show Rch _ _ _ _ _ 12 _ _ _; refine Rch.blk' (Rn_mono mt _) bl_X3_whatIs_12 (i_aload_n rfl (i_gfs rfl (i_iload_n rfl (t_cv2 (Rn_mono mt _) 20 rfl (Nat.le_of_ble_eq_true rfl) ?_)))))
        | (show Rch _ _ _ _ _ 20 _ _ _; refine Rch.blk' (Rn_mono mt _) bl_X3_whatIs_20 (t_if_eq 32 23 rfl rfl (by first | exact hI_R | exact band_R | exact bor_R | exact bshr_R | exact lcm_R | omega) (fun hc => ?_) (fun hc => ?_)) <;> (first | (exfalso; omega) | skip))
        | (show Rch _ _ _ _ _ 23 _ _ _; refine Rch.blk' (Rn_mono mt _) bl_X3_whatIs_23 (i_iload_n rfl (t_if_lt 32 27 rfl rfl (by first | exact hI_R | exact band_R | exact bor_R | exact bshr_R | exact lcm_R | omega) (fun hc => ?_) (fun hc => ?_))) <;> (first | (exfalso; omega) | skip))
        | (show Rch _ _ _ _ _ 27 _ _ _; refine Rch.blk' (Rn_mono mt _) bl_X3_whatIs_27 (i_iload_n rfl (i_iconst k_1 (t_ic_le 34 32 rfl rfl (by first | exact hI_R | exact band_R | exact bor_R | exact bshr_R | exact lcm_R | omega) (by first | exact hI_R | exact band_R | exact bor_R | exact bshr_R | exact lcm_R | omega) (fun hc => ?_) (fun hc => ?_)))) <;> (first | (exfalso; omega) | skip))
        | (show Rch _ _ _ _ _ 32 _ _ _; refine Rch.blk' (Rn_mono mt _) bl_X3_whatIs_32 (i_iconst k_m1 (t_iret ?_)))
        | (show Rch _ _ _ _ _ 34 _ _ _; refine Rch.blk' (Rn_mono mt _) bl_X3_whatIs_34 (i_aload rfl (i_iconst k_2 (t_cs2 (Rn_mono mt _) 40 rfl (Nat.le_of_ble_eq_true rfl) ?_))))
        | (show Rch _ _ _ _ _ 40 _ _ _; refine Rch.blk' (Rn_mono mt _) bl_X3_whatIs_40 (i_istore5 trivial (i_iload rfl (t_if_eq 50 47 rfl rfl (by first | exact hI_R | exact band_R | exact bor_R | exact bshr_R | exact lcm_R | omega) (fun hc => ?_) (fun hc => ?_)))) <;> (first | (exfalso; omega) | skip))
        | (show Rch _ _ _ _ _ 47 _ _ _; refine Rch.blk' (Rn_mono mt _) bl_X3_whatIs_47 (i_iload rfl (t_iret ?_)))
        | (show Rch _ _ _ _ _ 50 _ _ _; refine Rch.blk' (Rn_mono mt _) bl_X3_whatIs_50 (i_iconst k_0 (i_istore6 trivial (i_iconst k_0 (i_istore7 trivial (t_none ?_))))))
        | (show Rch _ _ _ _ _ 56 _ _ _; refine Rch.blk' (Rn_mono mt _) bl_X3_whatIs_56 (i_iload rfl (i_iload_n rfl (t_if_ne 67 62 rfl rfl (by first | exact hI_R | exact band_R | exact bor_R | exact bshr_R | exact lcm_R | omega) (fun hc => ?_) (fun hc => ?_)))) <;> (first | (exfalso; omega) | skip))
        | (show Rch _ _ _ _ _ 62 _ _ _; refine Rch.blk' (Rn_mono mt _) bl_X3_whatIs_62 (i_bipush k_8 (t_goto 69 rfl ?_)))
        | (show Rch _ _ _ _ _ 67 _ _ _; refine Rch.blk' (Rn_mono mt _) bl_X3_whatIs_67 (i_bipush k_10 (t_none ?_)))
        | (show Rch _ _ _ _ _ 69 _ _ _; refine Rch.blk' (Rn_mono mt _) bl_X3_whatIs_69 (t_ic_ge 156 72 rfl rfl (by first | exact hI_R | exact band_R | exact bor_R | exact bshr_R | exact lcm_R | omega) (by first | exact hI_R | exact band_R | exact bor_R | exact bshr_R | exact lcm_R | omega) (fun hc => ?_) (fun hc => ?_)) <;> (first | (exfalso; omega) | skip))
        | (show Rch _ _ _ _ _ 83 _ _ _; refine Rch.blk' (Rn_mono mt _) bl_X3_whatIs_83 (i_iload_n rfl (t_if_ne 110 87 rfl rfl (by first | exact hI_R | exact band_R | exact bor_R | exact bshr_R | exact lcm_R | omega) (fun hc => ?_) (fun hc => ?_))) <;> (first | (exfalso; omega) | skip))
        | (show Rch _ _ _ _ _ 87 _ _ _; refine Rch.blk' (Rn_mono mt _) bl_X3_whatIs_87 (i_aload_n rfl (i_gfs rfl (i_iload_n rfl (i_iload rfl (i_aload_n rfl (i_gfs rfl (i_gfr rfl (i_iload_n rfl (i_iald (n := 10) rfl (by omega) (by omega) (by omega) (t_cv4 (Rn_mono mt _) 106 rfl (Nat.le_of_ble_eq_true rfl) ?_)))))))))))
        | (show Rch _ _ _ _ _ 106 _ _ _; refine Rch.blk' (Rn_mono mt _) bl_X3_whatIs_106 (i_pop rfl (t_goto 130 rfl ?_)))
        | (show Rch _ _ _ _ _ 110 _ _ _; refine Rch.blk' (Rn_mono mt _) bl_X3_whatIs_110 (i_aload_n rfl (i_gfs rfl (i_iload_n rfl (i_aload_n rfl (i_gfs rfl (i_gfr rfl (i_iload_n rfl (i_iald (n := 10) rfl (by omega) (by omega) (by omega) (i_iload rfl (t_cv4 (Rn_mono mt _) 129 rfl (Nat.le_of_ble_eq_true rfl) ?_)))))))))))
        | (show Rch _ _ _ _ _ 129 _ _ _; refine Rch.blk' (Rn_mono mt _) bl_X3_whatIs_129 (i_pop rfl (t_none ?_)))
        | (show Rch _ _ _ _ _ 130 _ _ _; refine Rch.blk' (Rn_mono mt _) bl_X3_whatIs_130 (i_aload_n rfl (i_iload_n rfl (i_aload rfl (i_iconst k_0 (t_cv4 (Rn_mono mt _) 138 rfl (Nat.le_of_ble_eq_true rfl) ?_))))))
        | (show Rch _ _ _ _ _ 138 _ _ _; refine Rch.blk' (Rn_mono mt _) bl_X3_whatIs_138 (t_if_eq 150 141 rfl rfl (by first | exact hI_R | exact band_R | exact bor_R | exact bshr_R | exact lcm_R | omega) (fun hc => ?_) (fun hc => ?_)) <;> (first | (exfalso; omega) | skip))
        | (show Rch _ _ _ _ _ 141 _ _ _; refine Rch.blk' (Rn_mono mt _) bl_X3_whatIs_141 (i_iload rfl (i_iconst k_1 (i_iload rfl (i_ishl (i_ior (i_istore6 trivial (t_none ?_))))))))
        | (show Rch _ _ _ _ _ 150 _ _ _; refine Rch.blk' (Rn_mono mt _) bl_X3_whatIs_150 (i_iinc7 trivial k_1 (t_goto 56 rfl ?_)))
        | (show Rch _ _ _ _ _ 156 _ _ _; refine Rch.blk' (Rn_mono mt _) bl_X3_whatIs_156 (i_iload rfl (t_iret ?_))))
  have ky : 0 ≤ x → x < 8 → ho S x = 2 → (0 ≤ p ∧ p < nn G) → (0 ≤ w ∧ w ≤ 1) → RH bX3_whatIs (d + 19) Q 56 [some (ar 2 0), some (ai (I x)), some (ai (I p)), some (ai (I w)), some (ar 1 x.toNat), some (ai (I 0)), some (ai (I 0)), some (ai (I 0))] h := fun a1 a2 a3 a4 a5 => by
    have := key a1 a2 a3 a4 a5 0 (by unfold wiM; omega) (by omega) h FrC.rf
    rw [BT_0 (C := wiC G S x p w)] at this
    exact this
  clear key hq
  repeat' (first
    | exact ky (by omega) (by omega) (by omega) (by omega) (by omega)
    | ((with_reducible refine k1 _ ?_ ?_) <;> omega)
    | ((with_reducible refine k2 _ ?_ ?_ ?_) <;> (first | omega | (unfold rfu; omega)))
    | (show Rn _ _ 57 _ _ _; refine c_X3_shelfAt (by first | omega | exact hI_R) (fun _ _ => ?_) (fun _ => ?_))
    | (show Rn _ _ 1 _ _ _; refine c_X0_has (by assumption) (by assumption) (by first | omega | exact hI_R) (fun _ _ => ?_) (fun _ => ?_))
    | (show Rn _ _ 58 _ _ _; refine c_X3_refusalUnless_n ?_)
    | (show Rn _ _ 58 _ _ _; refine c_X3_refusalUnless_s (by assumption) (by omega) (by assumption) (by assumption) (fun _ => ?_) (fun _ _ => ?_) (fun _ _ => ?_))
    | (show Rn _ _ 16 _ _ _; refine c_X0_turnInto (by assumption) (by assumption) (by first | omega | exact hI_R) (by first | omega | exact hI_R) (by first | omega | exact hI_R) (fun _ _ _ _ _ _ _ => ?_) (fun _ => ?_))
    | (show Rch _ _ _ _ _ 0 _ _ _; refine Rch.blk' (Rn_mono mt _) bl_X3_whatIs_0 (i_aload_n rfl (i_iload_n rfl (t_cv2 (Rn_mono mt _) 5 rfl (Nat.le_of_ble_eq_true rfl) ?_))))
    | (show Rch _ _ _ _ _ 5 _ _ _; refine Rch.blk' (Rn_mono mt _) bl_X3_whatIs_5 (i_astore4 trivial (i_aload rfl (t_ifnull_n 32 rfl ?_))))
    | (show Rch _ _ _ _ _ 5 _ _ _; refine Rch.blk' (Rn_mono mt _) bl_X3_whatIs_5 (i_astore4 trivial (i_aload rfl (t_ifnull_s 12 rfl ?_))))
    | (show Rch _ _ _ _ _ 12 _ _ _; refine Rch.blk' (Rn_mono mt _) bl_X3_whatIs_12 (i_aload_n rfl (i_gfs rfl (i_iload_n rfl (t_cv2 (Rn_mono mt _) 20 rfl (Nat.le_of_ble_eq_true rfl) ?_)))))
    | (show Rch _ _ _ _ _ 20 _ _ _; refine Rch.blk' (Rn_mono mt _) bl_X3_whatIs_20 (t_if_eq 32 23 rfl rfl (by first | exact hI_R | exact band_R | exact bor_R | exact bshr_R | exact lcm_R | omega) (fun hc => ?_) (fun hc => ?_)) <;> (first | (exfalso; omega) | skip))
    | (show Rch _ _ _ _ _ 23 _ _ _; refine Rch.blk' (Rn_mono mt _) bl_X3_whatIs_23 (i_iload_n rfl (t_if_lt 32 27 rfl rfl (by first | exact hI_R | exact band_R | exact bor_R | exact bshr_R | exact lcm_R | omega) (fun hc => ?_) (fun hc => ?_))) <;> (first | (exfalso; omega) | skip))
    | (show Rch _ _ _ _ _ 27 _ _ _; refine Rch.blk' (Rn_mono mt _) bl_X3_whatIs_27 (i_iload_n rfl (i_iconst k_1 (t_ic_le 34 32 rfl rfl (by first | exact hI_R | exact band_R | exact bor_R | exact bshr_R | exact lcm_R | omega) (by first | exact hI_R | exact band_R | exact bor_R | exact bshr_R | exact lcm_R | omega) (fun hc => ?_) (fun hc => ?_)))) <;> (first | (exfalso; omega) | skip))
    | (show Rch _ _ _ _ _ 32 _ _ _; refine Rch.blk' (Rn_mono mt _) bl_X3_whatIs_32 (i_iconst k_m1 (t_iret ?_)))
    | (show Rch _ _ _ _ _ 34 _ _ _; refine Rch.blk' (Rn_mono mt _) bl_X3_whatIs_34 (i_aload rfl (i_iconst k_2 (t_cs2 (Rn_mono mt _) 40 rfl (Nat.le_of_ble_eq_true rfl) ?_))))
    | (show Rch _ _ _ _ _ 40 _ _ _; refine Rch.blk' (Rn_mono mt _) bl_X3_whatIs_40 (i_istore5 trivial (i_iload rfl (t_if_eq 50 47 rfl rfl (by first | exact hI_R | exact band_R | exact bor_R | exact bshr_R | exact lcm_R | omega) (fun hc => ?_) (fun hc => ?_)))) <;> (first | (exfalso; omega) | skip))
    | (show Rch _ _ _ _ _ 47 _ _ _; refine Rch.blk' (Rn_mono mt _) bl_X3_whatIs_47 (i_iload rfl (t_iret ?_)))
    | (show Rch _ _ _ _ _ 50 _ _ _; refine Rch.blk' (Rn_mono mt _) bl_X3_whatIs_50 (i_iconst k_0 (i_istore6 trivial (i_iconst k_0 (i_istore7 trivial (t_none ?_))))))
    | (show Rch _ _ _ _ _ 62 _ _ _; refine Rch.blk' (Rn_mono mt _) bl_X3_whatIs_62 (i_bipush k_8 (t_goto 69 rfl ?_)))
    | (show Rch _ _ _ _ _ 67 _ _ _; refine Rch.blk' (Rn_mono mt _) bl_X3_whatIs_67 (i_bipush k_10 (t_none ?_)))
    | (show Rch _ _ _ _ _ 69 _ _ _; refine Rch.blk' (Rn_mono mt _) bl_X3_whatIs_69 (t_ic_ge 156 72 rfl rfl (by first | exact hI_R | exact band_R | exact bor_R | exact bshr_R | exact lcm_R | omega) (by first | exact hI_R | exact band_R | exact bor_R | exact bshr_R | exact lcm_R | omega) (fun hc => ?_) (fun hc => ?_)) <;> (first | (exfalso; omega) | skip))
    | (show Rch _ _ _ _ _ 72 _ _ _; refine Rch.blk' (Rn_mono mt _) bl_X3_whatIs_72 (i_aload_n rfl (i_gfs rfl (i_aload_n rfl (i_gfs rfl (t_cv2 (Rn_mono mt _) 83 rfl (Nat.le_of_ble_eq_true rfl) ?_))))))
    | (show Rch _ _ _ _ _ 83 _ _ _; refine Rch.blk' (Rn_mono mt _) bl_X3_whatIs_83 (i_iload_n rfl (t_if_ne 110 87 rfl rfl (by first | exact hI_R | exact band_R | exact bor_R | exact bshr_R | exact lcm_R | omega) (fun hc => ?_) (fun hc => ?_))) <;> (first | (exfalso; omega) | skip))
    | (show Rch _ _ _ _ _ 87 _ _ _; refine Rch.blk' (Rn_mono mt _) bl_X3_whatIs_87 (i_aload_n rfl (i_gfs rfl (i_iload_n rfl (i_iload rfl (i_aload_n rfl (i_gfs rfl (i_gfr rfl (i_iload_n rfl (i_iald (n := 10) rfl (by omega) (by omega) (by omega) (t_cv4 (Rn_mono mt _) 106 rfl (Nat.le_of_ble_eq_true rfl) ?_)))))))))))
    | (show Rch _ _ _ _ _ 106 _ _ _; refine Rch.blk' (Rn_mono mt _) bl_X3_whatIs_106 (i_pop rfl (t_goto 130 rfl ?_)))
    | (show Rch _ _ _ _ _ 110 _ _ _; refine Rch.blk' (Rn_mono mt _) bl_X3_whatIs_110 (i_aload_n rfl (i_gfs rfl (i_iload_n rfl (i_aload_n rfl (i_gfs rfl (i_gfr rfl (i_iload_n rfl (i_iald (n := 10) rfl (by omega) (by omega) (by omega) (i_iload rfl (t_cv4 (Rn_mono mt _) 129 rfl (Nat.le_of_ble_eq_true rfl) ?_)))))))))))
    | (show Rch _ _ _ _ _ 129 _ _ _; refine Rch.blk' (Rn_mono mt _) bl_X3_whatIs_129 (i_pop rfl (t_none ?_)))
    | (show Rch _ _ _ _ _ 130 _ _ _; refine Rch.blk' (Rn_mono mt _) bl_X3_whatIs_130 (i_aload_n rfl (i_iload_n rfl (i_aload rfl (i_iconst k_0 (t_cv4 (Rn_mono mt _) 138 rfl (Nat.le_of_ble_eq_true rfl) ?_))))))
    | (show Rch _ _ _ _ _ 138 _ _ _; refine Rch.blk' (Rn_mono mt _) bl_X3_whatIs_138 (t_if_eq 150 141 rfl rfl (by first | exact hI_R | exact band_R | exact bor_R | exact bshr_R | exact lcm_R | omega) (fun hc => ?_) (fun hc => ?_)) <;> (first | (exfalso; omega) | skip))
    | (show Rch _ _ _ _ _ 141 _ _ _; refine Rch.blk' (Rn_mono mt _) bl_X3_whatIs_141 (i_iload rfl (i_iconst k_1 (i_iload rfl (i_ishl (i_ior (i_istore6 trivial (t_none ?_))))))))
    | (show Rch _ _ _ _ _ 150 _ _ _; refine Rch.blk' (Rn_mono mt _) bl_X3_whatIs_150 (i_iinc7 trivial k_1 (t_goto 56 rfl ?_)))
    | (show Rch _ _ _ _ _ 156 _ _ _; refine Rch.blk' (Rn_mono mt _) bl_X3_whatIs_156 (i_iload rfl (t_iret ?_))))
theorem c_X4_toldSq (hG : RR h b G M ra) (hO : OKB G) {z : Int} (z0 : 0 ≤ z) (z1 : z < nn G) (hq : Q (some (ai (I (sq G z)))) h) : Rn mt (d + 3) 181 [ar 12 b, ai (I z)] h Q := by
  refine Rn.intro iX4_toldSquare rfl rfl ?_
  show Rch bX4_toldSquare _ _ _ _ 0 [some (ar 12 b), some (ai (I z))] [] _
  have e_q := @RR.q _ _ _ _ _ hG
  have g_n := hO.n
  have g_4 := @m4_p
  have kk : ∀ v, v = sq G z → Q (some (ai (I v))) h := fun v e => by rw [e]; exact hq
  repeat' (first
    | exact kk _ (by omega)
    | (show Rn _ _ 114 _ _ _; refine c_X4_isHere (by assumption) (by assumption) (by omega) (by omega) (fun _ _ => ?_) (fun _ => ?_))
    | (show Rn _ _ 109 _ _ _; refine c_X4_of ?_)
    | (show Rch _ _ _ _ _ 0 _ _ _; refine Rch.blk' (Rn_mono mt _) bl_X4_toldSquare_0 (i_aload_n rfl (i_iload_n rfl (t_cs2 (Rn_mono mt _) 5 rfl (Nat.le_of_ble_eq_true rfl) ?_))))
    | (show Rch _ _ _ _ _ 5 _ _ _; refine Rch.blk' (Rn_mono mt _) bl_X4_toldSquare_5 (t_if_eq 18 8 rfl rfl (by first | exact hI_R | exact band_R | exact bor_R | exact bshr_R | exact lcm_R | omega | (simp (disch := omega) only [e_q, g_4]; omega)) (fun hc => ?_) (fun hc => ?_)) <;> (first | (exfalso; omega) | skip))
    | (show Rch _ _ _ _ _ 8 _ _ _; refine Rch.blk' (Rn_mono mt _) bl_X4_toldSquare_8 (i_aload_n rfl (i_iload_n rfl (i_iconst k_3 (t_cs2 (Rn_mono mt _) 14 rfl (Nat.le_of_ble_eq_true rfl) ?_)))))
    | (show Rch _ _ _ _ _ 14 _ _ _; refine Rch.blk' (Rn_mono mt _) bl_X4_toldSquare_14 (i_iald rfl (by first | omega | (simp (disch := omega) only [e_q, g_4]; omega)) (by simp only [aln]; omega) (by simp only [aln]; omega) (t_goto 20 rfl ?_)) <;> (try (simp (disch := omega) only [e_q, g_4])))
    | (show Rch _ _ _ _ _ 18 _ _ _; refine Rch.blk' (Rn_mono mt _) bl_X4_toldSquare_18 (i_bipush k_36 (t_none ?_)))
    | (show Rch _ _ _ _ _ 20 _ _ _; refine Rch.blk' (Rn_mono mt _) bl_X4_toldSquare_20 (t_iret ?_)))
theorem c_X4_isWhereSo (hW : RR h 1 W no0 0) (hO : OKB W) (hS : SR h S) (hK : OKS S) {x p : Int} (x0 : 0 ≤ x) (x1 : x < 8) (hh : ho S x = 2) (p0 : 0 ≤ p) (p1 : p < nn W) (hd : dy W < 800000) (h1 : tolC W S x p 0 → ∀ h', FrR h h' 1 → Q (some (ai (I 1))) h') (h0 : ¬ tolC W S x p 0 → ∀ h', FrR h h' 1 → Q (some (ai (I 0))) h') : Rn mt (d + 8) 182 [ar 3 0, ai (I x), ai (I p)] h Q := by
  refine Rn.intro iX4_isWhereSo rfl rfl ?_
  show Rch bX4_isWhereSo _ _ _ _ 0 [some (ar 3 0), some (ai (I x)), some (ai (I p)), none] [] _
  have g := (hK x x0 x1).2.2 hh
  have g_n := hO.n
  have key : ∀ k : Int, k ≤ sz S x → 0 ≤ k → (∀ j : Int, 0 ≤ j → j < k → (el S x j = lst (so S x) ∨ el S x j = sq (DN W no0 (j + 0)) p)) → ∀ (h' : Mem), RR h' 1 (DN W no0 k) no0 0 → FrR h h' 1 → RH bX4_isWhereSo (d + 7) Q 2 [some (ar 3 0), some (ai (I x)), some (ai (I p)), some (ai (I k))] h' := by
    refine up_ind (fun k hk ih hk0 hn h' hR hF => ?_)
    have hS' : SR h' S := hS.fr (fun t b j ht => hF t b j (by omega))
    have e_z := hS'.z x0 x1 hh
    obtain ⟨hOk, hnk, hdk, -⟩ := DN_f (M := no0) hO k hk0
    by_cases hk1 : k < sz S x
    · have ih := ih hk1 (by omega)
      have g_q := (hOk.pc p p0 (by rw [hnk]; exact p1)).2.2.2
      have kH : ¬ (el S x k = lst (so S x) ∨ el S x k = sq (DN W no0 k) p) → Q (some (ai (I 0))) h' := fun c => h0 (fun z => c (by have := z k hk0 hk1; rw [Int.add_zero] at this; exact this)) h' hF
      have ih2 : (el S x k = lst (so S x) ∨ el S x k = sq (DN W no0 k) p) → ∀ h2, RR h2 1 (DAY (DN W no0 k) no0 0) no0 0 → FrR h' h2 1 → RH bX4_isWhereSo (d + 7) Q 2 [some (ar 3 0), some (ai (I x)), some (ai (I p)), some (ai (I (k + 1)))] h2 := fun c h2 a e => ih (fun j j0 j1 => by
        by_cases z : j = k
        · subst z; rw [Int.add_zero]; exact c
        · exact hn j j0 (by omega)) h2 (by rw [DN_up hk0]; exact a) (hF.tr e)
      clear ih hn h1 h0
      refine Rch.blk' (Rn_mono mt _) bl_X4_isWhereSo_2 (i_iload_n rfl (i_aload_n rfl (i_gfs rfl (i_iload_n rfl (i_iald (n := 8) rfl (by first | omega | (simp (disch := omega) only [e_z]; omega)) (by first | omega | (simp (disch := omega) only [e_z]; omega)) (by first | omega | (simp (disch := omega) only [e_z]; omega)) (t_ic_ge 44 12 rfl rfl (by first | exact hI_R | exact band_R | exact bor_R | exact bshr_R | exact lcm_R | omega | (simp (disch := omega) only [e_z]; omega)) (by first | exact hI_R | exact band_R | exact bor_R | exact bshr_R | exact lcm_R | omega | (simp (disch := omega) only [e_z]; omega)) (fun hc => ?_) (fun hc => ?_))))))) <;> (try (simp (disch := omega) only [e_z] at hc ⊢)) <;> (first | (exfalso; omega) | skip)
      refine Rch.blk' (Rn_mono mt _) bl_X4_isWhereSo_12 (i_aload_n rfl (i_iload_n rfl (i_iload_n rfl (i_aload_n rfl (i_gfs rfl (i_iload_n rfl (t_cs2 (Rn_mono mt _) 23 rfl (Nat.le_of_ble_eq_true rfl) ?_)))))))
      refine c_X4_toldSq hR hOk p0 (by omega) ?_
      refine Rch.blk' (Rn_mono mt _) bl_X4_isWhereSo_23 (t_cv4 (Rn_mono mt _) 26 rfl (Nat.le_of_ble_eq_true rfl) ?_)
      refine c_X4_isTold hS' hK ⟨by omega, by omega⟩ x0 x1 hh hk0 hk1 (fun c => ?_) (fun c => ?_)
      · skip
        refine Rch.blk' (Rn_mono mt _) bl_X4_isWhereSo_26 (t_if_ne 31 29 rfl rfl (by first | exact hI_R | exact band_R | exact bor_R | exact bshr_R | exact lcm_R | omega) (fun hc => ?_) (fun hc => ?_)) <;> (first | (exfalso; omega) | skip)
        refine Rch.blk' (Rn_mono mt _) bl_X4_isWhereSo_31 (i_aload_n rfl (i_gfs rfl (t_cs1 (Rn_mono mt _) 38 rfl (Nat.le_of_ble_eq_true rfl) ?_)))
        refine c_X4_day hR hOk (by omega) (by omega) (fun h2 hG2 hF2 => ?_)
        have i2 := ih2 c h2 hG2 hF2
        clear ih2 kH
        repeat' (first
          | exact i2
          | (show Rn _ _ 181 _ _ _; refine c_X4_toldSquare (by assumption) (by assumption) (by omega) (by omega) ?_)
          | (show Rn _ _ 180 _ _ _; refine c_X4_isTold (by assumption) (by assumption) (by omega) (by assumption) (by assumption) (by assumption) (by omega) (by omega) (fun _ => ?_) (fun _ => ?_))
          | (show Rch _ _ _ _ _ 0 _ _ _; refine Rch.blk' (Rn_mono mt _) bl_X4_isWhereSo_0 (i_iconst k_0 (i_istore3 trivial (t_none ?_))))
          | (show Rch _ _ _ _ _ 12 _ _ _; refine Rch.blk' (Rn_mono mt _) bl_X4_isWhereSo_12 (i_aload_n rfl (i_iload_n rfl (i_iload_n rfl (i_aload_n rfl (i_gfs rfl (i_iload_n rfl (t_cs2 (Rn_mono mt _) 23 rfl (Nat.le_of_ble_eq_true rfl) ?_))))))))
          | (show Rch _ _ _ _ _ 23 _ _ _; refine Rch.blk' (Rn_mono mt _) bl_X4_isWhereSo_23 (t_cv4 (Rn_mono mt _) 26 rfl (Nat.le_of_ble_eq_true rfl) ?_))
          | (show Rch _ _ _ _ _ 26 _ _ _; refine Rch.blk' (Rn_mono mt _) bl_X4_isWhereSo_26 (t_if_ne 31 29 rfl rfl (by first | exact hI_R | exact band_R | exact bor_R | exact bshr_R | exact lcm_R | omega) (fun hc => ?_) (fun hc => ?_)) <;> (first | (exfalso; omega) | skip))
          | (show Rch _ _ _ _ _ 29 _ _ _; refine Rch.blk' (Rn_mono mt _) bl_X4_isWhereSo_29 (i_iconst k_0 (t_zret (by omega) ?_)))
          | (show Rch _ _ _ _ _ 31 _ _ _; refine Rch.blk' (Rn_mono mt _) bl_X4_isWhereSo_31 (i_aload_n rfl (i_gfs rfl (t_cs1 (Rn_mono mt _) 38 rfl (Nat.le_of_ble_eq_true rfl) ?_))))
          | (show Rch _ _ _ _ _ 38 _ _ _; refine Rch.blk' (Rn_mono mt _) bl_X4_isWhereSo_38 (i_iinc3 trivial k_1 (t_goto 2 rfl ?_)))
          | (show Rch _ _ _ _ _ 44 _ _ _; refine Rch.blk' (Rn_mono mt _) bl_X4_isWhereSo_44 (i_iconst k_1 (t_zret (by omega) ?_))))
      · have kk := kH c
        clear ih2 kH
        repeat' (first
          | exact kk
          | (show Rn _ _ 181 _ _ _; refine c_X4_toldSquare (by assumption) (by assumption) (by omega) (by omega) ?_)
          | (show Rn _ _ 180 _ _ _; refine c_X4_isTold (by assumption) (by assumption) (by omega) (by assumption) (by assumption) (by assumption) (by omega) (by omega) (fun _ => ?_) (fun _ => ?_))
          | (show Rch _ _ _ _ _ 0 _ _ _; refine Rch.blk' (Rn_mono mt _) bl_X4_isWhereSo_0 (i_iconst k_0 (i_istore3 trivial (t_none ?_))))
          | (show Rch _ _ _ _ _ 12 _ _ _; refine Rch.blk' (Rn_mono mt _) bl_X4_isWhereSo_12 (i_aload_n rfl (i_iload_n rfl (i_iload_n rfl (i_aload_n rfl (i_gfs rfl (i_iload_n rfl (t_cs2 (Rn_mono mt _) 23 rfl (Nat.le_of_ble_eq_true rfl) ?_))))))))
          | (show Rch _ _ _ _ _ 23 _ _ _; refine Rch.blk' (Rn_mono mt _) bl_X4_isWhereSo_23 (t_cv4 (Rn_mono mt _) 26 rfl (Nat.le_of_ble_eq_true rfl) ?_))
          | (show Rch _ _ _ _ _ 26 _ _ _; refine Rch.blk' (Rn_mono mt _) bl_X4_isWhereSo_26 (t_if_ne 31 29 rfl rfl (by first | exact hI_R | exact band_R | exact bor_R | exact bshr_R | exact lcm_R | omega) (fun hc => ?_) (fun hc => ?_)) <;> (first | (exfalso; omega) | skip))
          | (show Rch _ _ _ _ _ 29 _ _ _; refine Rch.blk' (Rn_mono mt _) bl_X4_isWhereSo_29 (i_iconst k_0 (t_zret (by omega) ?_)))
          | (show Rch _ _ _ _ _ 31 _ _ _; refine Rch.blk' (Rn_mono mt _) bl_X4_isWhereSo_31 (i_aload_n rfl (i_gfs rfl (t_cs1 (Rn_mono mt _) 38 rfl (Nat.le_of_ble_eq_true rfl) ?_))))
          | (show Rch _ _ _ _ _ 38 _ _ _; refine Rch.blk' (Rn_mono mt _) bl_X4_isWhereSo_38 (i_iinc3 trivial k_1 (t_goto 2 rfl ?_)))
          | (show Rch _ _ _ _ _ 44 _ _ _; refine Rch.blk' (Rn_mono mt _) bl_X4_isWhereSo_44 (i_iconst k_1 (t_zret (by omega) ?_))))
    · have kk : Q (some (ai (I 1))) h' := h1 (fun i i0 i1 => hn i i0 (by omega)) h' hF
      clear ih hn
      refine Rch.blk' (Rn_mono mt _) bl_X4_isWhereSo_2 (i_iload_n rfl (i_aload_n rfl (i_gfs rfl (i_iload_n rfl (i_iald (n := 8) rfl (by first | omega | (simp (disch := omega) only [e_z]; omega)) (by first | omega | (simp (disch := omega) only [e_z]; omega)) (by first | omega | (simp (disch := omega) only [e_z]; omega)) (t_ic_ge 44 12 rfl rfl (by first | exact hI_R | exact band_R | exact bor_R | exact bshr_R | exact lcm_R | omega | (simp (disch := omega) only [e_z]; omega)) (by first | exact hI_R | exact band_R | exact bor_R | exact bshr_R | exact lcm_R | omega | (simp (disch := omega) only [e_z]; omega)) (fun hc => ?_) (fun hc => ?_))))))) <;> (try (simp (disch := omega) only [e_z] at hc ⊢)) <;> (first | (exfalso; omega) | skip)
      repeat' (first
        | exact kk
        | (show Rn _ _ 181 _ _ _; refine c_X4_toldSquare (by assumption) (by assumption) (by omega) (by omega) ?_)
        | (show Rn _ _ 180 _ _ _; refine c_X4_isTold (by assumption) (by assumption) (by omega) (by assumption) (by assumption) (by assumption) (by omega) (by omega) (fun _ => ?_) (fun _ => ?_))
        | (show Rch _ _ _ _ _ 0 _ _ _; refine Rch.blk' (Rn_mono mt _) bl_X4_isWhereSo_0 (i_iconst k_0 (i_istore3 trivial (t_none ?_))))
        | (show Rch _ _ _ _ _ 12 _ _ _; refine Rch.blk' (Rn_mono mt _) bl_X4_isWhereSo_12 (i_aload_n rfl (i_iload_n rfl (i_iload_n rfl (i_aload_n rfl (i_gfs rfl (i_iload_n rfl (t_cs2 (Rn_mono mt _) 23 rfl (Nat.le_of_ble_eq_true rfl) ?_))))))))
        | (show Rch _ _ _ _ _ 23 _ _ _; refine Rch.blk' (Rn_mono mt _) bl_X4_isWhereSo_23 (t_cv4 (Rn_mono mt _) 26 rfl (Nat.le_of_ble_eq_true rfl) ?_))
        | (show Rch _ _ _ _ _ 26 _ _ _; refine Rch.blk' (Rn_mono mt _) bl_X4_isWhereSo_26 (t_if_ne 31 29 rfl rfl (by first | exact hI_R | exact band_R | exact bor_R | exact bshr_R | exact lcm_R | omega) (fun hc => ?_) (fun hc => ?_)) <;> (first | (exfalso; omega) | skip))
        | (show Rch _ _ _ _ _ 29 _ _ _; refine Rch.blk' (Rn_mono mt _) bl_X4_isWhereSo_29 (i_iconst k_0 (t_zret (by omega) ?_)))
        | (show Rch _ _ _ _ _ 31 _ _ _; refine Rch.blk' (Rn_mono mt _) bl_X4_isWhereSo_31 (i_aload_n rfl (i_gfs rfl (t_cs1 (Rn_mono mt _) 38 rfl (Nat.le_of_ble_eq_true rfl) ?_))))
        | (show Rch _ _ _ _ _ 38 _ _ _; refine Rch.blk' (Rn_mono mt _) bl_X4_isWhereSo_38 (i_iinc3 trivial k_1 (t_goto 2 rfl ?_)))
        | (show Rch _ _ _ _ _ 44 _ _ _; refine Rch.blk' (Rn_mono mt _) bl_X4_isWhereSo_44 (i_iconst k_1 (t_zret (by omega) ?_))))
  have kz := key 0 (by omega) (by omega) (fun j a b => by omega) h hW FrR.rf
  clear key
  repeat' (first
    | exact kz
    | (show Rn _ _ 181 _ _ _; refine c_X4_toldSquare (by assumption) (by assumption) (by omega) (by omega) ?_)
    | (show Rn _ _ 180 _ _ _; refine c_X4_isTold (by assumption) (by assumption) (by omega) (by assumption) (by assumption) (by assumption) (by omega) (by omega) (fun _ => ?_) (fun _ => ?_))
    | (show Rch _ _ _ _ _ 0 _ _ _; refine Rch.blk' (Rn_mono mt _) bl_X4_isWhereSo_0 (i_iconst k_0 (i_istore3 trivial (t_none ?_))))
    | (show Rch _ _ _ _ _ 12 _ _ _; refine Rch.blk' (Rn_mono mt _) bl_X4_isWhereSo_12 (i_aload_n rfl (i_iload_n rfl (i_iload_n rfl (i_aload_n rfl (i_gfs rfl (i_iload_n rfl (t_cs2 (Rn_mono mt _) 23 rfl (Nat.le_of_ble_eq_true rfl) ?_))))))))
    | (show Rch _ _ _ _ _ 23 _ _ _; refine Rch.blk' (Rn_mono mt _) bl_X4_isWhereSo_23 (t_cv4 (Rn_mono mt _) 26 rfl (Nat.le_of_ble_eq_true rfl) ?_))
    | (show Rch _ _ _ _ _ 26 _ _ _; refine Rch.blk' (Rn_mono mt _) bl_X4_isWhereSo_26 (t_if_ne 31 29 rfl rfl (by first | exact hI_R | exact band_R | exact bor_R | exact bshr_R | exact lcm_R | omega) (fun hc => ?_) (fun hc => ?_)) <;> (first | (exfalso; omega) | skip))
    | (show Rch _ _ _ _ _ 29 _ _ _; refine Rch.blk' (Rn_mono mt _) bl_X4_isWhereSo_29 (i_iconst k_0 (t_zret (by omega) ?_)))
    | (show Rch _ _ _ _ _ 31 _ _ _; refine Rch.blk' (Rn_mono mt _) bl_X4_isWhereSo_31 (i_aload_n rfl (i_gfs rfl (t_cs1 (Rn_mono mt _) 38 rfl (Nat.le_of_ble_eq_true rfl) ?_))))
    | (show Rch _ _ _ _ _ 38 _ _ _; refine Rch.blk' (Rn_mono mt _) bl_X4_isWhereSo_38 (i_iinc3 trivial k_1 (t_goto 2 rfl ?_)))
    | (show Rch _ _ _ _ _ 44 _ _ _; refine Rch.blk' (Rn_mono mt _) bl_X4_isWhereSo_44 (i_iconst k_1 (t_zret (by omega) ?_))))
theorem c_X4_whatIs (hG : RR h 0 G no0 0) (hO : OKB G) (hy : dy G ≤ 999) (hS : SR h S) (hK : OKS S) {x p w : Int} (hx : inR x) (hp : inR p) (hw : inR w) (hq : ∀ v h', v = vWhatIs G S x p w → JY h h' → Q (some (ai (I v))) h') : Rn mt (d + 20) 183 [ar 3 0, ai (I x), ai (I p), ai (I w)] h Q := by
  refine Rn.intro iX4_whatIs rfl rfl ?_
  show Rch bX4_whatIs _ _ _ _ 0 [some (ar 3 0), some (ai (I x)), some (ai (I p)), some (ai (I w)), none, none, none] [] _
  have g_n := hO.n
  have r1 : rfu S x 2 = 0 → (0 ≤ x ∧ x < 8) ∧ ho S x = 2 := fun e => by unfold rfu at e; omega
  have r2 : wrf S x (-1) = rfu S x 2 := by unfold wrf; rw [if_neg (by omega)]
  have k1 : ∀ u, u = -1 → ¬ ((0 ≤ p ∧ p < nn G) ∧ 0 ≤ w ∧ w ≤ 1) → Q (some (ai (I u))) h := fun u e a => hq _ _ (by unfold vWhatIs; rw [if_neg a]; exact e) JY.rf
  have k2 : ∀ u, u = rfu S x 2 → ¬ u = 0 → (0 ≤ p ∧ p < nn G) ∧ 0 ≤ w ∧ w ≤ 1 → Q (some (ai (I u))) h := fun u e a c => hq _ _ (by unfold vWhatIs; rw [if_pos c, if_neg (by omega)]; exact e) JY.rf
  have key : rfu S x 2 = 0 → (0 ≤ p ∧ p < nn G) → (0 ≤ w ∧ w ≤ 1) → ∀ u, u = 0 → ∀ k : Int, k ≤ wiM w → 0 ≤ k → ∀ h', FrR h h' 1 → RH bX4_whatIs (d + 19) Q 41 [some (ar 3 0), some (ai (I x)), some (ai (I p)), some (ai (I w)), some (ai (I u)), some (ai (I (BT (fun i => i < k ∧ wiC G S x p w i)))), some (ai (I k))] h' := by
    rintro r0 ⟨p0, p1⟩ hw2 u hu
    obtain ⟨⟨x0, x1⟩, hh⟩ := r1 r0
    have g_M : (w = 0 → wiM w = 8) ∧ (w = 1 → wiM w = 10) := ⟨fun e => if_pos e, fun e => if_neg (by omega)⟩
    refine up_ind (fun k hk ih hk0 h' hF => ?_)
    have hR := hG.fr hF (by decide)
    by_cases hk1 : k < wiM w
    · have ih := ih hk1 (by omega)
      have ih1 : wiC G S x p w k → ∀ h2, FrR h h2 1 → RH bX4_whatIs (d + 19) Q 41 [some (ar 3 0), some (ai (I x)), some (ai (I p)), some (ai (I w)), some (ai (I u)), some (ai (I (bor (BT (fun i => i < k ∧ wiC G S x p w i)) (bshl 1 k)))), some (ai (I (k + 1)))] h2 := fun c h2 hF2 => by
        rw [BT_up1 (C := wiC G S x p w) hk0 (by omega) c]; exact ih h2 hF2
      have ih0 : ¬ wiC G S x p w k → ∀ h2, FrR h h2 1 → RH bX4_whatIs (d + 19) Q 41 [some (ar 3 0), some (ai (I x)), some (ai (I p)), some (ai (I w)), some (ai (I u)), some (ai (I (bor (BT (fun i => i < k ∧ wiC G S x p w i)) 0))), some (ai (I (k + 1)))] h2 := fun c h2 hF2 => by
        rw [BT_up2 (C := wiC G S x p w) c]; exact ih h2 hF2
      clear ih hq k1 k2
      have hf := @wiV_f G p w k
      have hO2 := OKB_wi hO p0 p1 hk0 hk1
      have hset : ∀ h1, RR h1 1 G no0 0 → RR (mset h1 12 1 (6 + 4 * p + w).toNat (I k)) 1 (wiV G p w k) no0 0 := by
        intro h1 a
        by_cases c : w = 0
        · have eV : wiV G p w k = stk G p k (fg G p) := if_pos c
          rw [eV]
          exact a.set_k p0 ⟨by omega, by omega⟩ (by omega)
        · have eV : wiV G p w k = stk G p (kd G p) k := if_neg c
          rw [eV]
          exact a.set_f p0 ⟨by omega, by omega⟩ (by omega)
      have h57 : Rch bX4_whatIs (Rn mt (d + 19)) 0 (fun _ _ _ _ => False) Q 57 [some (ar 3 0), some (ai (I x)), some (ai (I p)), some (ai (I w)), some (ai (I u)), some (ai (I (BT (fun i => i < k ∧ wiC G S x p w i)))), some (ai (I k))] [] h' := by
        refine Rch.blk' (Rn_mono mt _) bl_X4_whatIs_57 (i_aload_n rfl (i_gfs rfl (i_aload_n rfl (i_gfs rfl (t_cs2 (Rn_mono mt _) 68 rfl (Nat.le_of_ble_eq_true rfl) ?_)))))
        refine c_X4_copies hR hO (by decide) (fun h2 hG2 hF2 => ?_)
        refine Rch.blk' (Rn_mono mt _) bl_X4_whatIs_68 (i_aload_n rfl (i_gfs rfl (i_iload_n rfl (i_iload_n rfl (t_cs2 (Rn_mono mt _) 77 rfl (Nat.le_of_ble_eq_true rfl) ?_)))))
        refine c_X4_of ?_
        have hG3 := hset h2 hG2
        have hF3 : FrR h (mset h2 12 1 (6 + 4 * p + w).toNat (I k)) 1 := (hF.tr hF2).ms
        refine Rch.blk' (Rn_mono mt _) bl_X4_whatIs_77 (i_iload rfl (i_iast rfl rfl (by omega) (by simp only [aln]; omega) (by simp only [aln]; omega) (i_iload rfl (i_aload_n rfl (i_iload_n rfl (i_iload_n rfl (t_cv3 (Rn_mono mt _) 88 rfl (Nat.le_of_ble_eq_true rfl) ?_)))))))
        have hS3 : SR (mset h2 12 1 (6 + 4 * p + w).toNat (I k)) S := hS.fr (fun t b j ht => hF3 t b j (by omega))
        refine c_X4_isWhereSo hG3 hO2 hS3 hK x0 x1 hh p0 (by omega) (by omega) (fun c h3 hF4 => ?_) (fun c h3 hF4 => ?_)
        · have i1 := ih1 c h3 (hF3.tr hF4)
          clear ih1 ih0 hset
          repeat' (first
            | exact i1
            | (show Rn _ _ 110 _ _ _; refine c_X4_isPiece (by assumption) (by assumption) (by first | omega | exact hI_R) (fun _ _ => ?_) (fun _ => ?_))
            | (show Rn _ _ 105 _ _ _; refine c_X4_isIn (by first | omega | exact hI_R) (by first | omega | exact hI_R) (by first | omega | exact hI_R) (fun _ _ => ?_) (fun _ => ?_))
            | (show Rn _ _ 146 _ _ _; refine c_X4_wrongRow (by assumption) (by assumption) (by omega) (fun _ _ _ _ => ?_))
            | (show Rn _ _ 109 _ _ _; refine c_X4_of ?_)
            | (show Rch _ _ _ _ _ 0 _ _ _; refine Rch.blk' (Rn_mono mt _) bl_X4_whatIs_0 (i_aload_n rfl (i_iload_n rfl (t_cv2 (Rn_mono mt _) 5 rfl (Nat.le_of_ble_eq_true rfl) ?_))))
            | (show Rch _ _ _ _ _ 5 _ _ _; refine Rch.blk' (Rn_mono mt _) bl_X4_whatIs_5 (t_if_eq 17 8 rfl rfl (by first | exact hI_R | exact band_R | exact bor_R | exact bshr_R | exact lcm_R | omega) (fun hc => ?_) (fun hc => ?_)) <;> (first | (exfalso; omega) | skip))
            | (show Rch _ _ _ _ _ 8 _ _ _; refine Rch.blk' (Rn_mono mt _) bl_X4_whatIs_8 (i_iload_n rfl (i_iconst k_0 (i_iconst k_1 (t_cs3 (Rn_mono mt _) 14 rfl (Nat.le_of_ble_eq_true rfl) ?_)))))
            | (show Rch _ _ _ _ _ 14 _ _ _; refine Rch.blk' (Rn_mono mt _) bl_X4_whatIs_14 (t_if_ne 19 17 rfl rfl (by first | exact hI_R | exact band_R | exact bor_R | exact bshr_R | exact lcm_R | omega) (fun hc => ?_) (fun hc => ?_)) <;> (first | (exfalso; omega) | skip))
            | (show Rch _ _ _ _ _ 17 _ _ _; refine Rch.blk' (Rn_mono mt _) bl_X4_whatIs_17 (i_iconst k_m1 (t_iret ?_)))
            | (show Rch _ _ _ _ _ 19 _ _ _; refine Rch.blk' (Rn_mono mt _) bl_X4_whatIs_19 (i_aload_n rfl (i_iload_n rfl (i_iconst k_m1 (t_cv3 (Rn_mono mt _) 25 rfl (Nat.le_of_ble_eq_true rfl) ?_)))))
            | (show Rch _ _ _ _ _ 25 _ _ _; refine Rch.blk' (Rn_mono mt _) bl_X4_whatIs_25 (i_istore4 trivial (i_iload rfl (t_if_eq 35 32 rfl rfl (by first | exact hI_R | exact band_R | exact bor_R | exact bshr_R | exact lcm_R | omega) (fun hc => ?_) (fun hc => ?_)))) <;> (first | (exfalso; omega) | skip))
            | (show Rch _ _ _ _ _ 32 _ _ _; refine Rch.blk' (Rn_mono mt _) bl_X4_whatIs_32 (i_iload rfl (t_iret ?_)))
            | (show Rch _ _ _ _ _ 35 _ _ _; refine Rch.blk' (Rn_mono mt _) bl_X4_whatIs_35 (i_iconst k_0 (i_istore5 trivial (i_iconst k_0 (i_istore6 trivial (t_none ?_))))))
            | (show Rch _ _ _ _ _ 47 _ _ _; refine Rch.blk' (Rn_mono mt _) bl_X4_whatIs_47 (i_bipush k_8 (t_goto 54 rfl ?_)))
            | (show Rch _ _ _ _ _ 52 _ _ _; refine Rch.blk' (Rn_mono mt _) bl_X4_whatIs_52 (i_bipush k_10 (t_none ?_)))
            | (show Rch _ _ _ _ _ 54 _ _ _; refine Rch.blk' (Rn_mono mt _) bl_X4_whatIs_54 (t_ic_ge 108 57 rfl rfl (by first | exact hI_R | exact band_R | exact bor_R | exact bshr_R | exact lcm_R | omega) (by first | exact hI_R | exact band_R | exact bor_R | exact bshr_R | exact lcm_R | omega) (fun hc => ?_) (fun hc => ?_)) <;> (first | (exfalso; omega) | skip))
            | (show Rch _ _ _ _ _ 57 _ _ _; refine Rch.blk' (Rn_mono mt _) bl_X4_whatIs_57 (i_aload_n rfl (i_gfs rfl (i_aload_n rfl (i_gfs rfl (t_cs2 (Rn_mono mt _) 68 rfl (Nat.le_of_ble_eq_true rfl) ?_))))))
            | (show Rch _ _ _ _ _ 68 _ _ _; refine Rch.blk' (Rn_mono mt _) bl_X4_whatIs_68 (i_aload_n rfl (i_gfs rfl (i_iload_n rfl (i_iload_n rfl (t_cs2 (Rn_mono mt _) 77 rfl (Nat.le_of_ble_eq_true rfl) ?_))))))
            | (show Rch _ _ _ _ _ 77 _ _ _; refine Rch.blk' (Rn_mono mt _) bl_X4_whatIs_77 (i_iload rfl (i_iast rfl rfl (by omega) (by simp only [aln]; omega) (by simp only [aln]; omega) (i_iload rfl (i_aload_n rfl (i_iload_n rfl (i_iload_n rfl (t_cv3 (Rn_mono mt _) 88 rfl (Nat.le_of_ble_eq_true rfl) ?_))))))))
            | (show Rch _ _ _ _ _ 88 _ _ _; refine Rch.blk' (Rn_mono mt _) bl_X4_whatIs_88 (t_if_eq 98 91 rfl rfl (by first | exact hI_R | exact band_R | exact bor_R | exact bshr_R | exact lcm_R | omega) (fun hc => ?_) (fun hc => ?_)) <;> (first | (exfalso; omega) | skip))
            | (show Rch _ _ _ _ _ 91 _ _ _; refine Rch.blk' (Rn_mono mt _) bl_X4_whatIs_91 (i_iconst k_1 (i_iload rfl (i_ishl (t_goto 99 rfl ?_)))))
            | (show Rch _ _ _ _ _ 98 _ _ _; refine Rch.blk' (Rn_mono mt _) bl_X4_whatIs_98 (i_iconst k_0 (t_none ?_)))
            | (show Rch _ _ _ _ _ 99 _ _ _; refine Rch.blk' (Rn_mono mt _) bl_X4_whatIs_99 (i_ior (i_istore5 trivial (i_iinc6 trivial k_1 (t_goto 41 rfl ?_)))))
            | (show Rch _ _ _ _ _ 108 _ _ _; refine Rch.blk' (Rn_mono mt _) bl_X4_whatIs_108 (i_iload rfl (t_iret ?_))))
        · have i0 := ih0 c h3 (hF3.tr hF4)
          clear ih1 ih0 hset
          repeat' (first
            | exact i0
            | (show Rn _ _ 110 _ _ _; refine c_X4_isPiece (by assumption) (by assumption) (by first | omega | exact hI_R) (fun _ _ => ?_) (fun _ => ?_))
            | (show Rn _ _ 105 _ _ _; refine c_X4_isIn (by first | omega | exact hI_R) (by first | omega | exact hI_R) (by first | omega | exact hI_R) (fun _ _ => ?_) (fun _ => ?_))
            | (show Rn _ _ 146 _ _ _; refine c_X4_wrongRow (by assumption) (by assumption) (by omega) (fun _ _ _ _ => ?_))
            | (show Rn _ _ 109 _ _ _; refine c_X4_of ?_)
            | (show Rch _ _ _ _ _ 0 _ _ _; refine Rch.blk' (Rn_mono mt _) bl_X4_whatIs_0 (i_aload_n rfl (i_iload_n rfl (t_cv2 (Rn_mono mt _) 5 rfl (Nat.le_of_ble_eq_true rfl) ?_))))
            | (show Rch _ _ _ _ _ 5 _ _ _; refine Rch.blk' (Rn_mono mt _) bl_X4_whatIs_5 (t_if_eq 17 8 rfl rfl (by first | exact hI_R | exact band_R | exact bor_R | exact bshr_R | exact lcm_R | omega) (fun hc => ?_) (fun hc => ?_)) <;> (first | (exfalso; omega) | skip))
            | (show Rch _ _ _ _ _ 8 _ _ _; refine Rch.blk' (Rn_mono mt _) bl_X4_whatIs_8 (i_iload_n rfl (i_iconst k_0 (i_iconst k_1 (t_cs3 (Rn_mono mt _) 14 rfl (Nat.le_of_ble_eq_true rfl) ?_)))))
            | (show Rch _ _ _ _ _ 14 _ _ _; refine Rch.blk' (Rn_mono mt _) bl_X4_whatIs_14 (t_if_ne 19 17 rfl rfl (by first | exact hI_R | exact band_R | exact bor_R | exact bshr_R | exact lcm_R | omega) (fun hc => ?_) (fun hc => ?_)) <;> (first | (exfalso; omega) | skip))
            | (show Rch _ _ _ _ _ 17 _ _ _; refine Rch.blk' (Rn_mono mt _) bl_X4_whatIs_17 (i_iconst k_m1 (t_iret ?_)))
            | (show Rch _ _ _ _ _ 19 _ _ _; refine Rch.blk' (Rn_mono mt _) bl_X4_whatIs_19 (i_aload_n rfl (i_iload_n rfl (i_iconst k_m1 (t_cv3 (Rn_mono mt _) 25 rfl (Nat.le_of_ble_eq_true rfl) ?_)))))
            | (show Rch _ _ _ _ _ 25 _ _ _; refine Rch.blk' (Rn_mono mt _) bl_X4_whatIs_25 (i_istore4 trivial (i_iload rfl (t_if_eq 35 32 rfl rfl (by first | exact hI_R | exact band_R | exact bor_R | exact bshr_R | exact lcm_R | omega) (fun hc => ?_) (fun hc => ?_)))) <;> (first | (exfalso; omega) | skip))
            | (show Rch _ _ _ _ _ 32 _ _ _; refine Rch.blk' (Rn_mono mt _) bl_X4_whatIs_32 (i_iload rfl (t_iret ?_)))
            | (show Rch _ _ _ _ _ 35 _ _ _; refine Rch.blk' (Rn_mono mt _) bl_X4_whatIs_35 (i_iconst k_0 (i_istore5 trivial (i_iconst k_0 (i_istore6 trivial (t_none ?_))))))
            | (show Rch _ _ _ _ _ 47 _ _ _; refine Rch.blk' (Rn_mono mt _) bl_X4_whatIs_47 (i_bipush k_8 (t_goto 54 rfl ?_)))
            | (show Rch _ _ _ _ _ 52 _ _ _; refine Rch.blk' (Rn_mono mt _) bl_X4_whatIs_52 (i_bipush k_10 (t_none ?_)))
            | (show Rch _ _ _ _ _ 54 _ _ _; refine Rch.blk' (Rn_mono mt _) bl_X4_whatIs_54 (t_ic_ge 108 57 rfl rfl (by first | exact hI_R | exact band_R | exact bor_R | exact bshr_R | exact lcm_R | omega) (by first | exact hI_R | exact band_R | exact bor_R | exact bshr_R | exact lcm_R | omega) (fun hc => ?_) (fun hc => ?_)) <;> (first | (exfalso; omega) | skip))
            | (show Rch _ _ _ _ _ 57 _ _ _; refine Rch.blk' (Rn_mono mt _) bl_X4_whatIs_57 (i_aload_n rfl (i_gfs rfl (i_aload_n rfl (i_gfs rfl (t_cs2 (Rn_mono mt _) 68 rfl (Nat.le_of_ble_eq_true rfl) ?_))))))
            | (show Rch _ _ _ _ _ 68 _ _ _; refine Rch.blk' (Rn_mono mt _) bl_X4_whatIs_68 (i_aload_n rfl (i_gfs rfl (i_iload_n rfl (i_iload_n rfl (t_cs2 (Rn_mono mt _) 77 rfl (Nat.le_of_ble_eq_true rfl) ?_))))))
            | (show Rch _ _ _ _ _ 77 _ _ _; refine Rch.blk' (Rn_mono mt _) bl_X4_whatIs_77 (i_iload rfl (i_iast rfl rfl (by omega) (by simp only [aln]; omega) (by simp only [aln]; omega) (i_iload rfl (i_aload_n rfl (i_iload_n rfl (i_iload_n rfl (t_cv3 (Rn_mono mt _) 88 rfl (Nat.le_of_ble_eq_true rfl) ?_))))))))
            | (show Rch _ _ _ _ _ 88 _ _ _; refine Rch.blk' (Rn_mono mt _) bl_X4_whatIs_88 (t_if_eq 98 91 rfl rfl (by first | exact hI_R | exact band_R | exact bor_R | exact bshr_R | exact lcm_R | omega) (fun hc => ?_) (fun hc => ?_)) <;> (first | (exfalso; omega) | skip))
            | (show Rch _ _ _ _ _ 91 _ _ _; refine Rch.blk' (Rn_mono mt _) bl_X4_whatIs_91 (i_iconst k_1 (i_iload rfl (i_ishl (t_goto 99 rfl ?_)))))
            | (show Rch _ _ _ _ _ 98 _ _ _; refine Rch.blk' (Rn_mono mt _) bl_X4_whatIs_98 (i_iconst k_0 (t_none ?_)))
            | (show Rch _ _ _ _ _ 99 _ _ _; refine Rch.blk' (Rn_mono mt _) bl_X4_whatIs_99 (i_ior (i_istore5 trivial (i_iinc6 trivial k_1 (t_goto 41 rfl ?_)))))
            | (show Rch _ _ _ _ _ 108 _ _ _; refine Rch.blk' (Rn_mono mt _) bl_X4_whatIs_108 (i_iload rfl (t_iret ?_))))
      clear hset ih1 ih0
      repeat' (first
        | exact h57
        | (show Rn _ _ 110 _ _ _; refine c_X4_isPiece (by assumption) (by assumption) (by first | omega | exact hI_R) (fun _ _ => ?_) (fun _ => ?_))
        | (show Rn _ _ 105 _ _ _; refine c_X4_isIn (by first | omega | exact hI_R) (by first | omega | exact hI_R) (by first | omega | exact hI_R) (fun _ _ => ?_) (fun _ => ?_))
        | (show Rn _ _ 146 _ _ _; refine c_X4_wrongRow (by assumption) (by assumption) (by omega) (fun _ _ _ _ => ?_))
        | (show Rn _ _ 109 _ _ _; refine c_X4_of ?_)
        | (show Rch _ _ _ _ _ 0 _ _ _; refine Rch.blk' (Rn_mono mt _) bl_X4_whatIs_0 (i_aload_n rfl (i_iload_n rfl (t_cv2 (Rn_mono mt _) 5 rfl (Nat.le_of_ble_eq_true rfl) ?_))))
        | (show Rch _ _ _ _ _ 5 _ _ _; refine Rch.blk' (Rn_mono mt _) bl_X4_whatIs_5 (t_if_eq 17 8 rfl rfl (by first | exact hI_R | exact band_R | exact bor_R | exact bshr_R | exact lcm_R | omega) (fun hc => ?_) (fun hc => ?_)) <;> (first | (exfalso; omega) | skip))
        | (show Rch _ _ _ _ _ 8 _ _ _; refine Rch.blk' (Rn_mono mt _) bl_X4_whatIs_8 (i_iload_n rfl (i_iconst k_0 (i_iconst k_1 (t_cs3 (Rn_mono mt _) 14 rfl (Nat.le_of_ble_eq_true rfl) ?_)))))
        | (show Rch _ _ _ _ _ 14 _ _ _; refine Rch.blk' (Rn_mono mt _) bl_X4_whatIs_14 (t_if_ne 19 17 rfl rfl (by first | exact hI_R | exact band_R | exact bor_R | exact bshr_R | exact lcm_R | omega) (fun hc => ?_) (fun hc => ?_)) <;> (first | (exfalso; omega) | skip))
        | (show Rch _ _ _ _ _ 17 _ _ _; refine Rch.blk' (Rn_mono mt _) bl_X4_whatIs_17 (i_iconst k_m1 (t_iret ?_)))
        | (show Rch _ _ _ _ _ 19 _ _ _; refine Rch.blk' (Rn_mono mt _) bl_X4_whatIs_19 (i_aload_n rfl (i_iload_n rfl (i_iconst k_m1 (t_cv3 (Rn_mono mt _) 25 rfl (Nat.le_of_ble_eq_true rfl) ?_)))))
        | (show Rch _ _ _ _ _ 25 _ _ _; refine Rch.blk' (Rn_mono mt _) bl_X4_whatIs_25 (i_istore4 trivial (i_iload rfl (t_if_eq 35 32 rfl rfl (by first | exact hI_R | exact band_R | exact bor_R | exact bshr_R | exact lcm_R | omega) (fun hc => ?_) (fun hc => ?_)))) <;> (first | (exfalso; omega) | skip))
        | (show Rch _ _ _ _ _ 32 _ _ _; refine Rch.blk' (Rn_mono mt _) bl_X4_whatIs_32 (i_iload rfl (t_iret ?_)))
        | (show Rch _ _ _ _ _ 35 _ _ _; refine Rch.blk' (Rn_mono mt _) bl_X4_whatIs_35 (i_iconst k_0 (i_istore5 trivial (i_iconst k_0 (i_istore6 trivial (t_none ?_))))))
        | (show Rch _ _ _ _ _ 41 _ _ _; refine Rch.blk' (Rn_mono mt _) bl_X4_whatIs_41 (i_iload rfl (i_iload_n rfl (t_if_ne 52 47 rfl rfl (by first | exact hI_R | exact band_R | exact bor_R | exact bshr_R | exact lcm_R | omega) (fun hc => ?_) (fun hc => ?_)))) <;> (first | (exfalso; omega) | skip))
        | (show Rch _ _ _ _ _ 47 _ _ _; refine Rch.blk' (Rn_mono mt _) bl_X4_whatIs_47 (i_bipush k_8 (t_goto 54 rfl ?_)))
        | (show Rch _ _ _ _ _ 52 _ _ _; refine Rch.blk' (Rn_mono mt _) bl_X4_whatIs_52 (i_bipush k_10 (t_none ?_)))
        | (show Rch _ _ _ _ _ 54 _ _ _; refine Rch.blk' (Rn_mono mt _) bl_X4_whatIs_54 (t_ic_ge 108 57 rfl rfl (by first | exact hI_R | exact band_R | exact bor_R | exact bshr_R | exact lcm_R | omega) (by first | exact hI_R | exact band_R | exact bor_R | exact bshr_R | exact lcm_R | omega) (fun hc => ?_) (fun hc => ?_)) <;> (first | (exfalso; omega) | skip))
        | (show Rch _ _ _ _ _ 68 _ _ _; refine Rch.blk' (Rn_mono mt _) bl_X4_whatIs_68 (i_aload_n rfl (i_gfs rfl (i_iload_n rfl (i_iload_n rfl (t_cs2 (Rn_mono mt _) 77 rfl (Nat.le_of_ble_eq_true rfl) ?_))))))
        | (show Rch _ _ _ _ _ 77 _ _ _; refine Rch.blk' (Rn_mono mt _) bl_X4_whatIs_77 (i_iload rfl (i_iast rfl rfl (by omega) (by simp only [aln]; omega) (by simp only [aln]; omega) (i_iload rfl (i_aload_n rfl (i_iload_n rfl (i_iload_n rfl (t_cv3 (Rn_mono mt _) 88 rfl (Nat.le_of_ble_eq_true rfl) ?_))))))))
        | (show Rch _ _ _ _ _ 88 _ _ _; refine Rch.blk' (Rn_mono mt _) bl_X4_whatIs_88 (t_if_eq 98 91 rfl rfl (by first | exact hI_R | exact band_R | exact bor_R | exact bshr_R | exact lcm_R | omega) (fun hc => ?_) (fun hc => ?_)) <;> (first | (exfalso; omega) | skip))
        | (show Rch _ _ _ _ _ 91 _ _ _; refine Rch.blk' (Rn_mono mt _) bl_X4_whatIs_91 (i_iconst k_1 (i_iload rfl (i_ishl (t_goto 99 rfl ?_)))))
        | (show Rch _ _ _ _ _ 98 _ _ _; refine Rch.blk' (Rn_mono mt _) bl_X4_whatIs_98 (i_iconst k_0 (t_none ?_)))
        | (show Rch _ _ _ _ _ 99 _ _ _; refine Rch.blk' (Rn_mono mt _) bl_X4_whatIs_99 (i_ior (i_istore5 trivial (i_iinc6 trivial k_1 (t_goto 41 rfl ?_)))))
        | (show Rch _ _ _ _ _ 108 _ _ _; refine Rch.blk' (Rn_mono mt _) bl_X4_whatIs_108 (i_iload rfl (t_iret ?_))))
    · obtain rfl : k = wiM w := by omega
      have kk : Q (some (ai (I (BT (fun i => i < wiM w ∧ wiC G S x p w i))))) h' := hq _ _ (by unfold vWhatIs; rw [if_pos ⟨⟨p0, p1⟩, hw2⟩, if_pos r0]) (hF.jy (by omega))
      clear ih hq k1 k2
      repeat' (first
        | exact kk
        | (show Rn _ _ 110 _ _ _; refine c_X4_isPiece (by assumption) (by assumption) (by first | omega | exact hI_R) (fun _ _ => ?_) (fun _ => ?_))
        | (show Rn _ _ 105 _ _ _; refine c_X4_isIn (by first | omega | exact hI_R) (by first | omega | exact hI_R) (by first | omega | exact hI_R) (fun _ _ => ?_) (fun _ => ?_))
        | (show Rn _ _ 146 _ _ _; refine c_X4_wrongRow (by assumption) (by assumption) (by omega) (fun _ _ _ _ => ?_))
        | (show Rn _ _ 109 _ _ _; refine c_X4_of ?_)
        | (show Rch _ _ _ _ _ 0 _ _ _; refine Rch.blk' (Rn_mono mt _) bl_X4_whatIs_0 (i_aload_n rfl (i_iload_n rfl (t_cv2 (Rn_mono mt _) 5 rfl (Nat.le_of_ble_eq_true rfl) ?_))))
        | (show Rch _ _ _ _ _ 5 _ _ _; refine Rch.blk' (Rn_mono mt _) bl_X4_whatIs_5 (t_if_eq 17 8 rfl rfl (by first | exact hI_R | exact band_R | exact bor_R | exact bshr_R | exact lcm_R | omega) (fun hc => ?_) (fun hc => ?_)) <;> (first | (exfalso; omega) | skip))
        | (show Rch _ _ _ _ _ 8 _ _ _; refine Rch.blk' (Rn_mono mt _) bl_X4_whatIs_8 (i_iload_n rfl (i_iconst k_0 (i_iconst k_1 (t_cs3 (Rn_mono mt _) 14 rfl (Nat.le_of_ble_eq_true rfl) ?_)))))
        | (show Rch _ _ _ _ _ 14 _ _ _; refine Rch.blk' (Rn_mono mt _) bl_X4_whatIs_14 (t_if_ne 19 17 rfl rfl (by first | exact hI_R | exact band_R | exact bor_R | exact bshr_R | exact lcm_R | omega) (fun hc => ?_) (fun hc => ?_)) <;> (first | (exfalso; omega) | skip))
        | (show Rch _ _ _ _ _ 17 _ _ _; refine Rch.blk' (Rn_mono mt _) bl_X4_whatIs_17 (i_iconst k_m1 (t_iret ?_)))
        | (show Rch _ _ _ _ _ 19 _ _ _; refine Rch.blk' (Rn_mono mt _) bl_X4_whatIs_19 (i_aload_n rfl (i_iload_n rfl (i_iconst k_m1 (t_cv3 (Rn_mono mt _) 25 rfl (Nat.le_of_ble_eq_true rfl) ?_)))))
        | (show Rch _ _ _ _ _ 25 _ _ _; refine Rch.blk' (Rn_mono mt _) bl_X4_whatIs_25 (i_istore4 trivial (i_iload rfl (t_if_eq 35 32 rfl rfl (by first | exact hI_R | exact band_R | exact bor_R | exact bshr_R | exact lcm_R | omega) (fun hc => ?_) (fun hc => ?_)))) <;> (first | (exfalso; omega) | skip))
        | (show Rch _ _ _ _ _ 32 _ _ _; refine Rch.blk' (Rn_mono mt _) bl_X4_whatIs_32 (i_iload rfl (t_iret ?_)))
        | (show Rch _ _ _ _ _ 35 _ _ _; refine Rch.blk' (Rn_mono mt _) bl_X4_whatIs_35 (i_iconst k_0 (i_istore5 trivial (i_iconst k_0 (i_istore6 trivial (t_none ?_))))))
        | (show Rch _ _ _ _ _ 41 _ _ _; refine Rch.blk' (Rn_mono mt _) bl_X4_whatIs_41 (i_iload rfl (i_iload_n rfl (t_if_ne 52 47 rfl rfl (by first | exact hI_R | exact band_R | exact bor_R | exact bshr_R | exact lcm_R | omega) (fun hc => ?_) (fun hc => ?_)))) <;> (first | (exfalso; omega) | skip))
        | (show Rch _ _ _ _ _ 47 _ _ _; refine Rch.blk' (Rn_mono mt _) bl_X4_whatIs_47 (i_bipush k_8 (t_goto 54 rfl ?_)))
        | (show Rch _ _ _ _ _ 52 _ _ _; refine Rch.blk' (Rn_mono mt _) bl_X4_whatIs_52 (i_bipush k_10 (t_none ?_)))
        | (show Rch _ _ _ _ _ 54 _ _ _; refine Rch.blk' (Rn_mono mt _) bl_X4_whatIs_54 (t_ic_ge 108 57 rfl rfl (by first | exact hI_R | exact band_R | exact bor_R | exact bshr_R | exact lcm_R | omega) (by first | exact hI_R | exact band_R | exact bor_R | exact bshr_R | exact lcm_R | omega) (fun hc => ?_) (fun hc => ?_)) <;> (first | (exfalso; omega) | skip))
        | (show Rch _ _ _ _ _ 68 _ _ _; refine Rch.blk' (Rn_mono mt _) bl_X4_whatIs_68 (i_aload_n rfl (i_gfs rfl (i_iload_n rfl (i_iload_n rfl (t_cs2 (Rn_mono mt _) 77 rfl (Nat.le_of_ble_eq_true rfl) ?_))))))
        | (show Rch _ _ _ _ _ 77 _ _ _; refine Rch.blk' (Rn_mono mt _) bl_X4_whatIs_77 (i_iload rfl (i_iast rfl rfl (by omega) (by simp only [aln]; omega) (by simp only [aln]; omega) (i_iload rfl (i_aload_n rfl (i_iload_n rfl (i_iload_n rfl (t_cv3 (Rn_mono mt _) 88 rfl (Nat.le_of_ble_eq_true rfl) ?_))))))))
        | (show Rch _ _ _ _ _ 88 _ _ _; refine Rch.blk' (Rn_mono mt _) bl_X4_whatIs_88 (t_if_eq 98 91 rfl rfl (by first | exact hI_R | exact band_R | exact bor_R | exact bshr_R | exact lcm_R | omega) (fun hc => ?_) (fun hc => ?_)) <;> (first | (exfalso; omega) | skip))
        | (show Rch _ _ _ _ _ 91 _ _ _; refine Rch.blk' (Rn_mono mt _) bl_X4_whatIs_91 (i_iconst k_1 (i_iload rfl (i_ishl (t_goto 99 rfl ?_)))))
        | (show Rch _ _ _ _ _ 98 _ _ _; refine Rch.blk' (Rn_mono mt _) bl_X4_whatIs_98 (i_iconst k_0 (t_none ?_)))
        | (show Rch _ _ _ _ _ 99 _ _ _; refine Rch.blk' (Rn_mono mt _) bl_X4_whatIs_99 (i_ior (i_istore5 trivial (i_iinc6 trivial k_1 (t_goto 41 rfl ?_)))))
        | (show Rch _ _ _ _ _ 108 _ _ _; refine Rch.blk' (Rn_mono mt _) bl_X4_whatIs_108 (i_iload rfl (t_iret ?_))))
  have ky : ∀ u, u = rfu S x 2 → u = 0 → (0 ≤ p ∧ p < nn G) → (0 ≤ w ∧ w ≤ 1) → RH bX4_whatIs (d + 19) Q 41 [some (ar 3 0), some (ai (I x)), some (ai (I p)), some (ai (I w)), some (ai (I u)), some (ai (I 0)), some (ai (I 0))] h := fun u a1 a2 a4 a5 => by
    have := key (by omega) a4 a5 u a2 0 (by unfold wiM; omega) (by omega) h FrR.rf
    rw [BT_0 (C := wiC G S x p w)] at this
    exact this
  clear key hq
  repeat' (first
    | ((with_reducible refine ky _ ?_ ?_ ?_ ?_) <;> omega)
    | ((with_reducible refine k1 _ ?_ ?_) <;> omega)
    | ((with_reducible refine k2 _ ?_ ?_ ?_) <;> omega)
    | (show Rn _ _ 110 _ _ _; refine c_X4_isPiece (by assumption) (by assumption) (by first | omega | exact hI_R) (fun _ _ => ?_) (fun _ => ?_))
    | (show Rn _ _ 105 _ _ _; refine c_X4_isIn (by first | omega | exact hI_R) (by first | omega | exact hI_R) (by first | omega | exact hI_R) (fun _ _ => ?_) (fun _ => ?_))
    | (show Rn _ _ 146 _ _ _; refine c_X4_wrongRow (by assumption) (by assumption) (by omega) (fun _ _ _ _ => ?_))
    | (show Rn _ _ 109 _ _ _; refine c_X4_of ?_)
    | (show Rch _ _ _ _ _ 0 _ _ _; refine Rch.blk' (Rn_mono mt _) bl_X4_whatIs_0 (i_aload_n rfl (i_iload_n rfl (t_cv2 (Rn_mono mt _) 5 rfl (Nat.le_of_ble_eq_true rfl) ?_))))
    | (show Rch _ _ _ _ _ 5 _ _ _; refine Rch.blk' (Rn_mono mt _) bl_X4_whatIs_5 (t_if_eq 17 8 rfl rfl (by first | exact hI_R | exact band_R | exact bor_R | exact bshr_R | exact lcm_R | omega) (fun hc => ?_) (fun hc => ?_)) <;> (first | (exfalso; omega) | skip))
    | (show Rch _ _ _ _ _ 8 _ _ _; refine Rch.blk' (Rn_mono mt _) bl_X4_whatIs_8 (i_iload_n rfl (i_iconst k_0 (i_iconst k_1 (t_cs3 (Rn_mono mt _) 14 rfl (Nat.le_of_ble_eq_true rfl) ?_)))))
    | (show Rch _ _ _ _ _ 14 _ _ _; refine Rch.blk' (Rn_mono mt _) bl_X4_whatIs_14 (t_if_ne 19 17 rfl rfl (by first | exact hI_R | exact band_R | exact bor_R | exact bshr_R | exact lcm_R | omega) (fun hc => ?_) (fun hc => ?_)) <;> (first | (exfalso; omega) | skip))
    | (show Rch _ _ _ _ _ 17 _ _ _; refine Rch.blk' (Rn_mono mt _) bl_X4_whatIs_17 (i_iconst k_m1 (t_iret ?_)))
    | (show Rch _ _ _ _ _ 19 _ _ _; refine Rch.blk' (Rn_mono mt _) bl_X4_whatIs_19 (i_aload_n rfl (i_iload_n rfl (i_iconst k_m1 (t_cv3 (Rn_mono mt _) 25 rfl (Nat.le_of_ble_eq_true rfl) ?_)))))
    | (show Rch _ _ _ _ _ 25 _ _ _; refine Rch.blk' (Rn_mono mt _) bl_X4_whatIs_25 (i_istore4 trivial (i_iload rfl (t_if_eq 35 32 rfl rfl (by first | exact hI_R | exact band_R | exact bor_R | exact bshr_R | exact lcm_R | omega) (fun hc => ?_) (fun hc => ?_)))) <;> (first | (exfalso; omega) | skip))
    | (show Rch _ _ _ _ _ 32 _ _ _; refine Rch.blk' (Rn_mono mt _) bl_X4_whatIs_32 (i_iload rfl (t_iret ?_)))
    | (show Rch _ _ _ _ _ 35 _ _ _; refine Rch.blk' (Rn_mono mt _) bl_X4_whatIs_35 (i_iconst k_0 (i_istore5 trivial (i_iconst k_0 (i_istore6 trivial (t_none ?_))))))
    | (show Rch _ _ _ _ _ 47 _ _ _; refine Rch.blk' (Rn_mono mt _) bl_X4_whatIs_47 (i_bipush k_8 (t_goto 54 rfl ?_)))
    | (show Rch _ _ _ _ _ 52 _ _ _; refine Rch.blk' (Rn_mono mt _) bl_X4_whatIs_52 (i_bipush k_10 (t_none ?_)))
    | (show Rch _ _ _ _ _ 54 _ _ _; refine Rch.blk' (Rn_mono mt _) bl_X4_whatIs_54 (t_ic_ge 108 57 rfl rfl (by first | exact hI_R | exact band_R | exact bor_R | exact bshr_R | exact lcm_R | omega) (by first | exact hI_R | exact band_R | exact bor_R | exact bshr_R | exact lcm_R | omega) (fun hc => ?_) (fun hc => ?_)) <;> (first | (exfalso; omega) | skip))
    | (show Rch _ _ _ _ _ 57 _ _ _; refine Rch.blk' (Rn_mono mt _) bl_X4_whatIs_57 (i_aload_n rfl (i_gfs rfl (i_aload_n rfl (i_gfs rfl (t_cs2 (Rn_mono mt _) 68 rfl (Nat.le_of_ble_eq_true rfl) ?_))))))
    | (show Rch _ _ _ _ _ 68 _ _ _; refine Rch.blk' (Rn_mono mt _) bl_X4_whatIs_68 (i_aload_n rfl (i_gfs rfl (i_iload_n rfl (i_iload_n rfl (t_cs2 (Rn_mono mt _) 77 rfl (Nat.le_of_ble_eq_true rfl) ?_))))))
    | (show Rch _ _ _ _ _ 77 _ _ _; refine Rch.blk' (Rn_mono mt _) bl_X4_whatIs_77 (i_iload rfl (i_iast rfl rfl (by omega) (by simp only [aln]; omega) (by simp only [aln]; omega) (i_iload rfl (i_aload_n rfl (i_iload_n rfl (i_iload_n rfl (t_cv3 (Rn_mono mt _) 88 rfl (Nat.le_of_ble_eq_true rfl) ?_))))))))
    | (show Rch _ _ _ _ _ 88 _ _ _; refine Rch.blk' (Rn_mono mt _) bl_X4_whatIs_88 (t_if_eq 98 91 rfl rfl (by first | exact hI_R | exact band_R | exact bor_R | exact bshr_R | exact lcm_R | omega) (fun hc => ?_) (fun hc => ?_)) <;> (first | (exfalso; omega) | skip))
    | (show Rch _ _ _ _ _ 91 _ _ _; refine Rch.blk' (Rn_mono mt _) bl_X4_whatIs_91 (i_iconst k_1 (i_iload rfl (i_ishl (t_goto 99 rfl ?_)))))
    | (show Rch _ _ _ _ _ 98 _ _ _; refine Rch.blk' (Rn_mono mt _) bl_X4_whatIs_98 (i_iconst k_0 (t_none ?_)))
    | (show Rch _ _ _ _ _ 99 _ _ _; refine Rch.blk' (Rn_mono mt _) bl_X4_whatIs_99 (i_ior (i_istore5 trivial (i_iinc6 trivial k_1 (t_goto 41 rfl ?_)))))
    | (show Rch _ _ _ _ _ 108 _ _ _; refine Rch.blk' (Rn_mono mt _) bl_X4_whatIs_108 (i_iload rfl (t_iret ?_))))
end C31

