/-! EARS and QUIET: both sides -/
noncomputable def vEars (G : Bd) (p o : Int) : Int := if (0 ≤ p ∧ p < nn G) ∧ (0 ≤ o ∧ o < nn G) ∧ ¬ p = o then (if sq G p < 36 ∧ sq G o < 36 ∧ sd G p = sd G o then fst1 (fun f => fr (sq G p) (sq G o) ≤ ea (kd G p) f) 10 else -4) else -1
abbrev QC (G : Bd) (y i : Int) : Prop := sq G i < 36 ∧ ide G i y = -4
section C15
variable {d : Nat} {h : Mem} {Q : Option AV → Mem → Prop} {b : Nat} {G : Bd}
theorem c_X3_ears (hG : RC h 0 G) (hO : OKB G) {p o : Int} (hp : inR p) (hoR : inR o) (hq : ∀ v h', v = vEars G p o → JX h h' → Q (some (ai (I v))) h') : Rn mt (d + 20) 80 [ar 2 0, ai (I p), ai (I o)] h Q := by
  refine Rn.intro iX3_ears rfl rfl ?_
  show Rch bX3_ears _ _ _ _ 0 [some (ar 2 0), some (ai (I p)), some (ai (I o)), none] [] _
  have e_q := @RC.q _ _ _ hG
  have e_s := @RC.s _ _ _ hG
  have e_k := @RC.k _ _ _ hG
  have g_n := hO.n
  have g_p := hO.pc p
  have g_o := hO.pc o
  have k1 : ∀ u, u = -1 → ¬ ((0 ≤ p ∧ p < nn G) ∧ (0 ≤ o ∧ o < nn G) ∧ ¬ p = o) → Q (some (ai (I u))) h := fun u e a => hq _ _ (by unfold vEars; rw [if_neg a]; exact e) JX.rf
  have k2 : ∀ u, u = -4 → ((0 ≤ p ∧ p < nn G) ∧ (0 ≤ o ∧ o < nn G) ∧ ¬ p = o) → ¬ (sq G p < 36 ∧ sq G o < 36 ∧ sd G p = sd G o) → Q (some (ai (I u))) h := fun u e a c => hq _ _ (by unfold vEars; rw [if_pos a, if_neg c]; exact e) JX.rf
  have key : ((0 ≤ p ∧ p < nn G) ∧ (0 ≤ o ∧ o < nn G) ∧ ¬ p = o) → (sq G p < 36 ∧ sq G o < 36 ∧ sd G p = sd G o) → ∀ k : Int, k ≤ 10 → 0 ≤ k → (∀ j : Int, 0 ≤ j → j < k → ¬ fr (sq G p) (sq G o) ≤ ea (kd G p) j) → RH bX3_ears (d + 19) Q 77 [some (ar 2 0), some (ai (I p)), some (ai (I o)), some (ai (I k))] h := by
    intro a c
    refine up_ind (fun k hk ih hk0 hn => ?_)
    have kE : ∀ u, u = -4 → 10 ≤ k → Q (some (ai (I u))) h := fun u e z => hq _ _ (by unfold vEars; rw [if_pos a, if_pos c, e]; exact (fst_no (fun j j0 j1 => hn j j0 (by omega))).symm) JX.rf
    have kH : ∀ _u : Unit, k < 10 → fr (sq G p) (sq G o) ≤ ea (kd G p) k → Q (some (ai (I k))) h := fun _ z e => hq _ _ (by unfold vEars; rw [if_pos a, if_pos c]; exact (fst_is hk0 z e hn).symm) JX.rf
    have ih2 : ∀ _u : Unit, k < 10 → ¬ fr (sq G p) (sq G o) ≤ ea (kd G p) k → RH bX3_ears (d + 19) Q 77 [some (ar 2 0), some (ai (I p)), some (ai (I o)), some (ai (I (k + 1)))] h := fun _ z e => ih z (by omega) (no_up hn e)
    clear ih hn
    refine Rch.blk' (Rn_mono mt _) bl_X3_ears_77 (i_iload_n rfl (i_bipush k_10 (t_ic_ge 128 83 rfl rfl (by first | exact hI_R | exact band_R | exact bor_R | exact bshr_R | exact lcm_R | omega) (by first | exact hI_R | exact band_R | exact bor_R | exact bshr_R | exact lcm_R | omega) (fun hc => ?_) (fun hc => ?_)))) <;> (first | (exfalso; omega) | skip)
    repeat' (first
      | exact kE _ (by omega) (by omega)
      | exact kH () (by omega) (by omega)
      | exact ih2 () (by omega) (by omega)
      | (show Rn _ _ 1 _ _ _; refine c_X0_has (by assumption) (by assumption) (by first | omega | exact hI_R) (fun _ _ => ?_) (fun _ => ?_))
      | (show Rn _ _ 2 _ _ _; refine c_X0_isThere (by assumption) (by assumption) (by first | omega | exact hI_R) (fun _ _ _ _ => ?_) (fun _ => ?_))
      | (show Rn _ _ 22 _ _ _; refine c_X3_far (by omega) (by omega) (by omega) (by omega) (fun _ _ => ?_))
      | (show Rn _ _ 26 _ _ _; refine c_X1_earsWith (by omega) (by omega) (by omega) (fun _ _ => ?_))
      | (show Rch _ _ _ _ _ 0 _ _ _; refine Rch.blk' (Rn_mono mt _) bl_X3_ears_0 (i_aload_n rfl (i_gfs rfl (i_iload_n rfl (t_cv2 (Rn_mono mt _) 8 rfl (Nat.le_of_ble_eq_true rfl) ?_)))) <;> (try (simp (disch := omega) only [e_q, e_k])))
      | (show Rch _ _ _ _ _ 8 _ _ _; refine Rch.blk' (Rn_mono mt _) bl_X3_ears_8 (t_if_eq 27 11 rfl rfl (by first | exact hI_R | exact band_R | exact bor_R | exact bshr_R | exact lcm_R | omega | (simp (disch := omega) only [e_q, e_k]; omega)) (fun hc => ?_) (fun hc => ?_)) <;> (first | (exfalso; omega) | skip))
      | (show Rch _ _ _ _ _ 11 _ _ _; refine Rch.blk' (Rn_mono mt _) bl_X3_ears_11 (i_aload_n rfl (i_gfs rfl (i_iload_n rfl (t_cv2 (Rn_mono mt _) 19 rfl (Nat.le_of_ble_eq_true rfl) ?_)))) <;> (try (simp (disch := omega) only [e_q, e_k])))
      | (show Rch _ _ _ _ _ 19 _ _ _; refine Rch.blk' (Rn_mono mt _) bl_X3_ears_19 (t_if_eq 27 22 rfl rfl (by first | exact hI_R | exact band_R | exact bor_R | exact bshr_R | exact lcm_R | omega | (simp (disch := omega) only [e_q, e_k]; omega)) (fun hc => ?_) (fun hc => ?_)) <;> (first | (exfalso; omega) | skip))
      | (show Rch _ _ _ _ _ 22 _ _ _; refine Rch.blk' (Rn_mono mt _) bl_X3_ears_22 (i_iload_n rfl (i_iload_n rfl (t_ic_ne 29 27 rfl rfl (by first | exact hI_R | exact band_R | exact bor_R | exact bshr_R | exact lcm_R | omega | (simp (disch := omega) only [e_q, e_k]; omega)) (by first | exact hI_R | exact band_R | exact bor_R | exact bshr_R | exact lcm_R | omega | (simp (disch := omega) only [e_q, e_k]; omega)) (fun hc => ?_) (fun hc => ?_)))) <;> (first | (exfalso; omega) | skip))
      | (show Rch _ _ _ _ _ 27 _ _ _; refine Rch.blk' (Rn_mono mt _) bl_X3_ears_27 (i_iconst k_m1 (t_iret ?_)))
      | (show Rch _ _ _ _ _ 29 _ _ _; refine Rch.blk' (Rn_mono mt _) bl_X3_ears_29 (i_aload_n rfl (i_gfs rfl (i_iload_n rfl (t_cv2 (Rn_mono mt _) 37 rfl (Nat.le_of_ble_eq_true rfl) ?_)))) <;> (try (simp (disch := omega) only [e_q, e_k])))
      | (show Rch _ _ _ _ _ 37 _ _ _; refine Rch.blk' (Rn_mono mt _) bl_X3_ears_37 (t_if_eq 72 40 rfl rfl (by first | exact hI_R | exact band_R | exact bor_R | exact bshr_R | exact lcm_R | omega | (simp (disch := omega) only [e_q, e_k]; omega)) (fun hc => ?_) (fun hc => ?_)) <;> (first | (exfalso; omega) | skip))
      | (show Rch _ _ _ _ _ 40 _ _ _; refine Rch.blk' (Rn_mono mt _) bl_X3_ears_40 (i_aload_n rfl (i_gfs rfl (i_iload_n rfl (t_cv2 (Rn_mono mt _) 48 rfl (Nat.le_of_ble_eq_true rfl) ?_)))) <;> (try (simp (disch := omega) only [e_q, e_k])))
      | (show Rch _ _ _ _ _ 48 _ _ _; refine Rch.blk' (Rn_mono mt _) bl_X3_ears_48 (t_if_eq 72 51 rfl rfl (by first | exact hI_R | exact band_R | exact bor_R | exact bshr_R | exact lcm_R | omega | (simp (disch := omega) only [e_q, e_k]; omega)) (fun hc => ?_) (fun hc => ?_)) <;> (first | (exfalso; omega) | skip))
      | (show Rch _ _ _ _ _ 51 _ _ _; refine Rch.blk' (Rn_mono mt _) bl_X3_ears_51 (i_aload_n rfl (i_gfs rfl (i_gfr rfl (i_iload_n rfl (i_iald (n := 10) rfl (by first | omega | (simp (disch := omega) only [e_q, e_k]; omega)) (by first | omega | (simp (disch := omega) only [e_q, e_k]; omega)) (by first | omega | (simp (disch := omega) only [e_q, e_k]; omega)) (i_aload_n rfl (i_gfs rfl (i_gfr rfl (i_iload_n rfl (i_iald (n := 10) rfl (by first | omega | (simp (disch := omega) only [e_q, e_k]; omega)) (by first | omega | (simp (disch := omega) only [e_q, e_k]; omega)) (by first | omega | (simp (disch := omega) only [e_q, e_k]; omega)) (t_ic_eq 75 72 rfl rfl (by first | exact hI_R | exact band_R | exact bor_R | exact bshr_R | exact lcm_R | omega | (simp (disch := omega) only [e_q, e_k]; omega)) (by first | exact hI_R | exact band_R | exact bor_R | exact bshr_R | exact lcm_R | omega | (simp (disch := omega) only [e_q, e_k]; omega)) (fun hc => ?_) (fun hc => ?_)))))))))))) <;> (try (simp (disch := omega) only [e_q, e_k] at hc ⊢)) <;> (first | (exfalso; omega) | skip))
      | (show Rch _ _ _ _ _ 72 _ _ _; refine Rch.blk' (Rn_mono mt _) bl_X3_ears_72 (i_bipush k_m4 (t_iret ?_)))
      | (show Rch _ _ _ _ _ 75 _ _ _; refine Rch.blk' (Rn_mono mt _) bl_X3_ears_75 (i_iconst k_0 (i_istore3 trivial (t_none ?_))))
      | (show Rch _ _ _ _ _ 83 _ _ _; refine Rch.blk' (Rn_mono mt _) bl_X3_ears_83 (i_aload_n rfl (i_gfs rfl (i_gfr rfl (i_iload_n rfl (i_iald (n := 10) rfl (by first | omega | (simp (disch := omega) only [e_q, e_k]; omega)) (by first | omega | (simp (disch := omega) only [e_q, e_k]; omega)) (by first | omega | (simp (disch := omega) only [e_q, e_k]; omega)) (i_aload_n rfl (i_gfs rfl (i_gfr rfl (i_iload_n rfl (i_iald (n := 10) rfl (by first | omega | (simp (disch := omega) only [e_q, e_k]; omega)) (by first | omega | (simp (disch := omega) only [e_q, e_k]; omega)) (by first | omega | (simp (disch := omega) only [e_q, e_k]; omega)) (t_cs2 (Rn_mono mt _) 104 rfl (Nat.le_of_ble_eq_true rfl) ?_))))))))))) <;> (try (simp (disch := omega) only [e_q, e_k])))
      | (show Rch _ _ _ _ _ 104 _ _ _; refine Rch.blk' (Rn_mono mt _) bl_X3_ears_104 (i_aload_n rfl (i_gfs rfl (i_gfr rfl (i_iload_n rfl (i_iald (n := 10) rfl (by first | omega | (simp (disch := omega) only [e_q, e_k]; omega)) (by first | omega | (simp (disch := omega) only [e_q, e_k]; omega)) (by first | omega | (simp (disch := omega) only [e_q, e_k]; omega)) (i_iload_n rfl (t_cs2 (Rn_mono mt _) 117 rfl (Nat.le_of_ble_eq_true rfl) ?_))))))) <;> (try (simp (disch := omega) only [e_q, e_k])))
      | (show Rch _ _ _ _ _ 117 _ _ _; refine Rch.blk' (Rn_mono mt _) bl_X3_ears_117 (t_ic_gt 122 120 rfl rfl (by first | exact hI_R | exact band_R | exact bor_R | exact bshr_R | exact lcm_R | omega | (simp (disch := omega) only [e_q, e_k]; omega)) (by first | exact hI_R | exact band_R | exact bor_R | exact bshr_R | exact lcm_R | omega | (simp (disch := omega) only [e_q, e_k]; omega)) (fun hc => ?_) (fun hc => ?_)) <;> (first | (exfalso; omega) | skip))
      | (show Rch _ _ _ _ _ 120 _ _ _; refine Rch.blk' (Rn_mono mt _) bl_X3_ears_120 (i_iload_n rfl (t_iret ?_)))
      | (show Rch _ _ _ _ _ 122 _ _ _; refine Rch.blk' (Rn_mono mt _) bl_X3_ears_122 (i_iinc3 trivial k_1 (t_goto 77 rfl ?_)))
      | (show Rch _ _ _ _ _ 128 _ _ _; refine Rch.blk' (Rn_mono mt _) bl_X3_ears_128 (i_bipush k_m4 (t_iret ?_))))
  repeat' (first
    | exact key (by omega) (by omega) 0 (by omega) (by omega) (fun j _ _ => by omega)
    | exact k1 _ (by omega) (by omega)
    | exact k2 _ (by omega) (by omega) (by omega)
    | (show Rn _ _ 1 _ _ _; refine c_X0_has (by assumption) (by assumption) (by first | omega | exact hI_R) (fun _ _ => ?_) (fun _ => ?_))
    | (show Rn _ _ 2 _ _ _; refine c_X0_isThere (by assumption) (by assumption) (by first | omega | exact hI_R) (fun _ _ _ _ => ?_) (fun _ => ?_))
    | (show Rn _ _ 22 _ _ _; refine c_X3_far (by omega) (by omega) (by omega) (by omega) (fun _ _ => ?_))
    | (show Rn _ _ 26 _ _ _; refine c_X1_earsWith (by omega) (by omega) (by omega) (fun _ _ => ?_))
    | (show Rch _ _ _ _ _ 0 _ _ _; refine Rch.blk' (Rn_mono mt _) bl_X3_ears_0 (i_aload_n rfl (i_gfs rfl (i_iload_n rfl (t_cv2 (Rn_mono mt _) 8 rfl (Nat.le_of_ble_eq_true rfl) ?_)))) <;> (try (simp (disch := omega) only [e_s])))
    | (show Rch _ _ _ _ _ 8 _ _ _; refine Rch.blk' (Rn_mono mt _) bl_X3_ears_8 (t_if_eq 27 11 rfl rfl (by first | exact hI_R | exact band_R | exact bor_R | exact bshr_R | exact lcm_R | omega | (simp (disch := omega) only [e_s]; omega)) (fun hc => ?_) (fun hc => ?_)) <;> (first | (exfalso; omega) | skip))
    | (show Rch _ _ _ _ _ 11 _ _ _; refine Rch.blk' (Rn_mono mt _) bl_X3_ears_11 (i_aload_n rfl (i_gfs rfl (i_iload_n rfl (t_cv2 (Rn_mono mt _) 19 rfl (Nat.le_of_ble_eq_true rfl) ?_)))) <;> (try (simp (disch := omega) only [e_s])))
    | (show Rch _ _ _ _ _ 19 _ _ _; refine Rch.blk' (Rn_mono mt _) bl_X3_ears_19 (t_if_eq 27 22 rfl rfl (by first | exact hI_R | exact band_R | exact bor_R | exact bshr_R | exact lcm_R | omega | (simp (disch := omega) only [e_s]; omega)) (fun hc => ?_) (fun hc => ?_)) <;> (first | (exfalso; omega) | skip))
    | (show Rch _ _ _ _ _ 22 _ _ _; refine Rch.blk' (Rn_mono mt _) bl_X3_ears_22 (i_iload_n rfl (i_iload_n rfl (t_ic_ne 29 27 rfl rfl (by first | exact hI_R | exact band_R | exact bor_R | exact bshr_R | exact lcm_R | omega | (simp (disch := omega) only [e_s]; omega)) (by first | exact hI_R | exact band_R | exact bor_R | exact bshr_R | exact lcm_R | omega | (simp (disch := omega) only [e_s]; omega)) (fun hc => ?_) (fun hc => ?_)))) <;> (first | (exfalso; omega) | skip))
    | (show Rch _ _ _ _ _ 27 _ _ _; refine Rch.blk' (Rn_mono mt _) bl_X3_ears_27 (i_iconst k_m1 (t_iret ?_)))
    | (show Rch _ _ _ _ _ 29 _ _ _; refine Rch.blk' (Rn_mono mt _) bl_X3_ears_29 (i_aload_n rfl (i_gfs rfl (i_iload_n rfl (t_cv2 (Rn_mono mt _) 37 rfl (Nat.le_of_ble_eq_true rfl) ?_)))) <;> (try (simp (disch := omega) only [e_s])))
    | (show Rch _ _ _ _ _ 37 _ _ _; refine Rch.blk' (Rn_mono mt _) bl_X3_ears_37 (t_if_eq 72 40 rfl rfl (by first | exact hI_R | exact band_R | exact bor_R | exact bshr_R | exact lcm_R | omega | (simp (disch := omega) only [e_s]; omega)) (fun hc => ?_) (fun hc => ?_)) <;> (first | (exfalso; omega) | skip))
    | (show Rch _ _ _ _ _ 40 _ _ _; refine Rch.blk' (Rn_mono mt _) bl_X3_ears_40 (i_aload_n rfl (i_gfs rfl (i_iload_n rfl (t_cv2 (Rn_mono mt _) 48 rfl (Nat.le_of_ble_eq_true rfl) ?_)))) <;> (try (simp (disch := omega) only [e_s])))
    | (show Rch _ _ _ _ _ 48 _ _ _; refine Rch.blk' (Rn_mono mt _) bl_X3_ears_48 (t_if_eq 72 51 rfl rfl (by first | exact hI_R | exact band_R | exact bor_R | exact bshr_R | exact lcm_R | omega | (simp (disch := omega) only [e_s]; omega)) (fun hc => ?_) (fun hc => ?_)) <;> (first | (exfalso; omega) | skip))
    | (show Rch _ _ _ _ _ 51 _ _ _; refine Rch.blk' (Rn_mono mt _) bl_X3_ears_51 (i_aload_n rfl (i_gfs rfl (i_gfr rfl (i_iload_n rfl (i_iald (n := 10) rfl (by first | omega | (simp (disch := omega) only [e_s]; omega)) (by first | omega | (simp (disch := omega) only [e_s]; omega)) (by first | omega | (simp (disch := omega) only [e_s]; omega)) (i_aload_n rfl (i_gfs rfl (i_gfr rfl (i_iload_n rfl (i_iald (n := 10) rfl (by first | omega | (simp (disch := omega) only [e_s]; omega)) (by first | omega | (simp (disch := omega) only [e_s]; omega)) (by first | omega | (simp (disch := omega) only [e_s]; omega)) (t_ic_eq 75 72 rfl rfl (by first | exact hI_R | exact band_R | exact bor_R | exact bshr_R | exact lcm_R | omega | (simp (disch := omega) only [e_s]; omega)) (by first | exact hI_R | exact band_R | exact bor_R | exact bshr_R | exact lcm_R | omega | (simp (disch := omega) only [e_s]; omega)) (fun hc => ?_) (fun hc => ?_)))))))))))) <;> (try (simp (disch := omega) only [e_s] at hc ⊢)) <;> (first | (exfalso; omega) | skip))
    | (show Rch _ _ _ _ _ 72 _ _ _; refine Rch.blk' (Rn_mono mt _) bl_X3_ears_72 (i_bipush k_m4 (t_iret ?_)))
    | (show Rch _ _ _ _ _ 75 _ _ _; refine Rch.blk' (Rn_mono mt _) bl_X3_ears_75 (i_iconst k_0 (i_istore3 trivial (t_none ?_))))
    | (show Rch _ _ _ _ _ 83 _ _ _; refine Rch.blk' (Rn_mono mt _) bl_X3_ears_83 (i_aload_n rfl (i_gfs rfl (i_gfr rfl (i_iload_n rfl (i_iald (n := 10) rfl (by first | omega | (simp (disch := omega) only [e_s]; omega)) (by first | omega | (simp (disch := omega) only [e_s]; omega)) (by first | omega | (simp (disch := omega) only [e_s]; omega)) (i_aload_n rfl (i_gfs rfl (i_gfr rfl (i_iload_n rfl (i_iald (n := 10) rfl (by first | omega | (simp (disch := omega) only [e_s]; omega)) (by first | omega | (simp (disch := omega) only [e_s]; omega)) (by first | omega | (simp (disch := omega) only [e_s]; omega)) (t_cs2 (Rn_mono mt _) 104 rfl (Nat.le_of_ble_eq_true rfl) ?_))))))))))) <;> (try (simp (disch := omega) only [e_s])))
    | (show Rch _ _ _ _ _ 104 _ _ _; refine Rch.blk' (Rn_mono mt _) bl_X3_ears_104 (i_aload_n rfl (i_gfs rfl (i_gfr rfl (i_iload_n rfl (i_iald (n := 10) rfl (by first | omega | (simp (disch := omega) only [e_s]; omega)) (by first | omega | (simp (disch := omega) only [e_s]; omega)) (by first | omega | (simp (disch := omega) only [e_s]; omega)) (i_iload_n rfl (t_cs2 (Rn_mono mt _) 117 rfl (Nat.le_of_ble_eq_true rfl) ?_))))))) <;> (try (simp (disch := omega) only [e_s])))
    | (show Rch _ _ _ _ _ 117 _ _ _; refine Rch.blk' (Rn_mono mt _) bl_X3_ears_117 (t_ic_gt 122 120 rfl rfl (by first | exact hI_R | exact band_R | exact bor_R | exact bshr_R | exact lcm_R | omega | (simp (disch := omega) only [e_s]; omega)) (by first | exact hI_R | exact band_R | exact bor_R | exact bshr_R | exact lcm_R | omega | (simp (disch := omega) only [e_s]; omega)) (fun hc => ?_) (fun hc => ?_)) <;> (first | (exfalso; omega) | skip))
    | (show Rch _ _ _ _ _ 120 _ _ _; refine Rch.blk' (Rn_mono mt _) bl_X3_ears_120 (i_iload_n rfl (t_iret ?_)))
    | (show Rch _ _ _ _ _ 122 _ _ _; refine Rch.blk' (Rn_mono mt _) bl_X3_ears_122 (i_iinc3 trivial k_1 (t_goto 77 rfl ?_)))
    | (show Rch _ _ _ _ _ 128 _ _ _; refine Rch.blk' (Rn_mono mt _) bl_X3_ears_128 (i_bipush k_m4 (t_iret ?_))))
theorem c_X4_ears (hG : RR h 0 G no0 0) (hO : OKB G) {p o : Int} (hp : inR p) (hoR : inR o) (hq : ∀ v h', v = vEars G p o → JY h h' → Q (some (ai (I v))) h') : Rn mt (d + 20) 172 [ar 3 0, ai (I p), ai (I o)] h Q := by
  refine Rn.intro iX4_ears rfl rfl ?_
  show Rch bX4_ears _ _ _ _ 0 [some (ar 3 0), some (ai (I p)), some (ai (I o)), none] [] _
  have g_n := hO.n
  have k1 : ∀ u, u = -1 → ¬ ((0 ≤ p ∧ p < nn G) ∧ (0 ≤ o ∧ o < nn G) ∧ ¬ p = o) → Q (some (ai (I u))) h := fun u e a => hq _ _ (by unfold vEars; rw [if_neg a]; exact e) JY.rf
  have key : ((0 ≤ p ∧ p < nn G) ∧ (0 ≤ o ∧ o < nn G) ∧ ¬ p = o) → ∀ k : Int, k ≤ 10 → 0 ≤ k → (∀ j : Int, 0 ≤ j → j < k → ¬ ((sq G p < 36 ∧ sq G o < 36 ∧ sd G p = sd G o) ∧ fr (sq G p) (sq G o) ≤ ea (kd G p) j)) → ∀ h', FrR h h' 1 → RH bX4_ears (d + 19) Q 13 [some (ar 3 0), some (ai (I p)), some (ai (I o)), some (ai (I k))] h' := by
    intro a
    refine up_ind (fun k hk ih hk0 hn h' hF => ?_)
    have hR := hG.fr hF (by decide)
    have kE : ∀ u, u = -4 → 10 ≤ k → Q (some (ai (I u))) h' := fun u e z => hq _ _ (by
      unfold vEars
      rw [if_pos a, e]
      split
      · rename_i c
        exact (fst_no (fun j j0 j1 q => hn j j0 (by omega) ⟨c, q⟩)).symm
      · rfl) (hF.jy (by omega))
    have kH : ∀ h2, FrR h' h2 1 → k < 10 → (sq G p < 36 ∧ sq G o < 36 ∧ sd G p = sd G o) → fr (sq G p) (sq G o) ≤ ea (kd G p) k → Q (some (ai (I k))) h2 := fun h2 hF2 z c e => hq _ _ (by unfold vEars; rw [if_pos a, if_pos c]; exact (fst_is hk0 z e (fun j j0 j1 q => hn j j0 j1 ⟨c, q⟩)).symm) ((hF.tr hF2).jy (by omega))
    have ih2 : ∀ h2, FrR h' h2 1 → k < 10 → ¬ ((sq G p < 36 ∧ sq G o < 36 ∧ sd G p = sd G o) ∧ fr (sq G p) (sq G o) ≤ ea (kd G p) k) → RH bX4_ears (d + 19) Q 13 [some (ar 3 0), some (ai (I p)), some (ai (I o)), some (ai (I (k + 1)))] h2 := fun h2 hF2 z e => ih z (by omega) (no_up hn e) h2 (hF.tr hF2)
    clear ih hn
    have g_er : er (stk G p (kd G p) k) 0 p = ea (kd G p) k := by
      show (if (0 : Int) = 0 then ea (if p = p then kd G p else kd G p) (if p = p then k else fg G p) else 1) = _
      rw [if_pos rfl, if_pos rfl, if_pos rfl]
    by_cases hk1 : k < 10
    · have hO2 : OKB (stk G p (kd G p) k) := OKB_stk hO (hO.pc p (by omega) (by omega)).1 ⟨hk0, hk1⟩
      have hmid : ∀ h2, RR h2 1 (stk G p (kd G p) k) no0 0 → FrR h' h2 1 → Rn mt (d + 19) 131 [ar 12 1, ai (I p), ai (I o)] h2 (kc (fun st h => Rch bX4_ears (Rn mt (d + 19)) 0 (fun _ _ _ _ => False) Q 50 [some (ar 3 0), some (ai (I p)), some (ai (I o)), some (ai (I k))] st h) []) := by
        intro h2 hR2 hF2
        refine c_X4_doesHear hR2 hO2 (Or.inl rfl) (by omega) a.1.2 (by omega) a.2.1.2 (fun hd => ?_) (fun hd => ?_)
        · have hd : p = o ∨ (sq G o < 36 ∧ sd G p = sd G o ∧ sq G p < 36 ∧ fr (sq G p) (sq G o) ≤ er (stk G p (kd G p) k) 0 p) := hd
          rw [g_er] at hd
          have kk := kH h2 hF2 hk1
          repeat' (first
            | exact kk (by omega) (by omega)
            | (show Rn _ _ 111 _ _ _; refine c_X4_areTwo (by assumption) (by assumption) (by first | omega | exact hI_R) (by first | omega | exact hI_R) (fun _ _ _ _ _ => ?_) (fun _ => ?_))
            | (show Rn _ _ 109 _ _ _; refine c_X4_of ?_)
            | (show Rn _ _ 131 _ _ _; refine c_X4_doesHear (by assumption) (by assumption) (by omega) (by omega) (by omega) (by omega) (by omega) (fun _ => ?_) (fun _ => ?_))
            | (show Rch _ _ _ _ _ 0 _ _ _; refine Rch.blk' (Rn_mono mt _) bl_X4_ears_0 (i_aload_n rfl (i_iload_n rfl (i_iload_n rfl (t_cv3 (Rn_mono mt _) 6 rfl (Nat.le_of_ble_eq_true rfl) ?_)))))
            | (show Rch _ _ _ _ _ 6 _ _ _; refine Rch.blk' (Rn_mono mt _) bl_X4_ears_6 (t_if_ne 11 9 rfl rfl (by first | exact hI_R | exact band_R | exact bor_R | exact bshr_R | exact lcm_R | omega) (fun hc => ?_) (fun hc => ?_)) <;> (first | (exfalso; omega) | skip))
            | (show Rch _ _ _ _ _ 9 _ _ _; refine Rch.blk' (Rn_mono mt _) bl_X4_ears_9 (i_iconst k_m1 (t_iret ?_)))
            | (show Rch _ _ _ _ _ 11 _ _ _; refine Rch.blk' (Rn_mono mt _) bl_X4_ears_11 (i_iconst k_0 (i_istore3 trivial (t_none ?_))))
            | (show Rch _ _ _ _ _ 19 _ _ _; refine Rch.blk' (Rn_mono mt _) bl_X4_ears_19 (i_aload_n rfl (i_gfs rfl (i_aload_n rfl (i_gfs rfl (t_cs2 (Rn_mono mt _) 30 rfl (Nat.le_of_ble_eq_true rfl) ?_))))))
            | (show Rch _ _ _ _ _ 30 _ _ _; refine Rch.blk' (Rn_mono mt _) bl_X4_ears_30 (i_aload_n rfl (i_gfs rfl (i_iload_n rfl (i_iconst k_1 (t_cs2 (Rn_mono mt _) 39 rfl (Nat.le_of_ble_eq_true rfl) ?_))))))
            | (show Rch _ _ _ _ _ 39 _ _ _; refine Rch.blk' (Rn_mono mt _) bl_X4_ears_39 (i_iload_n rfl (i_iast rfl rfl (by omega) (by simp only [aln]; omega) (by simp only [aln]; omega) (i_aload_n rfl (i_gfs rfl (i_iload_n rfl (i_iload_n rfl (t_cs3 (Rn_mono mt _) 50 rfl (Nat.le_of_ble_eq_true rfl) ?_))))))))
            | (show Rch _ _ _ _ _ 50 _ _ _; refine Rch.blk' (Rn_mono mt _) bl_X4_ears_50 (t_if_eq 55 53 rfl rfl (by first | exact hI_R | exact band_R | exact bor_R | exact bshr_R | exact lcm_R | omega) (fun hc => ?_) (fun hc => ?_)) <;> (first | (exfalso; omega) | skip))
            | (show Rch _ _ _ _ _ 53 _ _ _; refine Rch.blk' (Rn_mono mt _) bl_X4_ears_53 (i_iload_n rfl (t_iret ?_)))
            | (show Rch _ _ _ _ _ 55 _ _ _; refine Rch.blk' (Rn_mono mt _) bl_X4_ears_55 (i_iinc3 trivial k_1 (t_goto 13 rfl ?_)))
            | (show Rch _ _ _ _ _ 61 _ _ _; refine Rch.blk' (Rn_mono mt _) bl_X4_ears_61 (i_bipush k_m4 (t_iret ?_))))
        · have hd : ¬ (p = o ∨ (sq G o < 36 ∧ sd G p = sd G o ∧ sq G p < 36 ∧ fr (sq G p) (sq G o) ≤ er (stk G p (kd G p) k) 0 p)) := hd
          rw [g_er] at hd
          have kk := ih2 h2 hF2 hk1 (by omega)
          repeat' (first
            | exact kk
            | (show Rn _ _ 111 _ _ _; refine c_X4_areTwo (by assumption) (by assumption) (by first | omega | exact hI_R) (by first | omega | exact hI_R) (fun _ _ _ _ _ => ?_) (fun _ => ?_))
            | (show Rn _ _ 109 _ _ _; refine c_X4_of ?_)
            | (show Rn _ _ 131 _ _ _; refine c_X4_doesHear (by assumption) (by assumption) (by omega) (by omega) (by omega) (by omega) (by omega) (fun _ => ?_) (fun _ => ?_))
            | (show Rch _ _ _ _ _ 0 _ _ _; refine Rch.blk' (Rn_mono mt _) bl_X4_ears_0 (i_aload_n rfl (i_iload_n rfl (i_iload_n rfl (t_cv3 (Rn_mono mt _) 6 rfl (Nat.le_of_ble_eq_true rfl) ?_)))))
            | (show Rch _ _ _ _ _ 6 _ _ _; refine Rch.blk' (Rn_mono mt _) bl_X4_ears_6 (t_if_ne 11 9 rfl rfl (by first | exact hI_R | exact band_R | exact bor_R | exact bshr_R | exact lcm_R | omega) (fun hc => ?_) (fun hc => ?_)) <;> (first | (exfalso; omega) | skip))
            | (show Rch _ _ _ _ _ 9 _ _ _; refine Rch.blk' (Rn_mono mt _) bl_X4_ears_9 (i_iconst k_m1 (t_iret ?_)))
            | (show Rch _ _ _ _ _ 11 _ _ _; refine Rch.blk' (Rn_mono mt _) bl_X4_ears_11 (i_iconst k_0 (i_istore3 trivial (t_none ?_))))
            | (show Rch _ _ _ _ _ 19 _ _ _; refine Rch.blk' (Rn_mono mt _) bl_X4_ears_19 (i_aload_n rfl (i_gfs rfl (i_aload_n rfl (i_gfs rfl (t_cs2 (Rn_mono mt _) 30 rfl (Nat.le_of_ble_eq_true rfl) ?_))))))
            | (show Rch _ _ _ _ _ 30 _ _ _; refine Rch.blk' (Rn_mono mt _) bl_X4_ears_30 (i_aload_n rfl (i_gfs rfl (i_iload_n rfl (i_iconst k_1 (t_cs2 (Rn_mono mt _) 39 rfl (Nat.le_of_ble_eq_true rfl) ?_))))))
            | (show Rch _ _ _ _ _ 39 _ _ _; refine Rch.blk' (Rn_mono mt _) bl_X4_ears_39 (i_iload_n rfl (i_iast rfl rfl (by omega) (by simp only [aln]; omega) (by simp only [aln]; omega) (i_aload_n rfl (i_gfs rfl (i_iload_n rfl (i_iload_n rfl (t_cs3 (Rn_mono mt _) 50 rfl (Nat.le_of_ble_eq_true rfl) ?_))))))))
            | (show Rch _ _ _ _ _ 50 _ _ _; refine Rch.blk' (Rn_mono mt _) bl_X4_ears_50 (t_if_eq 55 53 rfl rfl (by first | exact hI_R | exact band_R | exact bor_R | exact bshr_R | exact lcm_R | omega) (fun hc => ?_) (fun hc => ?_)) <;> (first | (exfalso; omega) | skip))
            | (show Rch _ _ _ _ _ 53 _ _ _; refine Rch.blk' (Rn_mono mt _) bl_X4_ears_53 (i_iload_n rfl (t_iret ?_)))
            | (show Rch _ _ _ _ _ 55 _ _ _; refine Rch.blk' (Rn_mono mt _) bl_X4_ears_55 (i_iinc3 trivial k_1 (t_goto 13 rfl ?_)))
            | (show Rch _ _ _ _ _ 61 _ _ _; refine Rch.blk' (Rn_mono mt _) bl_X4_ears_61 (i_bipush k_m4 (t_iret ?_))))
      refine Rch.blk' (Rn_mono mt _) bl_X4_ears_13 (i_iload_n rfl (i_bipush k_10 (t_ic_ge 61 19 rfl rfl (by first | exact hI_R | exact band_R | exact bor_R | exact bshr_R | exact lcm_R | omega) (by first | exact hI_R | exact band_R | exact bor_R | exact bshr_R | exact lcm_R | omega) (fun hc => ?_) (fun hc => ?_)))) <;> (first | (exfalso; omega) | skip)
      refine Rch.blk' (Rn_mono mt _) bl_X4_ears_19 (i_aload_n rfl (i_gfs rfl (i_aload_n rfl (i_gfs rfl (t_cs2 (Rn_mono mt _) 30 rfl (Nat.le_of_ble_eq_true rfl) ?_)))))
      refine c_X4_copies hR hO (by decide) (fun h1 hG1 hF1 => ?_)
      have hm := hmid _ (hG1.set_f (z := p) (v := k) (j := (6 + 4 * p + 1).toNat) (by omega) ⟨by omega, by omega⟩ rfl) hF1.ms
      repeat' (first
        | exact hm
        | (show Rn _ _ 111 _ _ _; refine c_X4_areTwo (by assumption) (by assumption) (by first | omega | exact hI_R) (by first | omega | exact hI_R) (fun _ _ _ _ _ => ?_) (fun _ => ?_))
        | (show Rn _ _ 109 _ _ _; refine c_X4_of ?_)
        | (show Rn _ _ 131 _ _ _; refine c_X4_doesHear (by assumption) (by assumption) (by omega) (by omega) (by omega) (by omega) (by omega) (fun _ => ?_) (fun _ => ?_))
        | (show Rch _ _ _ _ _ 0 _ _ _; refine Rch.blk' (Rn_mono mt _) bl_X4_ears_0 (i_aload_n rfl (i_iload_n rfl (i_iload_n rfl (t_cv3 (Rn_mono mt _) 6 rfl (Nat.le_of_ble_eq_true rfl) ?_)))))
        | (show Rch _ _ _ _ _ 6 _ _ _; refine Rch.blk' (Rn_mono mt _) bl_X4_ears_6 (t_if_ne 11 9 rfl rfl (by first | exact hI_R | exact band_R | exact bor_R | exact bshr_R | exact lcm_R | omega) (fun hc => ?_) (fun hc => ?_)) <;> (first | (exfalso; omega) | skip))
        | (show Rch _ _ _ _ _ 9 _ _ _; refine Rch.blk' (Rn_mono mt _) bl_X4_ears_9 (i_iconst k_m1 (t_iret ?_)))
        | (show Rch _ _ _ _ _ 11 _ _ _; refine Rch.blk' (Rn_mono mt _) bl_X4_ears_11 (i_iconst k_0 (i_istore3 trivial (t_none ?_))))
        | (show Rch _ _ _ _ _ 19 _ _ _; refine Rch.blk' (Rn_mono mt _) bl_X4_ears_19 (i_aload_n rfl (i_gfs rfl (i_aload_n rfl (i_gfs rfl (t_cs2 (Rn_mono mt _) 30 rfl (Nat.le_of_ble_eq_true rfl) ?_))))))
        | (show Rch _ _ _ _ _ 30 _ _ _; refine Rch.blk' (Rn_mono mt _) bl_X4_ears_30 (i_aload_n rfl (i_gfs rfl (i_iload_n rfl (i_iconst k_1 (t_cs2 (Rn_mono mt _) 39 rfl (Nat.le_of_ble_eq_true rfl) ?_))))))
        | (show Rch _ _ _ _ _ 39 _ _ _; refine Rch.blk' (Rn_mono mt _) bl_X4_ears_39 (i_iload_n rfl (i_iast rfl rfl (by omega) (by simp only [aln]; omega) (by simp only [aln]; omega) (i_aload_n rfl (i_gfs rfl (i_iload_n rfl (i_iload_n rfl (t_cs3 (Rn_mono mt _) 50 rfl (Nat.le_of_ble_eq_true rfl) ?_))))))))
        | (show Rch _ _ _ _ _ 50 _ _ _; refine Rch.blk' (Rn_mono mt _) bl_X4_ears_50 (t_if_eq 55 53 rfl rfl (by first | exact hI_R | exact band_R | exact bor_R | exact bshr_R | exact lcm_R | omega) (fun hc => ?_) (fun hc => ?_)) <;> (first | (exfalso; omega) | skip))
        | (show Rch _ _ _ _ _ 53 _ _ _; refine Rch.blk' (Rn_mono mt _) bl_X4_ears_53 (i_iload_n rfl (t_iret ?_)))
        | (show Rch _ _ _ _ _ 55 _ _ _; refine Rch.blk' (Rn_mono mt _) bl_X4_ears_55 (i_iinc3 trivial k_1 (t_goto 13 rfl ?_)))
        | (show Rch _ _ _ _ _ 61 _ _ _; refine Rch.blk' (Rn_mono mt _) bl_X4_ears_61 (i_bipush k_m4 (t_iret ?_))))
    · obtain rfl : k = 10 := by omega
      refine Rch.blk' (Rn_mono mt _) bl_X4_ears_13 (i_iload_n rfl (i_bipush k_10 (t_ic_ge 61 19 rfl rfl (by first | exact hI_R | exact band_R | exact bor_R | exact bshr_R | exact lcm_R | omega) (by first | exact hI_R | exact band_R | exact bor_R | exact bshr_R | exact lcm_R | omega) (fun hc => ?_) (fun hc => ?_)))) <;> (first | (exfalso; omega) | skip)
      repeat' (first
        | exact kE _ (by omega) (by omega)
        | (show Rn _ _ 111 _ _ _; refine c_X4_areTwo (by assumption) (by assumption) (by first | omega | exact hI_R) (by first | omega | exact hI_R) (fun _ _ _ _ _ => ?_) (fun _ => ?_))
        | (show Rn _ _ 109 _ _ _; refine c_X4_of ?_)
        | (show Rn _ _ 131 _ _ _; refine c_X4_doesHear (by assumption) (by assumption) (by omega) (by omega) (by omega) (by omega) (by omega) (fun _ => ?_) (fun _ => ?_))
        | (show Rch _ _ _ _ _ 0 _ _ _; refine Rch.blk' (Rn_mono mt _) bl_X4_ears_0 (i_aload_n rfl (i_iload_n rfl (i_iload_n rfl (t_cv3 (Rn_mono mt _) 6 rfl (Nat.le_of_ble_eq_true rfl) ?_)))))
        | (show Rch _ _ _ _ _ 6 _ _ _; refine Rch.blk' (Rn_mono mt _) bl_X4_ears_6 (t_if_ne 11 9 rfl rfl (by first | exact hI_R | exact band_R | exact bor_R | exact bshr_R | exact lcm_R | omega) (fun hc => ?_) (fun hc => ?_)) <;> (first | (exfalso; omega) | skip))
        | (show Rch _ _ _ _ _ 9 _ _ _; refine Rch.blk' (Rn_mono mt _) bl_X4_ears_9 (i_iconst k_m1 (t_iret ?_)))
        | (show Rch _ _ _ _ _ 11 _ _ _; refine Rch.blk' (Rn_mono mt _) bl_X4_ears_11 (i_iconst k_0 (i_istore3 trivial (t_none ?_))))
        | (show Rch _ _ _ _ _ 19 _ _ _; refine Rch.blk' (Rn_mono mt _) bl_X4_ears_19 (i_aload_n rfl (i_gfs rfl (i_aload_n rfl (i_gfs rfl (t_cs2 (Rn_mono mt _) 30 rfl (Nat.le_of_ble_eq_true rfl) ?_))))))
        | (show Rch _ _ _ _ _ 30 _ _ _; refine Rch.blk' (Rn_mono mt _) bl_X4_ears_30 (i_aload_n rfl (i_gfs rfl (i_iload_n rfl (i_iconst k_1 (t_cs2 (Rn_mono mt _) 39 rfl (Nat.le_of_ble_eq_true rfl) ?_))))))
        | (show Rch _ _ _ _ _ 39 _ _ _; refine Rch.blk' (Rn_mono mt _) bl_X4_ears_39 (i_iload_n rfl (i_iast rfl rfl (by omega) (by simp only [aln]; omega) (by simp only [aln]; omega) (i_aload_n rfl (i_gfs rfl (i_iload_n rfl (i_iload_n rfl (t_cs3 (Rn_mono mt _) 50 rfl (Nat.le_of_ble_eq_true rfl) ?_))))))))
        | (show Rch _ _ _ _ _ 50 _ _ _; refine Rch.blk' (Rn_mono mt _) bl_X4_ears_50 (t_if_eq 55 53 rfl rfl (by first | exact hI_R | exact band_R | exact bor_R | exact bshr_R | exact lcm_R | omega) (fun hc => ?_) (fun hc => ?_)) <;> (first | (exfalso; omega) | skip))
        | (show Rch _ _ _ _ _ 53 _ _ _; refine Rch.blk' (Rn_mono mt _) bl_X4_ears_53 (i_iload_n rfl (t_iret ?_)))
        | (show Rch _ _ _ _ _ 55 _ _ _; refine Rch.blk' (Rn_mono mt _) bl_X4_ears_55 (i_iinc3 trivial k_1 (t_goto 13 rfl ?_)))
        | (show Rch _ _ _ _ _ 61 _ _ _; refine Rch.blk' (Rn_mono mt _) bl_X4_ears_61 (i_bipush k_m4 (t_iret ?_))))
  repeat' (first
    | exact key (by omega) 0 (by omega) (by omega) (fun j _ _ => by omega) _ FrR.rf
    | exact k1 _ (by omega) (by omega)
    | (show Rn _ _ 111 _ _ _; refine c_X4_areTwo (by assumption) (by assumption) (by first | omega | exact hI_R) (by first | omega | exact hI_R) (fun _ _ _ _ _ => ?_) (fun _ => ?_))
    | (show Rn _ _ 109 _ _ _; refine c_X4_of ?_)
    | (show Rn _ _ 131 _ _ _; refine c_X4_doesHear (by assumption) (by assumption) (by omega) (by omega) (by omega) (by omega) (by omega) (fun _ => ?_) (fun _ => ?_))
    | (show Rch _ _ _ _ _ 0 _ _ _; refine Rch.blk' (Rn_mono mt _) bl_X4_ears_0 (i_aload_n rfl (i_iload_n rfl (i_iload_n rfl (t_cv3 (Rn_mono mt _) 6 rfl (Nat.le_of_ble_eq_true rfl) ?_)))))
    | (show Rch _ _ _ _ _ 6 _ _ _; refine Rch.blk' (Rn_mono mt _) bl_X4_ears_6 (t_if_ne 11 9 rfl rfl (by first | exact hI_R | exact band_R | exact bor_R | exact bshr_R | exact lcm_R | omega) (fun hc => ?_) (fun hc => ?_)) <;> (first | (exfalso; omega) | skip))
    | (show Rch _ _ _ _ _ 9 _ _ _; refine Rch.blk' (Rn_mono mt _) bl_X4_ears_9 (i_iconst k_m1 (t_iret ?_)))
    | (show Rch _ _ _ _ _ 11 _ _ _; refine Rch.blk' (Rn_mono mt _) bl_X4_ears_11 (i_iconst k_0 (i_istore3 trivial (t_none ?_))))
    | (show Rch _ _ _ _ _ 19 _ _ _; refine Rch.blk' (Rn_mono mt _) bl_X4_ears_19 (i_aload_n rfl (i_gfs rfl (i_aload_n rfl (i_gfs rfl (t_cs2 (Rn_mono mt _) 30 rfl (Nat.le_of_ble_eq_true rfl) ?_))))))
    | (show Rch _ _ _ _ _ 30 _ _ _; refine Rch.blk' (Rn_mono mt _) bl_X4_ears_30 (i_aload_n rfl (i_gfs rfl (i_iload_n rfl (i_iconst k_1 (t_cs2 (Rn_mono mt _) 39 rfl (Nat.le_of_ble_eq_true rfl) ?_))))))
    | (show Rch _ _ _ _ _ 39 _ _ _; refine Rch.blk' (Rn_mono mt _) bl_X4_ears_39 (i_iload_n rfl (i_iast rfl rfl (by omega) (by simp only [aln]; omega) (by simp only [aln]; omega) (i_aload_n rfl (i_gfs rfl (i_iload_n rfl (i_iload_n rfl (t_cs3 (Rn_mono mt _) 50 rfl (Nat.le_of_ble_eq_true rfl) ?_))))))))
    | (show Rch _ _ _ _ _ 50 _ _ _; refine Rch.blk' (Rn_mono mt _) bl_X4_ears_50 (t_if_eq 55 53 rfl rfl (by first | exact hI_R | exact band_R | exact bor_R | exact bshr_R | exact lcm_R | omega) (fun hc => ?_) (fun hc => ?_)) <;> (first | (exfalso; omega) | skip))
    | (show Rch _ _ _ _ _ 53 _ _ _; refine Rch.blk' (Rn_mono mt _) bl_X4_ears_53 (i_iload_n rfl (t_iret ?_)))
    | (show Rch _ _ _ _ _ 55 _ _ _; refine Rch.blk' (Rn_mono mt _) bl_X4_ears_55 (i_iinc3 trivial k_1 (t_goto 13 rfl ?_)))
    | (show Rch _ _ _ _ _ 61 _ _ _; refine Rch.blk' (Rn_mono mt _) bl_X4_ears_61 (i_bipush k_m4 (t_iret ?_))))
theorem c_X0_quietOn (hG : RC h b G) (hO : OKB G) {y : Int} (h4 : 0 ≤ y) (h5 : y < 1000000) (hq : Q (some (ai (I (BT (fun i => i < nn G ∧ QC G y i))))) h) : Rn mt (d + 5) 44 [ar 0 b, ai (I y)] h Q := by
  refine Rn.intro iX0_quietOn rfl rfl ?_
  show Rch bX0_quietOn _ _ _ _ 0 [some (ar 0 b), some (ai (I y)), none, none] [] _
  have e_n := hG.n
  have g_n := hO.n
  have key : ∀ k : Int, k ≤ nn G → 0 ≤ k → RH bX0_quietOn (d + 4) Q 4 [some (ar 0 b), some (ai (I y)), some (ai (I (BT (fun i => i < k ∧ QC G y i)))), some (ai (I k))] h := by
    refine up_ind (fun k hk ih hk0 => ?_)
    by_cases hk1 : k < nn G
    · have ih := ih hk1 (by omega)
      have ih1 : (sq G k < 36 ∧ ide G k y = -4) → RH bX0_quietOn (d + 4) Q 4 [some (ar 0 b), some (ai (I y)), some (ai (I (bor (BT (fun i => i < k ∧ QC G y i)) (bshl 1 k)))), some (ai (I (k + 1)))] h := by
        intro hC; rw [BT_up1 (C := QC G y) hk0 (by omega) hC]; exact ih
      have ih0 : ¬ (sq G k < 36 ∧ ide G k y = -4) → RH bX0_quietOn (d + 4) Q 4 [some (ar 0 b), some (ai (I y)), some (ai (I (bor (BT (fun i => i < k ∧ QC G y i)) 0))), some (ai (I (k + 1)))] h := by
        intro hC; rw [BT_up2 (C := QC G y) hC]; exact ih
      clear ih
      refine Rch.blk' (Rn_mono mt _) bl_X0_quietOn_4 (i_iload_n rfl (i_aload_n rfl (i_gfi rfl (t_ic_ge 47 12 rfl rfl (by first | exact hI_R | exact band_R | exact bor_R | exact bshr_R | exact lcm_R | omega | (simp (disch := omega) only [e_n]; omega)) (by first | exact hI_R | exact band_R | exact bor_R | exact bshr_R | exact lcm_R | omega | (simp (disch := omega) only [e_n]; omega)) (fun hc => ?_) (fun hc => ?_))))) <;> (try (simp (disch := omega) only [e_n] at hc ⊢)) <;> (first | (exfalso; omega) | skip)
      repeat' (first
        | exact ih1 (by omega)
        | exact ih0 (by omega)
        | (show Rn _ _ 2 _ _ _; refine c_X0_isThere (by assumption) (by assumption) (by first | omega | exact hI_R) (fun _ _ _ _ => ?_) (fun _ => ?_))
        | (show Rn _ _ 25 _ _ _; refine c_X0_ideaOf (by assumption) (by assumption) (by first | omega | exact hI_R) (by omega) (by omega) (fun _ _ _ _ _ _ _ => ?_) (fun _ => ?_))
        | (show Rch _ _ _ _ _ 0 _ _ _; refine Rch.blk' (Rn_mono mt _) bl_X0_quietOn_0 (i_iconst k_0 (i_istore2 trivial (i_iconst k_0 (i_istore3 trivial (t_none ?_))))))
        | (show Rch _ _ _ _ _ 12 _ _ _; refine Rch.blk' (Rn_mono mt _) bl_X0_quietOn_12 (i_iload_n rfl (i_aload_n rfl (i_iload_n rfl (t_cv2 (Rn_mono mt _) 18 rfl (Nat.le_of_ble_eq_true rfl) ?_)))))
        | (show Rch _ _ _ _ _ 18 _ _ _; refine Rch.blk' (Rn_mono mt _) bl_X0_quietOn_18 (t_if_eq 38 21 rfl rfl (by first | exact hI_R | exact band_R | exact bor_R | exact bshr_R | exact lcm_R | omega) (fun hc => ?_) (fun hc => ?_)) <;> (first | (exfalso; omega) | skip))
        | (show Rch _ _ _ _ _ 21 _ _ _; refine Rch.blk' (Rn_mono mt _) bl_X0_quietOn_21 (i_aload_n rfl (i_iload_n rfl (i_iload_n rfl (t_cv3 (Rn_mono mt _) 27 rfl (Nat.le_of_ble_eq_true rfl) ?_)))))
        | (show Rch _ _ _ _ _ 27 _ _ _; refine Rch.blk' (Rn_mono mt _) bl_X0_quietOn_27 (i_bipush k_m4 (t_ic_ne 38 32 rfl rfl (by first | exact hI_R | exact band_R | exact bor_R | exact bshr_R | exact lcm_R | omega) (by first | exact hI_R | exact band_R | exact bor_R | exact bshr_R | exact lcm_R | omega) (fun hc => ?_) (fun hc => ?_))) <;> (first | (exfalso; omega) | skip))
        | (show Rch _ _ _ _ _ 32 _ _ _; refine Rch.blk' (Rn_mono mt _) bl_X0_quietOn_32 (i_iconst k_1 (i_iload_n rfl (i_ishl (t_goto 39 rfl ?_)))))
        | (show Rch _ _ _ _ _ 38 _ _ _; refine Rch.blk' (Rn_mono mt _) bl_X0_quietOn_38 (i_iconst k_0 (t_none ?_)))
        | (show Rch _ _ _ _ _ 39 _ _ _; refine Rch.blk' (Rn_mono mt _) bl_X0_quietOn_39 (i_ior (i_istore2 trivial (i_iinc3 trivial k_1 (t_goto 4 rfl ?_)))))
        | (show Rch _ _ _ _ _ 47 _ _ _; refine Rch.blk' (Rn_mono mt _) bl_X0_quietOn_47 (i_iload_n rfl (t_iret ?_))))
    · obtain rfl : k = nn G := by omega
      refine Rch.blk' (Rn_mono mt _) bl_X0_quietOn_4 (i_iload_n rfl (i_aload_n rfl (i_gfi rfl (t_ic_ge 47 12 rfl rfl (by first | exact hI_R | exact band_R | exact bor_R | exact bshr_R | exact lcm_R | omega | (simp (disch := omega) only [e_n]; omega)) (by first | exact hI_R | exact band_R | exact bor_R | exact bshr_R | exact lcm_R | omega | (simp (disch := omega) only [e_n]; omega)) (fun hc => ?_) (fun hc => ?_))))) <;> (try (simp (disch := omega) only [e_n] at hc ⊢)) <;> (first | (exfalso; omega) | skip)
      repeat' (first
        | exact hq
        | (show Rn _ _ 2 _ _ _; refine c_X0_isThere (by assumption) (by assumption) (by first | omega | exact hI_R) (fun _ _ _ _ => ?_) (fun _ => ?_))
        | (show Rn _ _ 25 _ _ _; refine c_X0_ideaOf (by assumption) (by assumption) (by first | omega | exact hI_R) (by omega) (by omega) (fun _ _ _ _ _ _ _ => ?_) (fun _ => ?_))
        | (show Rch _ _ _ _ _ 0 _ _ _; refine Rch.blk' (Rn_mono mt _) bl_X0_quietOn_0 (i_iconst k_0 (i_istore2 trivial (i_iconst k_0 (i_istore3 trivial (t_none ?_))))))
        | (show Rch _ _ _ _ _ 12 _ _ _; refine Rch.blk' (Rn_mono mt _) bl_X0_quietOn_12 (i_iload_n rfl (i_aload_n rfl (i_iload_n rfl (t_cv2 (Rn_mono mt _) 18 rfl (Nat.le_of_ble_eq_true rfl) ?_)))))
        | (show Rch _ _ _ _ _ 18 _ _ _; refine Rch.blk' (Rn_mono mt _) bl_X0_quietOn_18 (t_if_eq 38 21 rfl rfl (by first | exact hI_R | exact band_R | exact bor_R | exact bshr_R | exact lcm_R | omega) (fun hc => ?_) (fun hc => ?_)) <;> (first | (exfalso; omega) | skip))
        | (show Rch _ _ _ _ _ 21 _ _ _; refine Rch.blk' (Rn_mono mt _) bl_X0_quietOn_21 (i_aload_n rfl (i_iload_n rfl (i_iload_n rfl (t_cv3 (Rn_mono mt _) 27 rfl (Nat.le_of_ble_eq_true rfl) ?_)))))
        | (show Rch _ _ _ _ _ 27 _ _ _; refine Rch.blk' (Rn_mono mt _) bl_X0_quietOn_27 (i_bipush k_m4 (t_ic_ne 38 32 rfl rfl (by first | exact hI_R | exact band_R | exact bor_R | exact bshr_R | exact lcm_R | omega) (by first | exact hI_R | exact band_R | exact bor_R | exact bshr_R | exact lcm_R | omega) (fun hc => ?_) (fun hc => ?_))) <;> (first | (exfalso; omega) | skip))
        | (show Rch _ _ _ _ _ 32 _ _ _; refine Rch.blk' (Rn_mono mt _) bl_X0_quietOn_32 (i_iconst k_1 (i_iload_n rfl (i_ishl (t_goto 39 rfl ?_)))))
        | (show Rch _ _ _ _ _ 38 _ _ _; refine Rch.blk' (Rn_mono mt _) bl_X0_quietOn_38 (i_iconst k_0 (t_none ?_)))
        | (show Rch _ _ _ _ _ 39 _ _ _; refine Rch.blk' (Rn_mono mt _) bl_X0_quietOn_39 (i_ior (i_istore2 trivial (i_iinc3 trivial k_1 (t_goto 4 rfl ?_)))))
        | (show Rch _ _ _ _ _ 47 _ _ _; refine Rch.blk' (Rn_mono mt _) bl_X0_quietOn_47 (i_iload_n rfl (t_iret ?_))))
  have key0 := key 0 (by omega) (by omega)
  rw [BT_0 (C := QC G y)] at key0
  repeat' (first
    | exact key0
    | (show Rn _ _ 2 _ _ _; refine c_X0_isThere (by assumption) (by assumption) (by first | omega | exact hI_R) (fun _ _ _ _ => ?_) (fun _ => ?_))
    | (show Rn _ _ 25 _ _ _; refine c_X0_ideaOf (by assumption) (by assumption) (by first | omega | exact hI_R) (by omega) (by omega) (fun _ _ _ _ _ _ _ => ?_) (fun _ => ?_))
    | (show Rch _ _ _ _ _ 0 _ _ _; refine Rch.blk' (Rn_mono mt _) bl_X0_quietOn_0 (i_iconst k_0 (i_istore2 trivial (i_iconst k_0 (i_istore3 trivial (t_none ?_))))))
    | (show Rch _ _ _ _ _ 12 _ _ _; refine Rch.blk' (Rn_mono mt _) bl_X0_quietOn_12 (i_iload_n rfl (i_aload_n rfl (i_iload_n rfl (t_cv2 (Rn_mono mt _) 18 rfl (Nat.le_of_ble_eq_true rfl) ?_)))))
    | (show Rch _ _ _ _ _ 18 _ _ _; refine Rch.blk' (Rn_mono mt _) bl_X0_quietOn_18 (t_if_eq 38 21 rfl rfl (by first | exact hI_R | exact band_R | exact bor_R | exact bshr_R | exact lcm_R | omega) (fun hc => ?_) (fun hc => ?_)) <;> (first | (exfalso; omega) | skip))
    | (show Rch _ _ _ _ _ 21 _ _ _; refine Rch.blk' (Rn_mono mt _) bl_X0_quietOn_21 (i_aload_n rfl (i_iload_n rfl (i_iload_n rfl (t_cv3 (Rn_mono mt _) 27 rfl (Nat.le_of_ble_eq_true rfl) ?_)))))
    | (show Rch _ _ _ _ _ 27 _ _ _; refine Rch.blk' (Rn_mono mt _) bl_X0_quietOn_27 (i_bipush k_m4 (t_ic_ne 38 32 rfl rfl (by first | exact hI_R | exact band_R | exact bor_R | exact bshr_R | exact lcm_R | omega) (by first | exact hI_R | exact band_R | exact bor_R | exact bshr_R | exact lcm_R | omega) (fun hc => ?_) (fun hc => ?_))) <;> (first | (exfalso; omega) | skip))
    | (show Rch _ _ _ _ _ 32 _ _ _; refine Rch.blk' (Rn_mono mt _) bl_X0_quietOn_32 (i_iconst k_1 (i_iload_n rfl (i_ishl (t_goto 39 rfl ?_)))))
    | (show Rch _ _ _ _ _ 38 _ _ _; refine Rch.blk' (Rn_mono mt _) bl_X0_quietOn_38 (i_iconst k_0 (t_none ?_)))
    | (show Rch _ _ _ _ _ 39 _ _ _; refine Rch.blk' (Rn_mono mt _) bl_X0_quietOn_39 (i_ior (i_istore2 trivial (i_iinc3 trivial k_1 (t_goto 4 rfl ?_)))))
    | (show Rch _ _ _ _ _ 47 _ _ _; refine Rch.blk' (Rn_mono mt _) bl_X0_quietOn_47 (i_iload_n rfl (t_iret ?_))))
theorem c_X4_quietOnes (hG : RR h 0 G no0 0) (hO : OKB G) (hy : dy G ≤ 999) (hq : Q (some (ai (I (BT (fun i => i < nn G ∧ QC G (dy G + 1) i))))) h) : Rn mt (d + 10) 177 [ar 3 0] h Q := by
  refine Rn.intro iX4_quietOnes rfl rfl ?_
  show Rch bX4_quietOnes _ _ _ _ 0 [some (ar 3 0), none, none] [] _
  have e_n := hG.n
  have g_n := hO.n
  have key : ∀ k : Int, k ≤ nn G → 0 ≤ k → RH bX4_quietOnes (d + 9) Q 4 [some (ar 3 0), some (ai (I (BT (fun i => i < k ∧ QC G (dy G + 1) i)))), some (ai (I k))] h := by
    refine up_ind (fun k hk ih hk0 => ?_)
    by_cases hk1 : k < nn G
    · have ih := ih hk1 (by omega)
      have g_i : sq G k < 36 → ideN G k = ide G k (dy G + 1) := fun z => if_pos z
      have ih1 : (sq G k < 36 ∧ ide G k (dy G + 1) = -4) → RH bX4_quietOnes (d + 9) Q 4 [some (ar 3 0), some (ai (I (bor (BT (fun i => i < k ∧ QC G (dy G + 1) i)) (bshl 1 k)))), some (ai (I (k + 1)))] h := by
        intro hC; rw [BT_up1 (C := QC G (dy G + 1)) hk0 (by omega) hC]; exact ih
      have ih0 : ¬ (sq G k < 36 ∧ ide G k (dy G + 1) = -4) → RH bX4_quietOnes (d + 9) Q 4 [some (ar 3 0), some (ai (I (bor (BT (fun i => i < k ∧ QC G (dy G + 1) i)) 0))), some (ai (I (k + 1)))] h := by
        intro hC; rw [BT_up2 (C := QC G (dy G + 1)) hC]; exact ih
      clear ih
      refine Rch.blk' (Rn_mono mt _) bl_X4_quietOnes_4 (i_iload_n rfl (i_aload_n rfl (i_gfs rfl (i_iconst k_0 (i_iald (n := 46) rfl (by first | omega | (simp (disch := omega) only [e_n]; omega)) (by first | omega | (simp (disch := omega) only [e_n]; omega)) (by first | omega | (simp (disch := omega) only [e_n]; omega)) (t_ic_ge 49 14 rfl rfl (by first | exact hI_R | exact band_R | exact bor_R | exact bshr_R | exact lcm_R | omega | (simp (disch := omega) only [e_n]; omega)) (by first | exact hI_R | exact band_R | exact bor_R | exact bshr_R | exact lcm_R | omega | (simp (disch := omega) only [e_n]; omega)) (fun hc => ?_) (fun hc => ?_))))))) <;> (try (simp (disch := omega) only [e_n] at hc ⊢)) <;> (first | (exfalso; omega) | skip)
      repeat' (first
        | exact ih1 (by omega)
        | exact ih0 (by omega)
        | (show Rn _ _ 114 _ _ _; refine c_X4_isHere (by assumption) (by assumption) (by omega) (by omega) (fun _ _ => ?_) (fun _ => ?_))
        | (show Rn _ _ 148 _ _ _; refine c_X4_nextIdea (by assumption) (by assumption) (by omega) (by omega) (by omega) (fun _ _ _ => ?_))
        | (show Rch _ _ _ _ _ 0 _ _ _; refine Rch.blk' (Rn_mono mt _) bl_X4_quietOnes_0 (i_iconst k_0 (i_istore1 trivial (i_iconst k_0 (i_istore2 trivial (t_none ?_))))))
        | (show Rch _ _ _ _ _ 14 _ _ _; refine Rch.blk' (Rn_mono mt _) bl_X4_quietOnes_14 (i_iload_n rfl (i_aload_n rfl (i_gfs rfl (i_iload_n rfl (t_cs2 (Rn_mono mt _) 23 rfl (Nat.le_of_ble_eq_true rfl) ?_))))))
        | (show Rch _ _ _ _ _ 23 _ _ _; refine Rch.blk' (Rn_mono mt _) bl_X4_quietOnes_23 (t_if_eq 40 26 rfl rfl (by first | exact hI_R | exact band_R | exact bor_R | exact bshr_R | exact lcm_R | omega) (fun hc => ?_) (fun hc => ?_)) <;> (first | (exfalso; omega) | skip))
        | (show Rch _ _ _ _ _ 26 _ _ _; refine Rch.blk' (Rn_mono mt _) bl_X4_quietOnes_26 (i_aload_n rfl (i_iload_n rfl (t_cv2 (Rn_mono mt _) 31 rfl (Nat.le_of_ble_eq_true rfl) ?_))))
        | (show Rch _ _ _ _ _ 31 _ _ _; refine Rch.blk' (Rn_mono mt _) bl_X4_quietOnes_31 (t_if_ge 40 34 rfl rfl (by first | exact hI_R | exact band_R | exact bor_R | exact bshr_R | exact lcm_R | omega) (fun hc => ?_) (fun hc => ?_)) <;> (first | (exfalso; omega) | skip))
        | (show Rch _ _ _ _ _ 34 _ _ _; refine Rch.blk' (Rn_mono mt _) bl_X4_quietOnes_34 (i_iconst k_1 (i_iload_n rfl (i_ishl (t_goto 41 rfl ?_)))))
        | (show Rch _ _ _ _ _ 40 _ _ _; refine Rch.blk' (Rn_mono mt _) bl_X4_quietOnes_40 (i_iconst k_0 (t_none ?_)))
        | (show Rch _ _ _ _ _ 41 _ _ _; refine Rch.blk' (Rn_mono mt _) bl_X4_quietOnes_41 (i_ior (i_istore1 trivial (i_iinc2 trivial k_1 (t_goto 4 rfl ?_)))))
        | (show Rch _ _ _ _ _ 49 _ _ _; refine Rch.blk' (Rn_mono mt _) bl_X4_quietOnes_49 (i_iload_n rfl (t_iret ?_))))
    · obtain rfl : k = nn G := by omega
      refine Rch.blk' (Rn_mono mt _) bl_X4_quietOnes_4 (i_iload_n rfl (i_aload_n rfl (i_gfs rfl (i_iconst k_0 (i_iald (n := 46) rfl (by first | omega | (simp (disch := omega) only [e_n]; omega)) (by first | omega | (simp (disch := omega) only [e_n]; omega)) (by first | omega | (simp (disch := omega) only [e_n]; omega)) (t_ic_ge 49 14 rfl rfl (by first | exact hI_R | exact band_R | exact bor_R | exact bshr_R | exact lcm_R | omega | (simp (disch := omega) only [e_n]; omega)) (by first | exact hI_R | exact band_R | exact bor_R | exact bshr_R | exact lcm_R | omega | (simp (disch := omega) only [e_n]; omega)) (fun hc => ?_) (fun hc => ?_))))))) <;> (try (simp (disch := omega) only [e_n] at hc ⊢)) <;> (first | (exfalso; omega) | skip)
      repeat' (first
        | exact hq
        | (show Rn _ _ 114 _ _ _; refine c_X4_isHere (by assumption) (by assumption) (by omega) (by omega) (fun _ _ => ?_) (fun _ => ?_))
        | (show Rn _ _ 148 _ _ _; refine c_X4_nextIdea (by assumption) (by assumption) (by omega) (by omega) (by omega) (fun _ _ _ => ?_))
        | (show Rch _ _ _ _ _ 0 _ _ _; refine Rch.blk' (Rn_mono mt _) bl_X4_quietOnes_0 (i_iconst k_0 (i_istore1 trivial (i_iconst k_0 (i_istore2 trivial (t_none ?_))))))
        | (show Rch _ _ _ _ _ 14 _ _ _; refine Rch.blk' (Rn_mono mt _) bl_X4_quietOnes_14 (i_iload_n rfl (i_aload_n rfl (i_gfs rfl (i_iload_n rfl (t_cs2 (Rn_mono mt _) 23 rfl (Nat.le_of_ble_eq_true rfl) ?_))))))
        | (show Rch _ _ _ _ _ 23 _ _ _; refine Rch.blk' (Rn_mono mt _) bl_X4_quietOnes_23 (t_if_eq 40 26 rfl rfl (by first | exact hI_R | exact band_R | exact bor_R | exact bshr_R | exact lcm_R | omega) (fun hc => ?_) (fun hc => ?_)) <;> (first | (exfalso; omega) | skip))
        | (show Rch _ _ _ _ _ 26 _ _ _; refine Rch.blk' (Rn_mono mt _) bl_X4_quietOnes_26 (i_aload_n rfl (i_iload_n rfl (t_cv2 (Rn_mono mt _) 31 rfl (Nat.le_of_ble_eq_true rfl) ?_))))
        | (show Rch _ _ _ _ _ 31 _ _ _; refine Rch.blk' (Rn_mono mt _) bl_X4_quietOnes_31 (t_if_ge 40 34 rfl rfl (by first | exact hI_R | exact band_R | exact bor_R | exact bshr_R | exact lcm_R | omega) (fun hc => ?_) (fun hc => ?_)) <;> (first | (exfalso; omega) | skip))
        | (show Rch _ _ _ _ _ 34 _ _ _; refine Rch.blk' (Rn_mono mt _) bl_X4_quietOnes_34 (i_iconst k_1 (i_iload_n rfl (i_ishl (t_goto 41 rfl ?_)))))
        | (show Rch _ _ _ _ _ 40 _ _ _; refine Rch.blk' (Rn_mono mt _) bl_X4_quietOnes_40 (i_iconst k_0 (t_none ?_)))
        | (show Rch _ _ _ _ _ 41 _ _ _; refine Rch.blk' (Rn_mono mt _) bl_X4_quietOnes_41 (i_ior (i_istore1 trivial (i_iinc2 trivial k_1 (t_goto 4 rfl ?_)))))
        | (show Rch _ _ _ _ _ 49 _ _ _; refine Rch.blk' (Rn_mono mt _) bl_X4_quietOnes_49 (i_iload_n rfl (t_iret ?_))))
  have key0 := key 0 (by omega) (by omega)
  rw [BT_0 (C := QC G (dy G + 1))] at key0
  repeat' (first
    | exact key0
    | (show Rn _ _ 114 _ _ _; refine c_X4_isHere (by assumption) (by assumption) (by omega) (by omega) (fun _ _ => ?_) (fun _ => ?_))
    | (show Rn _ _ 148 _ _ _; refine c_X4_nextIdea (by assumption) (by assumption) (by omega) (by omega) (by omega) (fun _ _ _ => ?_))
    | (show Rch _ _ _ _ _ 0 _ _ _; refine Rch.blk' (Rn_mono mt _) bl_X4_quietOnes_0 (i_iconst k_0 (i_istore1 trivial (i_iconst k_0 (i_istore2 trivial (t_none ?_))))))
    | (show Rch _ _ _ _ _ 14 _ _ _; refine Rch.blk' (Rn_mono mt _) bl_X4_quietOnes_14 (i_iload_n rfl (i_aload_n rfl (i_gfs rfl (i_iload_n rfl (t_cs2 (Rn_mono mt _) 23 rfl (Nat.le_of_ble_eq_true rfl) ?_))))))
    | (show Rch _ _ _ _ _ 23 _ _ _; refine Rch.blk' (Rn_mono mt _) bl_X4_quietOnes_23 (t_if_eq 40 26 rfl rfl (by first | exact hI_R | exact band_R | exact bor_R | exact bshr_R | exact lcm_R | omega) (fun hc => ?_) (fun hc => ?_)) <;> (first | (exfalso; omega) | skip))
    | (show Rch _ _ _ _ _ 26 _ _ _; refine Rch.blk' (Rn_mono mt _) bl_X4_quietOnes_26 (i_aload_n rfl (i_iload_n rfl (t_cv2 (Rn_mono mt _) 31 rfl (Nat.le_of_ble_eq_true rfl) ?_))))
    | (show Rch _ _ _ _ _ 31 _ _ _; refine Rch.blk' (Rn_mono mt _) bl_X4_quietOnes_31 (t_if_ge 40 34 rfl rfl (by first | exact hI_R | exact band_R | exact bor_R | exact bshr_R | exact lcm_R | omega) (fun hc => ?_) (fun hc => ?_)) <;> (first | (exfalso; omega) | skip))
    | (show Rch _ _ _ _ _ 34 _ _ _; refine Rch.blk' (Rn_mono mt _) bl_X4_quietOnes_34 (i_iconst k_1 (i_iload_n rfl (i_ishl (t_goto 41 rfl ?_)))))
    | (show Rch _ _ _ _ _ 40 _ _ _; refine Rch.blk' (Rn_mono mt _) bl_X4_quietOnes_40 (i_iconst k_0 (t_none ?_)))
    | (show Rch _ _ _ _ _ 41 _ _ _; refine Rch.blk' (Rn_mono mt _) bl_X4_quietOnes_41 (i_ior (i_istore1 trivial (i_iinc2 trivial k_1 (t_goto 4 rfl ?_)))))
    | (show Rch _ _ _ _ _ 49 _ _ _; refine Rch.blk' (Rn_mono mt _) bl_X4_quietOnes_49 (i_iload_n rfl (t_iret ?_))))
end C15

