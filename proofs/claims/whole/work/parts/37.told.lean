/-! TOLD ROWS: forged, judge: both sides -/
/-- the first of the first n with P; -4 -/
noncomputable def fst1 (P : Int → Prop) (n : Int) : Int := @dite Int (∃ k : Int, 0 ≤ k ∧ k < n ∧ P k ∧ ∀ j : Int, 0 ≤ j → j < k → ¬ P j) (Classical.propDecidable _) (fun e => Classical.choose e) (fun _ => -4)
theorem fst_is {P : Int → Prop} {n k : Int} (k0 : 0 ≤ k) (k1 : k < n) (hP : P k) (hn : ∀ j : Int, 0 ≤ j → j < k → ¬ P j) : fst1 P n = k := by
  have e : ∃ k : Int, 0 ≤ k ∧ k < n ∧ P k ∧ ∀ j : Int, 0 ≤ j → j < k → ¬ P j := ⟨k, k0, k1, hP, hn⟩
  unfold fst1
  rw [dif_pos e]
  obtain ⟨c0, c1, c2, c3⟩ := Classical.choose_spec e
  generalize Classical.choose e = c at c0 c1 c2 c3
  rcases Int.lt_trichotomy c k with z | z | z
  · exact absurd c2 (hn c c0 z)
  · exact z
  · exact absurd hP (c3 k k0 z)
theorem fst_no {P : Int → Prop} {n : Int} (hn : ∀ j : Int, 0 ≤ j → j < n → ¬ P j) : fst1 P n = -4 := by
  unfold fst1
  rw [dif_neg]
  rintro ⟨k, k0, k1, k2, -⟩
  exact hn k k0 k1 k2
theorem fst_R {P : Int → Prop} {n : Int} : fst1 P n = -4 ∨ (0 ≤ fst1 P n ∧ fst1 P n < n) := by
  unfold fst1
  by_cases e : ∃ k : Int, 0 ≤ k ∧ k < n ∧ P k ∧ ∀ j : Int, 0 ≤ j → j < k → ¬ P j
  · rw [dif_pos e]
    obtain ⟨c0, c1, -⟩ := Classical.choose_spec e
    exact Or.inr ⟨c0, c1⟩
  · rw [dif_neg e]; exact Or.inl rfl
theorem no_up {P : Int → Prop} {k : Int} (hn : ∀ j : Int, 0 ≤ j → j < k → ¬ P j) (hk : ¬ P k) : ∀ j : Int, 0 ≤ j → j < k + 1 → ¬ P j := by
  intro j j0 j1
  by_cases e : j = k
  · subst e; exact hk
  · exact hn j j0 (by omega)
def lst (s : Int) : Int := if s = 0 then -128 else if s = 1 then -32768 else -2147483648
abbrev FP (G : Bd) (S : Sv) (x p : Int) : Prop := ¬ (p < nn G ∧ el S x p = sq G p)
noncomputable def vForged (G : Bd) (S : Sv) (x : Int) : Int := if rfu S x 2 = 0 then fst1 (FP G S x) (sz S x) else rfu S x 2
abbrev JP (G : Bd) (S : Sv) (x i : Int) : Prop := ¬ (el S x i = lst (so S x) ∨ el S x i = NT (DN G no0 i))
noncomputable def vJudge (G : Bd) (S : Sv) (x : Int) : Int := if rfu S x 2 = 0 then fst1 (JP G S x) (sz S x) else rfu S x 2
section C14
variable {d : Nat} {h : Mem} {Q : Option AV → Mem → Prop} {G : Bd} {S : Sv} {M : Int → Prop} {ra : Int}
theorem c_X2_isSkipped (hS : SC h S) (hK : OKS S) {z i : Int} (z0 : 0 ≤ z) (z1 : z < 8) (hh : ho S z = 2) (i0 : 0 ≤ i) (i1 : i < sz S z) (h1 : el S z i = lst (so S z) → Q (some (ai (I 1))) h) (h0 : ¬ el S z i = lst (so S z) → Q (some (ai (I 0))) h) : Rn mt (d + 3) 52 [ar 1 z.toNat, ai (I i)] h Q := by
  refine Rn.intro iX2_isSkipped rfl rfl ?_
  show Rch bX2_isSkipped _ _ _ _ 0 [some (ar 1 z.toNat), some (ai (I i)), none] [] _
  have e_s := hS.s z0 z1 hh
  have g := (hK z z0 z1).2.2 hh
  have hi : inR i := ⟨by omega, by omega⟩
  have g_l : (so S z = 0 → lst (so S z) = -128) ∧ (so S z = 1 → lst (so S z) = -32768) ∧ (so S z = 2 → lst (so S z) = -2147483648) := by unfold lst; omega
  repeat' (first
    | exact h1 (by omega)
    | exact h0 (by omega)
    | (show Rn _ _ 50 _ _ _; refine c_X2_elementAt (by assumption) (by assumption) (by first | omega | exact hI_R) (by assumption) (by assumption) (by assumption) (fun _ _ _ => ?_) (fun _ => ?_))
    | (show Rch _ _ _ _ _ 0 _ _ _; refine Rch.blk' (Rn_mono mt _) bl_X2_isSkipped_0 (i_aload_n rfl (i_gfi rfl (t_if_ne 12 7 rfl rfl (by first | exact hI_R | exact band_R | exact bor_R | exact bshr_R | exact lcm_R | omega | (simp (disch := omega) only [e_s]; omega)) (fun hc => ?_) (fun hc => ?_)))) <;> (try (simp (disch := omega) only [e_s] at hc ⊢)) <;> (first | (exfalso; omega) | skip))
    | (show Rch _ _ _ _ _ 7 _ _ _; refine Rch.blk' (Rn_mono mt _) bl_X2_isSkipped_7 (i_bipush k_m128 (t_goto 28 rfl ?_)))
    | (show Rch _ _ _ _ _ 12 _ _ _; refine Rch.blk' (Rn_mono mt _) bl_X2_isSkipped_12 (i_aload_n rfl (i_gfi rfl (i_iconst k_1 (t_ic_ne 26 20 rfl rfl (by first | exact hI_R | exact band_R | exact bor_R | exact bshr_R | exact lcm_R | omega | (simp (disch := omega) only [e_s]; omega)) (by first | exact hI_R | exact band_R | exact bor_R | exact bshr_R | exact lcm_R | omega | (simp (disch := omega) only [e_s]; omega)) (fun hc => ?_) (fun hc => ?_))))) <;> (try (simp (disch := omega) only [e_s] at hc ⊢)) <;> (first | (exfalso; omega) | skip))
    | (show Rch _ _ _ _ _ 20 _ _ _; refine Rch.blk' (Rn_mono mt _) bl_X2_isSkipped_20 (i_sipush k_m32768 (t_goto 28 rfl ?_)))
    | (show Rch _ _ _ _ _ 26 _ _ _; refine Rch.blk' (Rn_mono mt _) bl_X2_isSkipped_26 (i_ldc k_m2147483648 (t_none ?_)))
    | (show Rch _ _ _ _ _ 28 _ _ _; refine Rch.blk' (Rn_mono mt _) bl_X2_isSkipped_28 (i_istore2 trivial (i_aload_n rfl (i_iload_n rfl (t_cv2 (Rn_mono mt _) 34 rfl (Nat.le_of_ble_eq_true rfl) ?_)))))
    | (show Rch _ _ _ _ _ 34 _ _ _; refine Rch.blk' (Rn_mono mt _) bl_X2_isSkipped_34 (i_iload_n rfl (t_ic_ne 42 38 rfl rfl (by first | exact hI_R | exact band_R | exact bor_R | exact bshr_R | exact lcm_R | omega | (simp (disch := omega) only [e_s]; omega)) (by first | exact hI_R | exact band_R | exact bor_R | exact bshr_R | exact lcm_R | omega | (simp (disch := omega) only [e_s]; omega)) (fun hc => ?_) (fun hc => ?_))) <;> (first | (exfalso; omega) | skip))
    | (show Rch _ _ _ _ _ 38 _ _ _; refine Rch.blk' (Rn_mono mt _) bl_X2_isSkipped_38 (i_iconst k_1 (t_goto 43 rfl ?_)))
    | (show Rch _ _ _ _ _ 42 _ _ _; refine Rch.blk' (Rn_mono mt _) bl_X2_isSkipped_42 (i_iconst k_0 (t_none ?_)))
    | (show Rch _ _ _ _ _ 43 _ _ _; refine Rch.blk' (Rn_mono mt _) bl_X2_isSkipped_43 (t_zret (by omega) ?_)))
theorem c_X3_forged (hG : RC h 0 G) (hO : OKB G) (hS : SC h S) (hK : OKS S) {x : Int} (hx : inR x) (hq : ∀ v h', v = vForged G S x → JX h h' → Q (some (ai (I v))) h') : Rn mt (d + 20) 92 [ar 2 0, ai (I x)] h Q := by
  refine Rn.intro iX3_forged rfl rfl ?_
  show Rch bX3_forged _ _ _ _ 0 [some (ar 2 0), some (ai (I x)), none, none, none] [] _
  have e_q := @RC.q _ _ _ hG
  have e_z := fun a b => @SC.z _ _ x hS a b
  have g_n := hO.n
  have kr : ∀ u, u = rfu S x 2 → ¬ u = 0 → Q (some (ai (I u))) h := fun u e a => hq _ _ (by unfold vForged; rw [if_neg (by omega)]; exact e) JX.rf
  have key : 0 ≤ x → x < 8 → ho S x = 2 → ∀ k : Int, k ≤ sz S x → 0 ≤ k → (∀ j : Int, 0 ≤ j → j < k → ¬ FP G S x j) → ∀ u : Int, RH bX3_forged (d + 19) Q 25 [some (ar 2 0), some (ai (I x)), some (ar 1 x.toNat), some (ai (I u)), some (ai (I k))] h := by
    intro x0 x1 hh
    have r0 : rfu S x 2 = 0 := by unfold rfu; rw [if_pos ⟨x0, x1⟩, if_neg (by omega), if_pos hh]
    have g := (hK x x0 x1).2.2 hh
    refine up_ind (fun k hk ih hk0 hn u => ?_)
    have g_p := hO.pc k hk0
    have kE : sz S x ≤ k → Q (some (ai (I (-4)))) h := fun a => hq _ _ (by unfold vForged; rw [if_pos r0]; exact (fst_no (fun j j0 j1 => hn j j0 (by omega))).symm) JX.rf
    have kH : ∀ _u : Unit, k < sz S x → ¬ (k < nn G ∧ el S x k = sq G k) → Q (some (ai (I k))) h := fun _ a b => hq _ _ (by unfold vForged; rw [if_pos r0]; exact (fst_is hk0 a b hn).symm) JX.rf
    have ih2 : ∀ _u : Unit, k < sz S x → (k < nn G ∧ el S x k = sq G k) → RH bX3_forged (d + 19) Q 25 [some (ar 2 0), some (ai (I x)), some (ar 1 x.toNat), some (ai (I u)), some (ai (I (k + 1)))] h := fun _ a b => ih a (by omega) (no_up hn (fun z => z b)) u
    clear ih hn
    refine Rch.blk' (Rn_mono mt _) bl_X3_forged_25 (i_iload rfl (i_aload_n rfl (i_gfi rfl (t_ic_ge 74 34 rfl rfl (by first | exact hI_R | exact band_R | exact bor_R | exact bshr_R | exact lcm_R | omega | (simp (disch := omega) only [e_z]; omega)) (by first | exact hI_R | exact band_R | exact bor_R | exact bshr_R | exact lcm_R | omega | (simp (disch := omega) only [e_z]; omega)) (fun hc => ?_) (fun hc => ?_))))) <;> (try (simp (disch := omega) only [e_z] at hc ⊢)) <;> (first | (exfalso; omega) | skip)
    repeat' (first
      | exact kE (by omega)
      | exact kH () (by omega) (by omega)
      | exact ih2 () (by omega) (by omega)
      | (show Rn _ _ 57 _ _ _; refine c_X3_shelfAt (by first | omega | exact hI_R) (fun _ _ => ?_) (fun _ => ?_))
      | (show Rn _ _ 58 _ _ _; refine c_X3_refusalUnless_n ?_)
      | (show Rn _ _ 58 _ _ _; refine c_X3_refusalUnless_s (by assumption) (by omega) (by assumption) (by assumption) (fun _ => ?_) (fun _ _ => ?_) (fun _ _ => ?_))
      | (show Rn _ _ 1 _ _ _; refine c_X0_has (by assumption) (by assumption) (by first | omega | exact hI_R) (fun _ _ => ?_) (fun _ => ?_))
      | (show Rn _ _ 50 _ _ _; refine c_X2_elementAt (by assumption) (by assumption) (by first | omega | exact hI_R) (by assumption) (by assumption) (by assumption) (fun _ _ _ => ?_) (fun _ => ?_))
      | (show Rch _ _ _ _ _ 0 _ _ _; refine Rch.blk' (Rn_mono mt _) bl_X3_forged_0 (i_aload_n rfl (i_iload_n rfl (t_cv2 (Rn_mono mt _) 5 rfl (Nat.le_of_ble_eq_true rfl) ?_))))
      | (show Rch _ _ _ _ _ 5 _ _ _; refine Rch.blk' (Rn_mono mt _) bl_X3_forged_5 (i_astore2 trivial (i_aload_n rfl (i_iconst k_2 (t_cs2 (Rn_mono mt _) 11 rfl (Nat.le_of_ble_eq_true rfl) ?_)))))
      | (show Rch _ _ _ _ _ 11 _ _ _; refine Rch.blk' (Rn_mono mt _) bl_X3_forged_11 (i_istore3 trivial (i_aload_n rfl (t_ifnull_n 20 rfl ?_))))
      | (show Rch _ _ _ _ _ 11 _ _ _; refine Rch.blk' (Rn_mono mt _) bl_X3_forged_11 (i_istore3 trivial (i_aload_n rfl (t_ifnull_s 16 rfl ?_))))
      | (show Rch _ _ _ _ _ 16 _ _ _; refine Rch.blk' (Rn_mono mt _) bl_X3_forged_16 (i_iload_n rfl (t_if_eq 22 20 rfl rfl (by first | exact hI_R | exact band_R | exact bor_R | exact bshr_R | exact lcm_R | omega | (simp (disch := omega) only [e_q, e_z]; omega)) (fun hc => ?_) (fun hc => ?_))) <;> (first | (exfalso; omega) | skip))
      | (show Rch _ _ _ _ _ 20 _ _ _; refine Rch.blk' (Rn_mono mt _) bl_X3_forged_20 (i_iload_n rfl (t_iret ?_)))
      | (show Rch _ _ _ _ _ 22 _ _ _; refine Rch.blk' (Rn_mono mt _) bl_X3_forged_22 (i_iconst k_0 (i_istore4 trivial (t_none ?_))))
      | (show Rch _ _ _ _ _ 34 _ _ _; refine Rch.blk' (Rn_mono mt _) bl_X3_forged_34 (i_aload_n rfl (i_gfs rfl (i_iload rfl (t_cv2 (Rn_mono mt _) 43 rfl (Nat.le_of_ble_eq_true rfl) ?_)))) <;> (try (simp (disch := omega) only [e_q, e_z])))
      | (show Rch _ _ _ _ _ 43 _ _ _; refine Rch.blk' (Rn_mono mt _) bl_X3_forged_43 (t_if_eq 65 46 rfl rfl (by first | exact hI_R | exact band_R | exact bor_R | exact bshr_R | exact lcm_R | omega | (simp (disch := omega) only [e_q, e_z]; omega)) (fun hc => ?_) (fun hc => ?_)) <;> (first | (exfalso; omega) | skip))
      | (show Rch _ _ _ _ _ 46 _ _ _; refine Rch.blk' (Rn_mono mt _) bl_X3_forged_46 (i_aload_n rfl (i_iload rfl (t_cv2 (Rn_mono mt _) 52 rfl (Nat.le_of_ble_eq_true rfl) ?_))))
      | (show Rch _ _ _ _ _ 52 _ _ _; refine Rch.blk' (Rn_mono mt _) bl_X3_forged_52 (i_aload_n rfl (i_gfs rfl (i_gfr rfl (i_iload rfl (i_iald (n := 10) rfl (by first | omega | (simp (disch := omega) only [e_q, e_z]; omega)) (by first | omega | (simp (disch := omega) only [e_q, e_z]; omega)) (by first | omega | (simp (disch := omega) only [e_q, e_z]; omega)) (t_ic_eq 68 65 rfl rfl (by first | exact hI_R | exact band_R | exact bor_R | exact bshr_R | exact lcm_R | omega | (simp (disch := omega) only [e_q, e_z]; omega)) (by first | exact hI_R | exact band_R | exact bor_R | exact bshr_R | exact lcm_R | omega | (simp (disch := omega) only [e_q, e_z]; omega)) (fun hc => ?_) (fun hc => ?_))))))) <;> (try (simp (disch := omega) only [e_q, e_z] at hc ⊢)) <;> (first | (exfalso; omega) | skip))
      | (show Rch _ _ _ _ _ 65 _ _ _; refine Rch.blk' (Rn_mono mt _) bl_X3_forged_65 (i_iload rfl (t_iret ?_)))
      | (show Rch _ _ _ _ _ 68 _ _ _; refine Rch.blk' (Rn_mono mt _) bl_X3_forged_68 (i_iinc4 trivial k_1 (t_goto 25 rfl ?_)))
      | (show Rch _ _ _ _ _ 74 _ _ _; refine Rch.blk' (Rn_mono mt _) bl_X3_forged_74 (i_bipush k_m4 (t_iret ?_))))
  repeat' (first
    | exact key (by omega) (by omega) (by omega) 0 (by have := (hK x (by omega) (by omega)).2.2 (by omega); omega) (by omega) (fun j _ _ => by omega) _
    | exact kr _ (by unfold rfu; omega) (by omega)
    | (show Rn _ _ 57 _ _ _; refine c_X3_shelfAt (by first | omega | exact hI_R) (fun _ _ => ?_) (fun _ => ?_))
    | (show Rn _ _ 58 _ _ _; refine c_X3_refusalUnless_n ?_)
    | (show Rn _ _ 58 _ _ _; refine c_X3_refusalUnless_s (by assumption) (by omega) (by assumption) (by assumption) (fun _ => ?_) (fun _ _ => ?_) (fun _ _ => ?_))
    | (show Rn _ _ 1 _ _ _; refine c_X0_has (by assumption) (by assumption) (by first | omega | exact hI_R) (fun _ _ => ?_) (fun _ => ?_))
    | (show Rn _ _ 50 _ _ _; refine c_X2_elementAt (by assumption) (by assumption) (by first | omega | exact hI_R) (by assumption) (by assumption) (by assumption) (fun _ _ _ => ?_) (fun _ => ?_))
    | (show Rch _ _ _ _ _ 0 _ _ _; refine Rch.blk' (Rn_mono mt _) bl_X3_forged_0 (i_aload_n rfl (i_iload_n rfl (t_cv2 (Rn_mono mt _) 5 rfl (Nat.le_of_ble_eq_true rfl) ?_))))
    | (show Rch _ _ _ _ _ 5 _ _ _; refine Rch.blk' (Rn_mono mt _) bl_X3_forged_5 (i_astore2 trivial (i_aload_n rfl (i_iconst k_2 (t_cs2 (Rn_mono mt _) 11 rfl (Nat.le_of_ble_eq_true rfl) ?_)))))
    | (show Rch _ _ _ _ _ 11 _ _ _; refine Rch.blk' (Rn_mono mt _) bl_X3_forged_11 (i_istore3 trivial (i_aload_n rfl (t_ifnull_n 20 rfl ?_))))
    | (show Rch _ _ _ _ _ 11 _ _ _; refine Rch.blk' (Rn_mono mt _) bl_X3_forged_11 (i_istore3 trivial (i_aload_n rfl (t_ifnull_s 16 rfl ?_))))
    | (show Rch _ _ _ _ _ 16 _ _ _; refine Rch.blk' (Rn_mono mt _) bl_X3_forged_16 (i_iload_n rfl (t_if_eq 22 20 rfl rfl (by first | exact hI_R | exact band_R | exact bor_R | exact bshr_R | exact lcm_R | omega | (simp (disch := omega) only [e_z]; omega)) (fun hc => ?_) (fun hc => ?_))) <;> (first | (exfalso; omega) | skip))
    | (show Rch _ _ _ _ _ 20 _ _ _; refine Rch.blk' (Rn_mono mt _) bl_X3_forged_20 (i_iload_n rfl (t_iret ?_)))
    | (show Rch _ _ _ _ _ 22 _ _ _; refine Rch.blk' (Rn_mono mt _) bl_X3_forged_22 (i_iconst k_0 (i_istore4 trivial (t_none ?_))))
    | (show Rch _ _ _ _ _ 34 _ _ _; refine Rch.blk' (Rn_mono mt _) bl_X3_forged_34 (i_aload_n rfl (i_gfs rfl (i_iload rfl (t_cv2 (Rn_mono mt _) 43 rfl (Nat.le_of_ble_eq_true rfl) ?_)))) <;> (try (simp (disch := omega) only [e_z])))
    | (show Rch _ _ _ _ _ 43 _ _ _; refine Rch.blk' (Rn_mono mt _) bl_X3_forged_43 (t_if_eq 65 46 rfl rfl (by first | exact hI_R | exact band_R | exact bor_R | exact bshr_R | exact lcm_R | omega | (simp (disch := omega) only [e_z]; omega)) (fun hc => ?_) (fun hc => ?_)) <;> (first | (exfalso; omega) | skip))
    | (show Rch _ _ _ _ _ 46 _ _ _; refine Rch.blk' (Rn_mono mt _) bl_X3_forged_46 (i_aload_n rfl (i_iload rfl (t_cv2 (Rn_mono mt _) 52 rfl (Nat.le_of_ble_eq_true rfl) ?_))))
    | (show Rch _ _ _ _ _ 52 _ _ _; refine Rch.blk' (Rn_mono mt _) bl_X3_forged_52 (i_aload_n rfl (i_gfs rfl (i_gfr rfl (i_iload rfl (i_iald (n := 10) rfl (by first | omega | (simp (disch := omega) only [e_z]; omega)) (by first | omega | (simp (disch := omega) only [e_z]; omega)) (by first | omega | (simp (disch := omega) only [e_z]; omega)) (t_ic_eq 68 65 rfl rfl (by first | exact hI_R | exact band_R | exact bor_R | exact bshr_R | exact lcm_R | omega | (simp (disch := omega) only [e_z]; omega)) (by first | exact hI_R | exact band_R | exact bor_R | exact bshr_R | exact lcm_R | omega | (simp (disch := omega) only [e_z]; omega)) (fun hc => ?_) (fun hc => ?_))))))) <;> (try (simp (disch := omega) only [e_z] at hc ⊢)) <;> (first | (exfalso; omega) | skip))
    | (show Rch _ _ _ _ _ 65 _ _ _; refine Rch.blk' (Rn_mono mt _) bl_X3_forged_65 (i_iload rfl (t_iret ?_)))
    | (show Rch _ _ _ _ _ 68 _ _ _; refine Rch.blk' (Rn_mono mt _) bl_X3_forged_68 (i_iinc4 trivial k_1 (t_goto 25 rfl ?_)))
    | (show Rch _ _ _ _ _ 74 _ _ _; refine Rch.blk' (Rn_mono mt _) bl_X3_forged_74 (i_bipush k_m4 (t_iret ?_))))
theorem c_X3_judge (hG : RC h 0 G) (hO : OKB G) (hy : dy G ≤ 999) (hS : SC h S) (hK : OKS S) {x : Int} (hx : inR x) (hq : ∀ v h', v = vJudge G S x → JX h h' → Q (some (ai (I v))) h') : Rn mt (d + 20) 93 [ar 2 0, ai (I x)] h Q := by
  refine Rn.intro iX3_judge rfl rfl ?_
  show Rch bX3_judge _ _ _ _ 0 [some (ar 2 0), some (ai (I x)), none, none, none] [] _
  have e_z0 := fun a b => @SC.z _ _ x hS a b
  have kr : ∀ u, u = rfu S x 2 → ¬ u = 0 → Q (some (ai (I u))) h := fun u e a => hq _ _ (by unfold vJudge; rw [if_neg (by omega)]; exact e) JX.rf
  have key : 0 ≤ x → x < 8 → ho S x = 2 → ∀ k : Int, k ≤ sz S x → 0 ≤ k → (∀ j : Int, 0 ≤ j → j < k → ¬ JP G S x j) → ∀ (u m : Int) (h' : Mem), (k = 0 ∧ m = 0) ∨ (0 < k ∧ m = k - 1) → RC h' 2 (DN G no0 m) → FrC h h' 2 → RH bX3_judge (d + 19) Q 36 [some (ar 2 0), some (ai (I x)), some (ar 1 x.toNat), some (ai (I u)), some (ai (I k))] h' := by
    intro x0 x1 hh
    have r0 : rfu S x 2 = 0 := by unfold rfu; rw [if_pos ⟨x0, x1⟩, if_neg (by omega), if_pos hh]
    have g := (hK x x0 x1).2.2 hh
    refine up_ind (fun k hk ih hk0 hn u m h' hm hR hF => ?_)
    have hS' : SC h' S := hS.fr (fun t b j ht => hF t b j (by omega))
    have e_z := hS'.z x0 x1 hh
    have kE : sz S x ≤ k → Q (some (ai (I (-4)))) h' := fun a => hq _ _ (by unfold vJudge; rw [if_pos r0]; exact (fst_no (fun j j0 j1 => hn j j0 (by omega))).symm) (hF.jx (by omega))
    obtain ⟨hOm, -, hdm, -⟩ := DN_f (M := no0) hO m (by omega)
    have hmid : k < sz S x → ∀ h2, RC h2 2 (DN G no0 k) → FrC h h2 2 → Rch bX3_judge (Rn mt (d + 19)) 0 (fun _ _ _ _ => False) Q 60 [some (ar 2 0), some (ai (I x)), some (ar 1 x.toNat), some (ai (I u)), some (ai (I k))] [] h2 := by
      intro hks h2 hR2 hF2
      have hS2 : SC h2 S := hS.fr (fun t b j ht => hF2 t b j (by omega))
      have hOk := (DN_f (M := no0) hO k hk0).1
      have kH : ∀ _u : Unit, ¬ (el S x k = lst (so S x) ∨ el S x k = NT (DN G no0 k)) → Q (some (ai (I k))) h2 := fun _ b => hq _ _ (by unfold vJudge; rw [if_pos r0]; exact (fst_is hk0 hks b hn).symm) (hF2.jx (by omega))
      have ih2 : ∀ _u : Unit, (el S x k = lst (so S x) ∨ el S x k = NT (DN G no0 k)) → RH bX3_judge (d + 19) Q 36 [some (ar 2 0), some (ai (I x)), some (ar 1 x.toNat), some (ai (I u)), some (ai (I (k + 1)))] h2 := fun _ b => ih hks (by omega) (no_up hn (fun z => z b)) u k h2 (Or.inr ⟨by omega, by omega⟩) hR2 hF2
      clear ih hn
      repeat' (first
        | exact kH () (by omega)
        | exact ih2 () (by omega)
        | (show Rn _ _ 57 _ _ _; refine c_X3_shelfAt (by first | omega | exact hI_R) (fun _ _ => ?_) (fun _ => ?_))
        | (show Rn _ _ 58 _ _ _; refine c_X3_refusalUnless_n ?_)
        | (show Rn _ _ 58 _ _ _; refine c_X3_refusalUnless_s (by assumption) (by omega) (by assumption) (by assumption) (fun _ => ?_) (fun _ _ => ?_) (fun _ _ => ?_))
        | (show Rn _ _ 52 _ _ _; refine c_X2_isSkipped (by assumption) (by assumption) (by assumption) (by assumption) (by assumption) (by omega) (by omega) (fun _ => ?_) (fun _ => ?_))
        | (show Rn _ _ 50 _ _ _; refine c_X2_elementAt (by assumption) (by assumption) (by first | omega | exact hI_R) (by assumption) (by assumption) (by assumption) (fun _ _ _ => ?_) (fun _ => ?_))
        | (show Rn _ _ 34 _ _ _; refine c_X0_howManyThere (by assumption) (by assumption) (fun _ _ => ?_))
        | (show Rch _ _ _ _ _ 0 _ _ _; refine Rch.blk' (Rn_mono mt _) bl_X3_judge_0 (i_aload_n rfl (i_iload_n rfl (t_cv2 (Rn_mono mt _) 5 rfl (Nat.le_of_ble_eq_true rfl) ?_))))
        | (show Rch _ _ _ _ _ 5 _ _ _; refine Rch.blk' (Rn_mono mt _) bl_X3_judge_5 (i_astore2 trivial (i_aload_n rfl (i_iconst k_2 (t_cs2 (Rn_mono mt _) 11 rfl (Nat.le_of_ble_eq_true rfl) ?_)))))
        | (show Rch _ _ _ _ _ 11 _ _ _; refine Rch.blk' (Rn_mono mt _) bl_X3_judge_11 (i_istore3 trivial (i_aload_n rfl (t_ifnull_n 20 rfl ?_))))
        | (show Rch _ _ _ _ _ 11 _ _ _; refine Rch.blk' (Rn_mono mt _) bl_X3_judge_11 (i_istore3 trivial (i_aload_n rfl (t_ifnull_s 16 rfl ?_))))
        | (show Rch _ _ _ _ _ 16 _ _ _; refine Rch.blk' (Rn_mono mt _) bl_X3_judge_16 (i_iload_n rfl (t_if_eq 22 20 rfl rfl (by first | exact hI_R | exact band_R | exact bor_R | exact bshr_R | exact lcm_R | omega) (fun hc => ?_) (fun hc => ?_))) <;> (first | (exfalso; omega) | skip))
        | (show Rch _ _ _ _ _ 20 _ _ _; refine Rch.blk' (Rn_mono mt _) bl_X3_judge_20 (i_iload_n rfl (t_iret ?_)))
        | (show Rch _ _ _ _ _ 22 _ _ _; refine Rch.blk' (Rn_mono mt _) bl_X3_judge_22 (i_aload_n rfl (i_gfs rfl (i_aload_n rfl (i_gfs rfl (t_cv2 (Rn_mono mt _) 33 rfl (Nat.le_of_ble_eq_true rfl) ?_))))))
        | (show Rch _ _ _ _ _ 33 _ _ _; refine Rch.blk' (Rn_mono mt _) bl_X3_judge_33 (i_iconst k_0 (i_istore4 trivial (t_none ?_))))
        | (show Rch _ _ _ _ _ 45 _ _ _; refine Rch.blk' (Rn_mono mt _) bl_X3_judge_45 (i_iload rfl (t_if_le 60 50 rfl rfl (by first | exact hI_R | exact band_R | exact bor_R | exact bshr_R | exact lcm_R | omega) (fun hc => ?_) (fun hc => ?_))) <;> (first | (exfalso; omega) | skip))
        | (show Rch _ _ _ _ _ 50 _ _ _; refine Rch.blk' (Rn_mono mt _) bl_X3_judge_50 (i_aload_n rfl (i_gfs rfl (i_iconst k_0 (i_iconst k_0 (t_cv3 (Rn_mono mt _) 59 rfl (Nat.le_of_ble_eq_true rfl) ?_))))))
        | (show Rch _ _ _ _ _ 59 _ _ _; refine Rch.blk' (Rn_mono mt _) bl_X3_judge_59 (i_pop rfl (t_none ?_)))
        | (show Rch _ _ _ _ _ 60 _ _ _; refine Rch.blk' (Rn_mono mt _) bl_X3_judge_60 (i_aload_n rfl (i_iload rfl (t_cv2 (Rn_mono mt _) 66 rfl (Nat.le_of_ble_eq_true rfl) ?_))))
        | (show Rch _ _ _ _ _ 66 _ _ _; refine Rch.blk' (Rn_mono mt _) bl_X3_judge_66 (t_if_ne 88 69 rfl rfl (by first | exact hI_R | exact band_R | exact bor_R | exact bshr_R | exact lcm_R | omega) (fun hc => ?_) (fun hc => ?_)) <;> (first | (exfalso; omega) | skip))
        | (show Rch _ _ _ _ _ 69 _ _ _; refine Rch.blk' (Rn_mono mt _) bl_X3_judge_69 (i_aload_n rfl (i_iload rfl (t_cv2 (Rn_mono mt _) 75 rfl (Nat.le_of_ble_eq_true rfl) ?_))))
        | (show Rch _ _ _ _ _ 75 _ _ _; refine Rch.blk' (Rn_mono mt _) bl_X3_judge_75 (i_aload_n rfl (i_gfs rfl (t_cv1 (Rn_mono mt _) 82 rfl (Nat.le_of_ble_eq_true rfl) ?_))))
        | (show Rch _ _ _ _ _ 82 _ _ _; refine Rch.blk' (Rn_mono mt _) bl_X3_judge_82 (t_ic_eq 88 85 rfl rfl (by first | exact hI_R | exact band_R | exact bor_R | exact bshr_R | exact lcm_R | omega) (by first | exact hI_R | exact band_R | exact bor_R | exact bshr_R | exact lcm_R | omega) (fun hc => ?_) (fun hc => ?_)) <;> (first | (exfalso; omega) | skip))
        | (show Rch _ _ _ _ _ 85 _ _ _; refine Rch.blk' (Rn_mono mt _) bl_X3_judge_85 (i_iload rfl (t_iret ?_)))
        | (show Rch _ _ _ _ _ 88 _ _ _; refine Rch.blk' (Rn_mono mt _) bl_X3_judge_88 (i_iinc4 trivial k_1 (t_goto 36 rfl ?_)))
        | (show Rch _ _ _ _ _ 94 _ _ _; refine Rch.blk' (Rn_mono mt _) bl_X3_judge_94 (i_bipush k_m4 (t_iret ?_))))
    clear ih hn
    refine Rch.blk' (Rn_mono mt _) bl_X3_judge_36 (i_iload rfl (i_aload_n rfl (i_gfi rfl (t_ic_ge 94 45 rfl rfl (by first | exact hI_R | exact band_R | exact bor_R | exact bshr_R | exact lcm_R | omega | (simp (disch := omega) only [e_z]; omega)) (by first | exact hI_R | exact band_R | exact bor_R | exact bshr_R | exact lcm_R | omega | (simp (disch := omega) only [e_z]; omega)) (fun hc => ?_) (fun hc => ?_))))) <;> (try (simp (disch := omega) only [e_z] at hc ⊢)) <;> (first | (exfalso; omega) | skip)
    · skip
      repeat' (first
        | exact kE (by omega)
        | (show Rn _ _ 57 _ _ _; refine c_X3_shelfAt (by first | omega | exact hI_R) (fun _ _ => ?_) (fun _ => ?_))
        | (show Rn _ _ 58 _ _ _; refine c_X3_refusalUnless_n ?_)
        | (show Rn _ _ 58 _ _ _; refine c_X3_refusalUnless_s (by assumption) (by omega) (by assumption) (by assumption) (fun _ => ?_) (fun _ _ => ?_) (fun _ _ => ?_))
        | (show Rn _ _ 52 _ _ _; refine c_X2_isSkipped (by assumption) (by assumption) (by assumption) (by assumption) (by assumption) (by omega) (by omega) (fun _ => ?_) (fun _ => ?_))
        | (show Rn _ _ 50 _ _ _; refine c_X2_elementAt (by assumption) (by assumption) (by first | omega | exact hI_R) (by assumption) (by assumption) (by assumption) (fun _ _ _ => ?_) (fun _ => ?_))
        | (show Rn _ _ 34 _ _ _; refine c_X0_howManyThere (by assumption) (by assumption) (fun _ _ => ?_))
        | (show Rch _ _ _ _ _ 0 _ _ _; refine Rch.blk' (Rn_mono mt _) bl_X3_judge_0 (i_aload_n rfl (i_iload_n rfl (t_cv2 (Rn_mono mt _) 5 rfl (Nat.le_of_ble_eq_true rfl) ?_))))
        | (show Rch _ _ _ _ _ 5 _ _ _; refine Rch.blk' (Rn_mono mt _) bl_X3_judge_5 (i_astore2 trivial (i_aload_n rfl (i_iconst k_2 (t_cs2 (Rn_mono mt _) 11 rfl (Nat.le_of_ble_eq_true rfl) ?_)))))
        | (show Rch _ _ _ _ _ 11 _ _ _; refine Rch.blk' (Rn_mono mt _) bl_X3_judge_11 (i_istore3 trivial (i_aload_n rfl (t_ifnull_n 20 rfl ?_))))
        | (show Rch _ _ _ _ _ 11 _ _ _; refine Rch.blk' (Rn_mono mt _) bl_X3_judge_11 (i_istore3 trivial (i_aload_n rfl (t_ifnull_s 16 rfl ?_))))
        | (show Rch _ _ _ _ _ 16 _ _ _; refine Rch.blk' (Rn_mono mt _) bl_X3_judge_16 (i_iload_n rfl (t_if_eq 22 20 rfl rfl (by first | exact hI_R | exact band_R | exact bor_R | exact bshr_R | exact lcm_R | omega) (fun hc => ?_) (fun hc => ?_))) <;> (first | (exfalso; omega) | skip))
        | (show Rch _ _ _ _ _ 20 _ _ _; refine Rch.blk' (Rn_mono mt _) bl_X3_judge_20 (i_iload_n rfl (t_iret ?_)))
        | (show Rch _ _ _ _ _ 22 _ _ _; refine Rch.blk' (Rn_mono mt _) bl_X3_judge_22 (i_aload_n rfl (i_gfs rfl (i_aload_n rfl (i_gfs rfl (t_cv2 (Rn_mono mt _) 33 rfl (Nat.le_of_ble_eq_true rfl) ?_))))))
        | (show Rch _ _ _ _ _ 33 _ _ _; refine Rch.blk' (Rn_mono mt _) bl_X3_judge_33 (i_iconst k_0 (i_istore4 trivial (t_none ?_))))
        | (show Rch _ _ _ _ _ 45 _ _ _; refine Rch.blk' (Rn_mono mt _) bl_X3_judge_45 (i_iload rfl (t_if_le 60 50 rfl rfl (by first | exact hI_R | exact band_R | exact bor_R | exact bshr_R | exact lcm_R | omega) (fun hc => ?_) (fun hc => ?_))) <;> (first | (exfalso; omega) | skip))
        | (show Rch _ _ _ _ _ 50 _ _ _; refine Rch.blk' (Rn_mono mt _) bl_X3_judge_50 (i_aload_n rfl (i_gfs rfl (i_iconst k_0 (i_iconst k_0 (t_cv3 (Rn_mono mt _) 59 rfl (Nat.le_of_ble_eq_true rfl) ?_))))))
        | (show Rch _ _ _ _ _ 59 _ _ _; refine Rch.blk' (Rn_mono mt _) bl_X3_judge_59 (i_pop rfl (t_none ?_)))
        | (show Rch _ _ _ _ _ 60 _ _ _; refine Rch.blk' (Rn_mono mt _) bl_X3_judge_60 (i_aload_n rfl (i_iload rfl (t_cv2 (Rn_mono mt _) 66 rfl (Nat.le_of_ble_eq_true rfl) ?_))))
        | (show Rch _ _ _ _ _ 66 _ _ _; refine Rch.blk' (Rn_mono mt _) bl_X3_judge_66 (t_if_ne 88 69 rfl rfl (by first | exact hI_R | exact band_R | exact bor_R | exact bshr_R | exact lcm_R | omega) (fun hc => ?_) (fun hc => ?_)) <;> (first | (exfalso; omega) | skip))
        | (show Rch _ _ _ _ _ 69 _ _ _; refine Rch.blk' (Rn_mono mt _) bl_X3_judge_69 (i_aload_n rfl (i_iload rfl (t_cv2 (Rn_mono mt _) 75 rfl (Nat.le_of_ble_eq_true rfl) ?_))))
        | (show Rch _ _ _ _ _ 75 _ _ _; refine Rch.blk' (Rn_mono mt _) bl_X3_judge_75 (i_aload_n rfl (i_gfs rfl (t_cv1 (Rn_mono mt _) 82 rfl (Nat.le_of_ble_eq_true rfl) ?_))))
        | (show Rch _ _ _ _ _ 82 _ _ _; refine Rch.blk' (Rn_mono mt _) bl_X3_judge_82 (t_ic_eq 88 85 rfl rfl (by first | exact hI_R | exact band_R | exact bor_R | exact bshr_R | exact lcm_R | omega) (by first | exact hI_R | exact band_R | exact bor_R | exact bshr_R | exact lcm_R | omega) (fun hc => ?_) (fun hc => ?_)) <;> (first | (exfalso; omega) | skip))
        | (show Rch _ _ _ _ _ 85 _ _ _; refine Rch.blk' (Rn_mono mt _) bl_X3_judge_85 (i_iload rfl (t_iret ?_)))
        | (show Rch _ _ _ _ _ 88 _ _ _; refine Rch.blk' (Rn_mono mt _) bl_X3_judge_88 (i_iinc4 trivial k_1 (t_goto 36 rfl ?_)))
        | (show Rch _ _ _ _ _ 94 _ _ _; refine Rch.blk' (Rn_mono mt _) bl_X3_judge_94 (i_bipush k_m4 (t_iret ?_))))
    · by_cases k0 : k = 0
      · have hm0 : m = k := by omega
        rw [hm0] at hR
        refine Rch.blk' (Rn_mono mt _) bl_X3_judge_45 (i_iload rfl (t_if_le 60 50 rfl rfl (by first | exact hI_R | exact band_R | exact bor_R | exact bshr_R | exact lcm_R | omega) (fun hc => ?_) (fun hc => ?_))) <;> (first | (exfalso; omega) | skip)
        exact hmid (by omega) _ hR hF
      · have hm0 : m + 1 = k := by omega
        refine Rch.blk' (Rn_mono mt _) bl_X3_judge_45 (i_iload rfl (t_if_le 60 50 rfl rfl (by first | exact hI_R | exact band_R | exact bor_R | exact bshr_R | exact lcm_R | omega) (fun hc => ?_) (fun hc => ?_))) <;> (first | (exfalso; omega) | skip)
        refine Rch.blk' (Rn_mono mt _) bl_X3_judge_50 (i_aload_n rfl (i_gfs rfl (i_iconst k_0 (i_iconst k_0 (t_cv3 (Rn_mono mt _) 59 rfl (Nat.le_of_ble_eq_true rfl) ?_)))))
        refine c_X0_passDay0 hR hOm (by omega) (by omega) (fun h2 hG2 hF2 v _ => ?_)
        rw [← DN_up (by omega), hm0] at hG2
        refine Rch.blk' (Rn_mono mt _) bl_X3_judge_59 (i_pop rfl (t_none ?_))
        exact hmid (by omega) _ hG2 (hF.tr hF2)
  repeat' (first
    | (show Rn _ _ 0 _ _ _; refine c_X0_becomes hG hO (by decide) (fun _ _ _ => ?_))
    | exact key (by omega) (by omega) (by omega) 0 (by have := (hK x (by omega) (by omega)).2.2 (by omega); omega) (by omega) (fun j _ _ => by omega) _ 0 _ (Or.inl ⟨rfl, rfl⟩) (by assumption) (by assumption)
    | exact kr _ (by unfold rfu; omega) (by omega)
    | (show Rn _ _ 57 _ _ _; refine c_X3_shelfAt (by first | omega | exact hI_R) (fun _ _ => ?_) (fun _ => ?_))
    | (show Rn _ _ 58 _ _ _; refine c_X3_refusalUnless_n ?_)
    | (show Rn _ _ 58 _ _ _; refine c_X3_refusalUnless_s (by assumption) (by omega) (by assumption) (by assumption) (fun _ => ?_) (fun _ _ => ?_) (fun _ _ => ?_))
    | (show Rn _ _ 52 _ _ _; refine c_X2_isSkipped (by assumption) (by assumption) (by assumption) (by assumption) (by assumption) (by omega) (by omega) (fun _ => ?_) (fun _ => ?_))
    | (show Rn _ _ 50 _ _ _; refine c_X2_elementAt (by assumption) (by assumption) (by first | omega | exact hI_R) (by assumption) (by assumption) (by assumption) (fun _ _ _ => ?_) (fun _ => ?_))
    | (show Rn _ _ 34 _ _ _; refine c_X0_howManyThere (by assumption) (by assumption) (fun _ _ => ?_))
    | (show Rch _ _ _ _ _ 0 _ _ _; refine Rch.blk' (Rn_mono mt _) bl_X3_judge_0 (i_aload_n rfl (i_iload_n rfl (t_cv2 (Rn_mono mt _) 5 rfl (Nat.le_of_ble_eq_true rfl) ?_))))
    | (show Rch _ _ _ _ _ 5 _ _ _; refine Rch.blk' (Rn_mono mt _) bl_X3_judge_5 (i_astore2 trivial (i_aload_n rfl (i_iconst k_2 (t_cs2 (Rn_mono mt _) 11 rfl (Nat.le_of_ble_eq_true rfl) ?_)))))
    | (show Rch _ _ _ _ _ 11 _ _ _; refine Rch.blk' (Rn_mono mt _) bl_X3_judge_11 (i_istore3 trivial (i_aload_n rfl (t_ifnull_n 20 rfl ?_))))
    | (show Rch _ _ _ _ _ 11 _ _ _; refine Rch.blk' (Rn_mono mt _) bl_X3_judge_11 (i_istore3 trivial (i_aload_n rfl (t_ifnull_s 16 rfl ?_))))
    | (show Rch _ _ _ _ _ 16 _ _ _; refine Rch.blk' (Rn_mono mt _) bl_X3_judge_16 (i_iload_n rfl (t_if_eq 22 20 rfl rfl (by first | exact hI_R | exact band_R | exact bor_R | exact bshr_R | exact lcm_R | omega) (fun hc => ?_) (fun hc => ?_))) <;> (first | (exfalso; omega) | skip))
    | (show Rch _ _ _ _ _ 20 _ _ _; refine Rch.blk' (Rn_mono mt _) bl_X3_judge_20 (i_iload_n rfl (t_iret ?_)))
    | (show Rch _ _ _ _ _ 22 _ _ _; refine Rch.blk' (Rn_mono mt _) bl_X3_judge_22 (i_aload_n rfl (i_gfs rfl (i_aload_n rfl (i_gfs rfl (t_cv2 (Rn_mono mt _) 33 rfl (Nat.le_of_ble_eq_true rfl) ?_))))))
    | (show Rch _ _ _ _ _ 33 _ _ _; refine Rch.blk' (Rn_mono mt _) bl_X3_judge_33 (i_iconst k_0 (i_istore4 trivial (t_none ?_))))
    | (show Rch _ _ _ _ _ 45 _ _ _; refine Rch.blk' (Rn_mono mt _) bl_X3_judge_45 (i_iload rfl (t_if_le 60 50 rfl rfl (by first | exact hI_R | exact band_R | exact bor_R | exact bshr_R | exact lcm_R | omega) (fun hc => ?_) (fun hc => ?_))) <;> (first | (exfalso; omega) | skip))
    | (show Rch _ _ _ _ _ 50 _ _ _; refine Rch.blk' (Rn_mono mt _) bl_X3_judge_50 (i_aload_n rfl (i_gfs rfl (i_iconst k_0 (i_iconst k_0 (t_cv3 (Rn_mono mt _) 59 rfl (Nat.le_of_ble_eq_true rfl) ?_))))))
    | (show Rch _ _ _ _ _ 59 _ _ _; refine Rch.blk' (Rn_mono mt _) bl_X3_judge_59 (i_pop rfl (t_none ?_)))
    | (show Rch _ _ _ _ _ 60 _ _ _; refine Rch.blk' (Rn_mono mt _) bl_X3_judge_60 (i_aload_n rfl (i_iload rfl (t_cv2 (Rn_mono mt _) 66 rfl (Nat.le_of_ble_eq_true rfl) ?_))))
    | (show Rch _ _ _ _ _ 66 _ _ _; refine Rch.blk' (Rn_mono mt _) bl_X3_judge_66 (t_if_ne 88 69 rfl rfl (by first | exact hI_R | exact band_R | exact bor_R | exact bshr_R | exact lcm_R | omega) (fun hc => ?_) (fun hc => ?_)) <;> (first | (exfalso; omega) | skip))
    | (show Rch _ _ _ _ _ 69 _ _ _; refine Rch.blk' (Rn_mono mt _) bl_X3_judge_69 (i_aload_n rfl (i_iload rfl (t_cv2 (Rn_mono mt _) 75 rfl (Nat.le_of_ble_eq_true rfl) ?_))))
    | (show Rch _ _ _ _ _ 75 _ _ _; refine Rch.blk' (Rn_mono mt _) bl_X3_judge_75 (i_aload_n rfl (i_gfs rfl (t_cv1 (Rn_mono mt _) 82 rfl (Nat.le_of_ble_eq_true rfl) ?_))))
    | (show Rch _ _ _ _ _ 82 _ _ _; refine Rch.blk' (Rn_mono mt _) bl_X3_judge_82 (t_ic_eq 88 85 rfl rfl (by first | exact hI_R | exact band_R | exact bor_R | exact bshr_R | exact lcm_R | omega) (by first | exact hI_R | exact band_R | exact bor_R | exact bshr_R | exact lcm_R | omega) (fun hc => ?_) (fun hc => ?_)) <;> (first | (exfalso; omega) | skip))
    | (show Rch _ _ _ _ _ 85 _ _ _; refine Rch.blk' (Rn_mono mt _) bl_X3_judge_85 (i_iload rfl (t_iret ?_)))
    | (show Rch _ _ _ _ _ 88 _ _ _; refine Rch.blk' (Rn_mono mt _) bl_X3_judge_88 (i_iinc4 trivial k_1 (t_goto 36 rfl ?_)))
    | (show Rch _ _ _ _ _ 94 _ _ _; refine Rch.blk' (Rn_mono mt _) bl_X3_judge_94 (i_bipush k_m4 (t_iret ?_))))
theorem c_X4_leastOf {s : Int} (hs : inR s) (hq : Q (some (ai (I (lst s)))) h) : Rn mt (d + 1) 179 [ai (I s)] h Q := by
  refine Rn.intro iX4_leastOf rfl rfl ?_
  show Rch bX4_leastOf _ _ _ _ 0 [some (ai (I s))] [] _
  have kk : ∀ v, v = lst s → Q (some (ai (I v))) h := fun v e => by rw [e]; exact hq
  repeat' (first
    | exact kk _ (by unfold lst; omega)
    | (show Rch _ _ _ _ _ 0 _ _ _; refine Rch.blk' (Rn_mono mt _) bl_X4_leastOf_0 (i_iload_n rfl (t_if_ne 9 4 rfl rfl (by first | exact hI_R | exact band_R | exact bor_R | exact bshr_R | exact lcm_R | omega) (fun hc => ?_) (fun hc => ?_))) <;> (first | (exfalso; omega) | skip))
    | (show Rch _ _ _ _ _ 4 _ _ _; refine Rch.blk' (Rn_mono mt _) bl_X4_leastOf_4 (i_bipush k_m128 (t_goto 22 rfl ?_)))
    | (show Rch _ _ _ _ _ 9 _ _ _; refine Rch.blk' (Rn_mono mt _) bl_X4_leastOf_9 (i_iload_n rfl (i_iconst k_1 (t_ic_ne 20 14 rfl rfl (by first | exact hI_R | exact band_R | exact bor_R | exact bshr_R | exact lcm_R | omega) (by first | exact hI_R | exact band_R | exact bor_R | exact bshr_R | exact lcm_R | omega) (fun hc => ?_) (fun hc => ?_)))) <;> (first | (exfalso; omega) | skip))
    | (show Rch _ _ _ _ _ 14 _ _ _; refine Rch.blk' (Rn_mono mt _) bl_X4_leastOf_14 (i_sipush k_m32768 (t_goto 22 rfl ?_)))
    | (show Rch _ _ _ _ _ 20 _ _ _; refine Rch.blk' (Rn_mono mt _) bl_X4_leastOf_20 (i_ldc k_m2147483648 (t_none ?_)))
    | (show Rch _ _ _ _ _ 22 _ _ _; refine Rch.blk' (Rn_mono mt _) bl_X4_leastOf_22 (t_iret ?_)))
theorem c_X4_isTold (hS : SR h S) (hK : OKS S) {z i v : Int} (hv : inR v) (z0 : 0 ≤ z) (z1 : z < 8) (hh : ho S z = 2) (i0 : 0 ≤ i) (i1 : i < sz S z) (h1 : (el S z i = lst (so S z) ∨ el S z i = v) → Q (some (ai (I 1))) h) (h0 : ¬ (el S z i = lst (so S z) ∨ el S z i = v) → Q (some (ai (I 0))) h) : Rn mt (d + 2) 180 [ar 3 0, ai (I z), ai (I i), ai (I v)] h Q := by
  refine Rn.intro iX4_isTold rfl rfl ?_
  show Rch bX4_isTold _ _ _ _ 0 [some (ar 3 0), some (ai (I z)), some (ai (I i)), some (ai (I v))] [] _
  have g := (hK z z0 z1).2.2 hh
  have e_s := hS.s z0 z1 hh
  have e_e := hS.e z0 z1 hh i0 (show i < 100 by omega)
  have g_e : inR (el S z i) := by rw [← e_e]; exact hI_R
  have g_l : inR (lst (so S z)) := by unfold lst; omega
  repeat' (first
    | exact h1 (by omega)
    | exact h0 (by omega)
    | (show Rn _ _ 179 _ _ _; refine c_X4_leastOf (by first | omega | exact hI_R) ?_)
    | (show Rch _ _ _ _ _ 0 _ _ _; refine Rch.blk' (Rn_mono mt _) bl_X4_isTold_0 (i_aload_n rfl (i_gfs rfl (i_bipush k_100 (i_iload_n rfl (i_imul (i_iload_n rfl (i_iadd (i_iald (n := 800) rfl (by first | omega | (simp (disch := omega) only [e_s, e_e]; omega)) (by first | omega | (simp (disch := omega) only [e_s, e_e]; omega)) (by first | omega | (simp (disch := omega) only [e_s, e_e]; omega)) (i_aload_n rfl (i_gfs rfl (i_iload_n rfl (i_iald (n := 8) rfl (by first | omega | (simp (disch := omega) only [e_s, e_e]; omega)) (by first | omega | (simp (disch := omega) only [e_s, e_e]; omega)) (by first | omega | (simp (disch := omega) only [e_s, e_e]; omega)) (t_cs1 (Rn_mono mt _) 20 rfl (Nat.le_of_ble_eq_true rfl) ?_))))))))))))) <;> (try (simp (disch := omega) only [e_s, e_e])))
    | (show Rch _ _ _ _ _ 20 _ _ _; refine Rch.blk' (Rn_mono mt _) bl_X4_isTold_20 (t_ic_eq 38 23 rfl rfl (by first | exact hI_R | exact band_R | exact bor_R | exact bshr_R | exact lcm_R | omega | (simp (disch := omega) only [e_s, e_e]; omega)) (by first | exact hI_R | exact band_R | exact bor_R | exact bshr_R | exact lcm_R | omega | (simp (disch := omega) only [e_s, e_e]; omega)) (fun hc => ?_) (fun hc => ?_)) <;> (first | (exfalso; omega) | skip))
    | (show Rch _ _ _ _ _ 23 _ _ _; refine Rch.blk' (Rn_mono mt _) bl_X4_isTold_23 (i_aload_n rfl (i_gfs rfl (i_bipush k_100 (i_iload_n rfl (i_imul (i_iload_n rfl (i_iadd (i_iald (n := 800) rfl (by first | omega | (simp (disch := omega) only [e_s, e_e]; omega)) (by first | omega | (simp (disch := omega) only [e_s, e_e]; omega)) (by first | omega | (simp (disch := omega) only [e_s, e_e]; omega)) (i_iload_n rfl (t_ic_ne 42 38 rfl rfl (by first | exact hI_R | exact band_R | exact bor_R | exact bshr_R | exact lcm_R | omega | (simp (disch := omega) only [e_s, e_e]; omega)) (by first | exact hI_R | exact band_R | exact bor_R | exact bshr_R | exact lcm_R | omega | (simp (disch := omega) only [e_s, e_e]; omega)) (fun hc => ?_) (fun hc => ?_))))))))))) <;> (try (simp (disch := omega) only [e_s, e_e] at hc ⊢)) <;> (first | (exfalso; omega) | skip))
    | (show Rch _ _ _ _ _ 38 _ _ _; refine Rch.blk' (Rn_mono mt _) bl_X4_isTold_38 (i_iconst k_1 (t_goto 43 rfl ?_)))
    | (show Rch _ _ _ _ _ 42 _ _ _; refine Rch.blk' (Rn_mono mt _) bl_X4_isTold_42 (i_iconst k_0 (t_none ?_)))
    | (show Rch _ _ _ _ _ 43 _ _ _; refine Rch.blk' (Rn_mono mt _) bl_X4_isTold_43 (t_zret (by omega) ?_)))
theorem c_X4_toldSquare (hG : RR h 0 G M ra) (hO : OKB G) {z : Int} (z0 : 0 ≤ z) (z1 : z < nn G) (hq : Q (some (ai (I (sq G z)))) h) : Rn mt (d + 3) 181 [ar 12 0, ai (I z)] h Q := by
  refine Rn.intro iX4_toldSquare rfl rfl ?_
  show Rch bX4_toldSquare _ _ _ _ 0 [some (ar 12 0), some (ai (I z))] [] _
  have e_q := @RR.q _ _ _ _ _ hG
  have g_n := hO.n
  have g_4 := @m4_p
  have kk : ∀ v, v = sq G z → Q (some (ai (I v))) h := fun v e => by rw [e]; exact hq
  repeat' (first
    | exact kk _ (by omega)
    | (show Rn _ _ 114 _ _ _; refine c_X4_isHere (by assumption) (by assumption) (by omega) (by omega) (fun _ _ => ?_) (fun _ => ?_))
    | (show Rn _ _ 109 _ _ _; refine c_X4_of ?_)
    | (show Rch _ _ _ _ _ 0 _ _ _; refine Rch.blk' (Rn_mono mt _) bl_X4_toldSquare_0 (i_aload_n rfl (i_iload_n rfl (t_cs2 (Rn_mono mt _) 5 rfl (Nat.le_of_ble_eq_true rfl) ?_))))
    | (show Rch _ _ _ _ _ 5 _ _ _; refine Rch.blk' (Rn_mono mt _) bl_X4_toldSquare_5 (t_if_eq 18 8 rfl rfl (by first | exact hI_R | exact band_R | exact bor_R | exact bshr_R | exact lcm_R | omega | (simp (disch := omega) only [e_q, g_4]; omega)) (fun hc => ?_) (fun hc => ?_)) <;> (first | (exfalso; omega) | skip))
    | (show Rch _ _ _ _ _ 8 _ _ _; refine Rch.blk' (Rn_mono mt _) bl_X4_toldSquare_8 (i_aload_n rfl (i_iload_n rfl (i_iconst k_3 (t_cs2 (Rn_mono mt _) 14 rfl (Nat.le_of_ble_eq_true rfl) ?_)))))
    | (show Rch _ _ _ _ _ 14 _ _ _; refine Rch.blk' (Rn_mono mt _) bl_X4_toldSquare_14 (i_iald rfl (by first | omega | (simp (disch := omega) only [e_q, g_4]; omega)) (by simp only [aln]; omega) (by simp only [aln]; omega) (t_goto 20 rfl ?_)) <;> (try (simp (disch := omega) only [e_q, g_4])))
    | (show Rch _ _ _ _ _ 18 _ _ _; refine Rch.blk' (Rn_mono mt _) bl_X4_toldSquare_18 (i_bipush k_36 (t_none ?_)))
    | (show Rch _ _ _ _ _ 20 _ _ _; refine Rch.blk' (Rn_mono mt _) bl_X4_toldSquare_20 (t_iret ?_)))
theorem c_X4_forged (hG : RR h 0 G no0 0) (hO : OKB G) (hS : SR h S) (hK : OKS S) {x : Int} (hx : inR x) (hq : ∀ v h', v = vForged G S x → JY h h' → Q (some (ai (I v))) h') : Rn mt (d + 20) 191 [ar 3 0, ai (I x)] h Q := by
  refine Rn.intro iX4_forged rfl rfl ?_
  show Rch bX4_forged _ _ _ _ 0 [some (ar 3 0), some (ai (I x)), none, none] [] _
  have e_z := fun a b => @SR.z _ _ x hS a b
  have r1 : rfu S x 2 = 0 → (0 ≤ x ∧ x < 8) ∧ ho S x = 2 := fun e => by unfold rfu at e; omega
  have r2 : wrf S x (-1) = rfu S x 2 := by unfold wrf; rw [if_neg (by omega)]
  have kr : ∀ u, u = rfu S x 2 → ¬ u = 0 → Q (some (ai (I u))) h := fun u e a => hq _ _ (by unfold vForged; rw [if_neg (by omega)]; exact e) JY.rf
  have key : rfu S x 2 = 0 → ∀ k : Int, k ≤ sz S x → 0 ≤ k → (∀ j : Int, 0 ≤ j → j < k → ¬ FP G S x j) → ∀ u : Int, RH bX4_forged (d + 19) Q 15 [some (ar 3 0), some (ai (I x)), some (ai (I u)), some (ai (I k))] h := by
    intro r0
    obtain ⟨⟨x0, x1⟩, hh⟩ := r1 r0
    have g := (hK x x0 x1).2.2 hh
    refine up_ind (fun k hk ih hk0 hn u => ?_)
    have g_p := hO.pc k hk0
    have e_e := fun b => hS.e x0 x1 hh hk0 (show k < 100 from b)
    have g_e : k < 100 → inR (el S x k) := fun b => by rw [← e_e b]; exact hI_R
    have kE : sz S x ≤ k → Q (some (ai (I (-4)))) h := fun a => hq _ _ (by unfold vForged; rw [if_pos r0]; exact (fst_no (fun j j0 j1 => hn j j0 (by omega))).symm) JY.rf
    have kH : ∀ _u : Unit, k < sz S x → ¬ (k < nn G ∧ el S x k = sq G k) → Q (some (ai (I k))) h := fun _ a b => hq _ _ (by unfold vForged; rw [if_pos r0]; exact (fst_is hk0 a b hn).symm) JY.rf
    have ih2 : ∀ _u : Unit, k < sz S x → (k < nn G ∧ el S x k = sq G k) → RH bX4_forged (d + 19) Q 15 [some (ar 3 0), some (ai (I x)), some (ai (I u)), some (ai (I (k + 1)))] h := fun _ a b => ih a (by omega) (no_up hn (fun z => z b)) u
    clear ih hn
    refine Rch.blk' (Rn_mono mt _) bl_X4_forged_15 (i_iload_n rfl (i_aload_n rfl (i_gfs rfl (i_iload_n rfl (i_iald (n := 8) rfl (by first | omega | (simp (disch := omega) only [e_z]; omega)) (by first | omega | (simp (disch := omega) only [e_z]; omega)) (by first | omega | (simp (disch := omega) only [e_z]; omega)) (t_ic_ge 63 25 rfl rfl (by first | exact hI_R | exact band_R | exact bor_R | exact bshr_R | exact lcm_R | omega | (simp (disch := omega) only [e_z]; omega)) (by first | exact hI_R | exact band_R | exact bor_R | exact bshr_R | exact lcm_R | omega | (simp (disch := omega) only [e_z]; omega)) (fun hc => ?_) (fun hc => ?_))))))) <;> (try (simp (disch := omega) only [e_z] at hc ⊢)) <;> (first | (exfalso; omega) | skip)
    repeat' (first
      | exact kE (by omega)
      | exact kH () (by omega) (by omega)
      | exact ih2 () (by omega) (by omega)
      | (show Rn _ _ 146 _ _ _; refine c_X4_wrongRow (by assumption) (by assumption) (by omega) (fun _ _ _ _ => ?_))
      | (show Rn _ _ 110 _ _ _; refine c_X4_isPiece (by assumption) (by assumption) (by first | omega | exact hI_R) (fun _ _ => ?_) (fun _ => ?_))
      | (show Rn _ _ 181 _ _ _; refine c_X4_toldSquare (by assumption) (by assumption) (by omega) (by omega) ?_)
      | (show Rch _ _ _ _ _ 0 _ _ _; refine Rch.blk' (Rn_mono mt _) bl_X4_forged_0 (i_aload_n rfl (i_iload_n rfl (i_iconst k_m1 (t_cv3 (Rn_mono mt _) 6 rfl (Nat.le_of_ble_eq_true rfl) ?_)))))
      | (show Rch _ _ _ _ _ 6 _ _ _; refine Rch.blk' (Rn_mono mt _) bl_X4_forged_6 (i_istore2 trivial (i_iload_n rfl (t_if_eq 13 11 rfl rfl (by first | exact hI_R | exact band_R | exact bor_R | exact bshr_R | exact lcm_R | omega | (simp (disch := omega) only [e_e, e_z]; omega)) (fun hc => ?_) (fun hc => ?_)))) <;> (first | (exfalso; omega) | skip))
      | (show Rch _ _ _ _ _ 11 _ _ _; refine Rch.blk' (Rn_mono mt _) bl_X4_forged_11 (i_iload_n rfl (t_iret ?_)))
      | (show Rch _ _ _ _ _ 13 _ _ _; refine Rch.blk' (Rn_mono mt _) bl_X4_forged_13 (i_iconst k_0 (i_istore3 trivial (t_none ?_))))
      | (show Rch _ _ _ _ _ 25 _ _ _; refine Rch.blk' (Rn_mono mt _) bl_X4_forged_25 (i_aload_n rfl (i_iload_n rfl (t_cv2 (Rn_mono mt _) 30 rfl (Nat.le_of_ble_eq_true rfl) ?_))))
      | (show Rch _ _ _ _ _ 30 _ _ _; refine Rch.blk' (Rn_mono mt _) bl_X4_forged_30 (t_if_eq 55 33 rfl rfl (by first | exact hI_R | exact band_R | exact bor_R | exact bshr_R | exact lcm_R | omega | (simp (disch := omega) only [e_e, e_z]; omega)) (fun hc => ?_) (fun hc => ?_)) <;> (first | (exfalso; omega) | skip))
      | (show Rch _ _ _ _ _ 33 _ _ _; refine Rch.blk' (Rn_mono mt _) bl_X4_forged_33 (i_aload_n rfl (i_gfs rfl (i_bipush k_100 (i_iload_n rfl (i_imul (i_iload_n rfl (i_iadd (i_iald (n := 800) rfl (by first | omega | (simp (disch := omega) only [e_e, e_z]; omega)) (by first | omega | (simp (disch := omega) only [e_e, e_z]; omega)) (by first | omega | (simp (disch := omega) only [e_e, e_z]; omega)) (i_aload_n rfl (i_gfs rfl (i_iload_n rfl (t_cs2 (Rn_mono mt _) 52 rfl (Nat.le_of_ble_eq_true rfl) ?_)))))))))))) <;> (try (simp (disch := omega) only [e_e, e_z])))
      | (show Rch _ _ _ _ _ 52 _ _ _; refine Rch.blk' (Rn_mono mt _) bl_X4_forged_52 (t_ic_eq 57 55 rfl rfl (by first | exact hI_R | exact band_R | exact bor_R | exact bshr_R | exact lcm_R | omega | (simp (disch := omega) only [e_e, e_z]; omega)) (by first | exact hI_R | exact band_R | exact bor_R | exact bshr_R | exact lcm_R | omega | (simp (disch := omega) only [e_e, e_z]; omega)) (fun hc => ?_) (fun hc => ?_)) <;> (first | (exfalso; omega) | skip))
      | (show Rch _ _ _ _ _ 55 _ _ _; refine Rch.blk' (Rn_mono mt _) bl_X4_forged_55 (i_iload_n rfl (t_iret ?_)))
      | (show Rch _ _ _ _ _ 57 _ _ _; refine Rch.blk' (Rn_mono mt _) bl_X4_forged_57 (i_iinc3 trivial k_1 (t_goto 15 rfl ?_)))
      | (show Rch _ _ _ _ _ 63 _ _ _; refine Rch.blk' (Rn_mono mt _) bl_X4_forged_63 (i_bipush k_m4 (t_iret ?_))))
  repeat' (first
    | exact key (by omega) 0 (by obtain ⟨⟨x0, x1⟩, hh⟩ := r1 (by omega); have := (hK x x0 x1).2.2 hh; omega) (by omega) (fun j _ _ => by omega) _
    | exact kr _ (by omega) (by omega)
    | (show Rn _ _ 146 _ _ _; refine c_X4_wrongRow (by assumption) (by assumption) (by omega) (fun _ _ _ _ => ?_))
    | (show Rn _ _ 110 _ _ _; refine c_X4_isPiece (by assumption) (by assumption) (by first | omega | exact hI_R) (fun _ _ => ?_) (fun _ => ?_))
    | (show Rn _ _ 181 _ _ _; refine c_X4_toldSquare (by assumption) (by assumption) (by omega) (by omega) ?_)
    | (show Rch _ _ _ _ _ 0 _ _ _; refine Rch.blk' (Rn_mono mt _) bl_X4_forged_0 (i_aload_n rfl (i_iload_n rfl (i_iconst k_m1 (t_cv3 (Rn_mono mt _) 6 rfl (Nat.le_of_ble_eq_true rfl) ?_)))))
    | (show Rch _ _ _ _ _ 6 _ _ _; refine Rch.blk' (Rn_mono mt _) bl_X4_forged_6 (i_istore2 trivial (i_iload_n rfl (t_if_eq 13 11 rfl rfl (by first | exact hI_R | exact band_R | exact bor_R | exact bshr_R | exact lcm_R | omega) (fun hc => ?_) (fun hc => ?_)))) <;> (first | (exfalso; omega) | skip))
    | (show Rch _ _ _ _ _ 11 _ _ _; refine Rch.blk' (Rn_mono mt _) bl_X4_forged_11 (i_iload_n rfl (t_iret ?_)))
    | (show Rch _ _ _ _ _ 13 _ _ _; refine Rch.blk' (Rn_mono mt _) bl_X4_forged_13 (i_iconst k_0 (i_istore3 trivial (t_none ?_))))
    | (show Rch _ _ _ _ _ 25 _ _ _; refine Rch.blk' (Rn_mono mt _) bl_X4_forged_25 (i_aload_n rfl (i_iload_n rfl (t_cv2 (Rn_mono mt _) 30 rfl (Nat.le_of_ble_eq_true rfl) ?_))))
    | (show Rch _ _ _ _ _ 30 _ _ _; refine Rch.blk' (Rn_mono mt _) bl_X4_forged_30 (t_if_eq 55 33 rfl rfl (by first | exact hI_R | exact band_R | exact bor_R | exact bshr_R | exact lcm_R | omega) (fun hc => ?_) (fun hc => ?_)) <;> (first | (exfalso; omega) | skip))
    | (show Rch _ _ _ _ _ 33 _ _ _; refine Rch.blk' (Rn_mono mt _) bl_X4_forged_33 (i_aload_n rfl (i_gfs rfl (i_bipush k_100 (i_iload_n rfl (i_imul (i_iload_n rfl (i_iadd (i_iald (n := 800) rfl (by omega) (by omega) (by omega) (i_aload_n rfl (i_gfs rfl (i_iload_n rfl (t_cs2 (Rn_mono mt _) 52 rfl (Nat.le_of_ble_eq_true rfl) ?_)))))))))))))
    | (show Rch _ _ _ _ _ 52 _ _ _; refine Rch.blk' (Rn_mono mt _) bl_X4_forged_52 (t_ic_eq 57 55 rfl rfl (by first | exact hI_R | exact band_R | exact bor_R | exact bshr_R | exact lcm_R | omega) (by first | exact hI_R | exact band_R | exact bor_R | exact bshr_R | exact lcm_R | omega) (fun hc => ?_) (fun hc => ?_)) <;> (first | (exfalso; omega) | skip))
    | (show Rch _ _ _ _ _ 55 _ _ _; refine Rch.blk' (Rn_mono mt _) bl_X4_forged_55 (i_iload_n rfl (t_iret ?_)))
    | (show Rch _ _ _ _ _ 57 _ _ _; refine Rch.blk' (Rn_mono mt _) bl_X4_forged_57 (i_iinc3 trivial k_1 (t_goto 15 rfl ?_)))
    | (show Rch _ _ _ _ _ 63 _ _ _; refine Rch.blk' (Rn_mono mt _) bl_X4_forged_63 (i_bipush k_m4 (t_iret ?_))))
theorem c_X4_judge (hG : RR h 0 G no0 0) (hO : OKB G) (hy : dy G ≤ 999) (hS : SR h S) (hK : OKS S) {x : Int} (hx : inR x) (hq : ∀ v h', v = vJudge G S x → JY h h' → Q (some (ai (I v))) h') : Rn mt (d + 20) 192 [ar 3 0, ai (I x)] h Q := by
  refine Rn.intro iX4_judge rfl rfl ?_
  show Rch bX4_judge _ _ _ _ 0 [some (ar 3 0), some (ai (I x)), none, none] [] _
  have r1 : rfu S x 2 = 0 → (0 ≤ x ∧ x < 8) ∧ ho S x = 2 := fun e => by unfold rfu at e; omega
  have r2 : wrf S x (-1) = rfu S x 2 := by unfold wrf; rw [if_neg (by omega)]
  have kr : ∀ u, u = rfu S x 2 → ¬ u = 0 → Q (some (ai (I u))) h := fun u e a => hq _ _ (by unfold vJudge; rw [if_neg (by omega)]; exact e) JY.rf
  have key : rfu S x 2 = 0 → ∀ k : Int, k ≤ sz S x → 0 ≤ k → (∀ j : Int, 0 ≤ j → j < k → ¬ JP G S x j) → ∀ (u : Int) (h' : Mem), RR h' 1 (DN G no0 k) no0 0 → FrR h h' 1 → RH bX4_judge (d + 19) Q 26 [some (ar 3 0), some (ai (I x)), some (ai (I u)), some (ai (I k))] h' := by
    intro r0
    obtain ⟨⟨x0, x1⟩, hh⟩ := r1 r0
    have g := (hK x x0 x1).2.2 hh
    refine up_ind (fun k hk ih hk0 hn u h' hR hF => ?_)
    have hS' : SR h' S := hS.fr (fun t b j ht => hF t b j (by omega))
    have e_z := hS'.z x0 x1 hh
    obtain ⟨hOk, -, hdk, -⟩ := DN_f (M := no0) hO k hk0
    have e_c : cnt (TS (DN G no0 k)) 10 = NT (DN G no0 k) := TS_cnt hOk
    have kE : sz S x ≤ k → Q (some (ai (I (-4)))) h' := fun a => hq _ _ (by unfold vJudge; rw [if_pos r0]; exact (fst_no (fun j j0 j1 => hn j j0 (by omega))).symm) (hF.jy (by omega))
    have kH : ∀ _u : Unit, k < sz S x → ¬ (el S x k = lst (so S x) ∨ el S x k = cnt (TS (DN G no0 k)) 10) → Q (some (ai (I k))) h' := fun _ a b => hq _ _ (by rw [e_c] at b; unfold vJudge; rw [if_pos r0]; exact (fst_is hk0 a b hn).symm) (hF.jy (by omega))
    have ih2 : ∀ _u : Unit, k < sz S x → (el S x k = lst (so S x) ∨ el S x k = cnt (TS (DN G no0 k)) 10) → ∀ h2, RR h2 1 (DAY (DN G no0 k) no0 0) no0 0 → FrR h' h2 1 → RH bX4_judge (d + 19) Q 26 [some (ar 3 0), some (ai (I x)), some (ai (I u)), some (ai (I (k + 1)))] h2 := fun _ a b h2 c e => ih a (by omega) (no_up hn (fun z => by rw [e_c] at b; exact z b)) u h2 (by rw [DN_up hk0]; exact c) (hF.tr e)
    clear ih hn
    refine Rch.blk' (Rn_mono mt _) bl_X4_judge_26 (i_iload_n rfl (i_aload_n rfl (i_gfs rfl (i_iload_n rfl (i_iald (n := 8) rfl (by first | omega | (simp (disch := omega) only [e_z]; omega)) (by first | omega | (simp (disch := omega) only [e_z]; omega)) (by first | omega | (simp (disch := omega) only [e_z]; omega)) (t_ic_ge 70 36 rfl rfl (by first | exact hI_R | exact band_R | exact bor_R | exact bshr_R | exact lcm_R | omega | (simp (disch := omega) only [e_z]; omega)) (by first | exact hI_R | exact band_R | exact bor_R | exact bshr_R | exact lcm_R | omega | (simp (disch := omega) only [e_z]; omega)) (fun hc => ?_) (fun hc => ?_))))))) <;> (try (simp (disch := omega) only [e_z] at hc ⊢)) <;> (first | (exfalso; omega) | skip)
    repeat' (first
      | (show Rn _ _ 137 _ _ _; refine c_X4_day hR hOk (by omega) (by omega) (fun _ _ _ => ?_))
      | exact kE (by omega)
      | exact kH () (by omega) (by omega)
      | exact ih2 () (by omega) (by omega) _ (by assumption) (by assumption)
      | (show Rn _ _ 146 _ _ _; refine c_X4_wrongRow (by assumption) (by assumption) (by omega) (fun _ _ _ _ => ?_))
      | (show Rn _ _ 133 _ _ _; refine c_X4_hereIn (by assumption) (by assumption) ?_)
      | (show Rn _ _ 116 _ _ _; refine c_X4_bits (fun _ _ => ?_))
      | (show Rn _ _ 180 _ _ _; refine c_X4_isTold (by assumption) (by assumption) (by omega) (by assumption) (by assumption) (by assumption) (by omega) (by omega) (fun _ => ?_) (fun _ => ?_))
      | (show Rch _ _ _ _ _ 0 _ _ _; refine Rch.blk' (Rn_mono mt _) bl_X4_judge_0 (i_aload_n rfl (i_iload_n rfl (i_iconst k_m1 (t_cv3 (Rn_mono mt _) 6 rfl (Nat.le_of_ble_eq_true rfl) ?_)))))
      | (show Rch _ _ _ _ _ 6 _ _ _; refine Rch.blk' (Rn_mono mt _) bl_X4_judge_6 (i_istore2 trivial (i_iload_n rfl (t_if_eq 13 11 rfl rfl (by first | exact hI_R | exact band_R | exact bor_R | exact bshr_R | exact lcm_R | omega) (fun hc => ?_) (fun hc => ?_)))) <;> (first | (exfalso; omega) | skip))
      | (show Rch _ _ _ _ _ 11 _ _ _; refine Rch.blk' (Rn_mono mt _) bl_X4_judge_11 (i_iload_n rfl (t_iret ?_)))
      | (show Rch _ _ _ _ _ 13 _ _ _; refine Rch.blk' (Rn_mono mt _) bl_X4_judge_13 (i_aload_n rfl (i_gfs rfl (i_aload_n rfl (i_gfs rfl (t_cs2 (Rn_mono mt _) 24 rfl (Nat.le_of_ble_eq_true rfl) ?_))))))
      | (show Rch _ _ _ _ _ 24 _ _ _; refine Rch.blk' (Rn_mono mt _) bl_X4_judge_24 (i_iconst k_0 (i_istore3 trivial (t_none ?_))))
      | (show Rch _ _ _ _ _ 36 _ _ _; refine Rch.blk' (Rn_mono mt _) bl_X4_judge_36 (i_aload_n rfl (i_iload_n rfl (i_iload_n rfl (i_aload_n rfl (i_gfs rfl (t_cs1 (Rn_mono mt _) 46 rfl (Nat.le_of_ble_eq_true rfl) ?_)))))))
      | (show Rch _ _ _ _ _ 46 _ _ _; refine Rch.blk' (Rn_mono mt _) bl_X4_judge_46 (t_cs1 (Rn_mono mt _) 49 rfl (Nat.le_of_ble_eq_true rfl) ?_))
      | (show Rch _ _ _ _ _ 49 _ _ _; refine Rch.blk' (Rn_mono mt _) bl_X4_judge_49 (t_cv4 (Rn_mono mt _) 52 rfl (Nat.le_of_ble_eq_true rfl) ?_))
      | (show Rch _ _ _ _ _ 52 _ _ _; refine Rch.blk' (Rn_mono mt _) bl_X4_judge_52 (t_if_ne 57 55 rfl rfl (by first | exact hI_R | exact band_R | exact bor_R | exact bshr_R | exact lcm_R | omega) (fun hc => ?_) (fun hc => ?_)) <;> (first | (exfalso; omega) | skip))
      | (show Rch _ _ _ _ _ 55 _ _ _; refine Rch.blk' (Rn_mono mt _) bl_X4_judge_55 (i_iload_n rfl (t_iret ?_)))
      | (show Rch _ _ _ _ _ 57 _ _ _; refine Rch.blk' (Rn_mono mt _) bl_X4_judge_57 (i_aload_n rfl (i_gfs rfl (t_cs1 (Rn_mono mt _) 64 rfl (Nat.le_of_ble_eq_true rfl) ?_))))
      | (show Rch _ _ _ _ _ 64 _ _ _; refine Rch.blk' (Rn_mono mt _) bl_X4_judge_64 (i_iinc3 trivial k_1 (t_goto 26 rfl ?_)))
      | (show Rch _ _ _ _ _ 70 _ _ _; refine Rch.blk' (Rn_mono mt _) bl_X4_judge_70 (i_bipush k_m4 (t_iret ?_))))
  repeat' (first
    | (show Rn _ _ 108 _ _ _; refine c_X4_copies hG hO (by decide) (fun _ _ _ => ?_))
    | exact key (by omega) 0 (by obtain ⟨⟨x0, x1⟩, hh⟩ := r1 (by omega); have := (hK x x0 x1).2.2 hh; omega) (by omega) (fun j _ _ => by omega) _ _ (by assumption) (by assumption)
    | exact kr _ (by omega) (by omega)
    | (show Rn _ _ 146 _ _ _; refine c_X4_wrongRow (by assumption) (by assumption) (by omega) (fun _ _ _ _ => ?_))
    | (show Rn _ _ 133 _ _ _; refine c_X4_hereIn (by assumption) (by assumption) ?_)
    | (show Rn _ _ 116 _ _ _; refine c_X4_bits (fun _ _ => ?_))
    | (show Rn _ _ 180 _ _ _; refine c_X4_isTold (by assumption) (by assumption) (by omega) (by assumption) (by assumption) (by assumption) (by omega) (by omega) (fun _ => ?_) (fun _ => ?_))
    | (show Rch _ _ _ _ _ 0 _ _ _; refine Rch.blk' (Rn_mono mt _) bl_X4_judge_0 (i_aload_n rfl (i_iload_n rfl (i_iconst k_m1 (t_cv3 (Rn_mono mt _) 6 rfl (Nat.le_of_ble_eq_true rfl) ?_)))))
    | (show Rch _ _ _ _ _ 6 _ _ _; refine Rch.blk' (Rn_mono mt _) bl_X4_judge_6 (i_istore2 trivial (i_iload_n rfl (t_if_eq 13 11 rfl rfl (by first | exact hI_R | exact band_R | exact bor_R | exact bshr_R | exact lcm_R | omega) (fun hc => ?_) (fun hc => ?_)))) <;> (first | (exfalso; omega) | skip))
    | (show Rch _ _ _ _ _ 11 _ _ _; refine Rch.blk' (Rn_mono mt _) bl_X4_judge_11 (i_iload_n rfl (t_iret ?_)))
    | (show Rch _ _ _ _ _ 13 _ _ _; refine Rch.blk' (Rn_mono mt _) bl_X4_judge_13 (i_aload_n rfl (i_gfs rfl (i_aload_n rfl (i_gfs rfl (t_cs2 (Rn_mono mt _) 24 rfl (Nat.le_of_ble_eq_true rfl) ?_))))))
    | (show Rch _ _ _ _ _ 24 _ _ _; refine Rch.blk' (Rn_mono mt _) bl_X4_judge_24 (i_iconst k_0 (i_istore3 trivial (t_none ?_))))
    | (show Rch _ _ _ _ _ 36 _ _ _; refine Rch.blk' (Rn_mono mt _) bl_X4_judge_36 (i_aload_n rfl (i_iload_n rfl (i_iload_n rfl (i_aload_n rfl (i_gfs rfl (t_cs1 (Rn_mono mt _) 46 rfl (Nat.le_of_ble_eq_true rfl) ?_)))))))
    | (show Rch _ _ _ _ _ 46 _ _ _; refine Rch.blk' (Rn_mono mt _) bl_X4_judge_46 (t_cs1 (Rn_mono mt _) 49 rfl (Nat.le_of_ble_eq_true rfl) ?_))
    | (show Rch _ _ _ _ _ 49 _ _ _; refine Rch.blk' (Rn_mono mt _) bl_X4_judge_49 (t_cv4 (Rn_mono mt _) 52 rfl (Nat.le_of_ble_eq_true rfl) ?_))
    | (show Rch _ _ _ _ _ 52 _ _ _; refine Rch.blk' (Rn_mono mt _) bl_X4_judge_52 (t_if_ne 57 55 rfl rfl (by first | exact hI_R | exact band_R | exact bor_R | exact bshr_R | exact lcm_R | omega) (fun hc => ?_) (fun hc => ?_)) <;> (first | (exfalso; omega) | skip))
    | (show Rch _ _ _ _ _ 55 _ _ _; refine Rch.blk' (Rn_mono mt _) bl_X4_judge_55 (i_iload_n rfl (t_iret ?_)))
    | (show Rch _ _ _ _ _ 57 _ _ _; refine Rch.blk' (Rn_mono mt _) bl_X4_judge_57 (i_aload_n rfl (i_gfs rfl (t_cs1 (Rn_mono mt _) 64 rfl (Nat.le_of_ble_eq_true rfl) ?_))))
    | (show Rch _ _ _ _ _ 64 _ _ _; refine Rch.blk' (Rn_mono mt _) bl_X4_judge_64 (i_iinc3 trivial k_1 (t_goto 26 rfl ?_)))
    | (show Rch _ _ _ _ _ 70 _ _ _; refine Rch.blk' (Rn_mono mt _) bl_X4_judge_70 (i_bipush k_m4 (t_iret ?_))))
end C14

