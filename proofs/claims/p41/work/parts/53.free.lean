/-! PAIRS, FREE: both sides -/
theorem SM_add {f g : Int → Int} : ∀ k : Int, 0 ≤ k → SM (fun i => f i + g i) k = SM f k + SM g k := by
  refine ind0 rfl (fun k k0 ih => ?_)
  rw [SM_up k0, SM_up k0, SM_up k0, ih]
  omega
theorem SM_z {f : Int → Int} {c : Int} (hf : ∀ i : Int, 0 ≤ i → i < c → f i = 0) : ∀ k : Int, 0 ≤ k → k ≤ c → SM f k = 0 := by
  refine ind0 (fun _ => rfl) (fun k k0 ih hk => ?_)
  rw [SM_up k0, ih (by omega), hf k k0 (by omega)]
  rfl
theorem tri {f g : Int → Int → Int} {N : Int} (hg : ∀ a b : Int, 0 ≤ a → a < b → b < N → g a b = f a b + f b a) (h0 : ∀ a : Int, 0 ≤ a → a < N → f a a = 0) : ∀ n : Int, 0 ≤ n → n ≤ N → SM (fun p => SM (f p) n) n = SM (fun a => SM (fun j => if a < j then g a j else 0) n) n := by
  refine ind0 (fun _ => rfl) (fun n n0 ih hn => ?_)
  have ih := ih (by omega)
  have e1 : SM (fun p => SM (f p) (n + 1)) n = SM (fun p => SM (f p) n) n + SM (fun p => f p n) n := by
    rw [← SM_add n n0]
    exact SM_ext (c := n) (fun i i0 i1 => SM_up n0) n n0 (by omega)
  have e2 : SM (fun a => SM (fun j => if a < j then g a j else 0) (n + 1)) n = SM (fun a => SM (fun j => if a < j then g a j else 0) n) n + SM (fun a => f a n + f n a) n := by
    rw [← SM_add n n0]
    refine SM_ext (c := n) (fun i i0 i1 => ?_) n n0 (by omega)
    rw [SM_up n0, if_pos i1, hg i n i0 i1 (by omega)]
  have e3 : SM (fun j => if n < j then g n j else 0) (n + 1) = 0 := SM_z (c := n + 1) (fun i i0 i1 => if_neg (by omega)) (n + 1) (by omega) (by omega)
  have e4 : SM (f n) (n + 1) = SM (f n) n := by
    rw [SM_up n0, h0 n n0 (by omega)]; omega
  have e5 : SM (fun a => f a n + f n a) n = SM (fun p => f p n) n + SM (f n) n := SM_add (f := fun p => f p n) (g := f n) n n0
  have l1 : SM (fun p => SM (f p) (n + 1)) (n + 1) = SM (fun p => SM (f p) (n + 1)) n + SM (f n) (n + 1) := SM_up n0
  have l2 : SM (fun a => SM (fun j => if a < j then g a j else 0) (n + 1)) (n + 1) = SM (fun a => SM (fun j => if a < j then g a j else 0) (n + 1)) n + SM (fun j => if n < j then g n j else 0) (n + 1) := SM_up n0
  rw [l1, l2, e1, e2, e3, e4, e5, ih]
  omega
theorem fr_sym (a b : Int) : fr a b = fr b a := by
  unfold fr ab
  omega
noncomputable def pf (G : Bd) (a b : Int) : Int := ifp (OC G 0 a ∧ OC G 1 b ∧ fr (sq G a) (sq G b) = 1) 1 0
noncomputable def pg (G : Bd) (a b : Int) : Int := ifp (sq G a < 36 ∧ sq G b < 36 ∧ ¬ sd G a = sd G b ∧ fr (sq G a) (sq G b) = 1) 1 0
noncomputable def PW (G : Bd) : Int := SM (fun p => SM (pf G p) (nn G)) (nn G)
theorem pf_R {G : Bd} {a b : Int} : 0 ≤ pf G a b ∧ pf G a b ≤ 1 := ifp_01
theorem pg_R {G : Bd} {a b : Int} : 0 ≤ pg G a b ∧ pg G a b ≤ 1 := ifp_01
theorem pg_e {G : Bd} (hO : OKB G) {a b : Int} (a0 : 0 ≤ a) (hab : a < b) (b1 : b < nn G) : pg G a b = pf G a b + pf G b a := by
  have ga := (hO.pc a a0 (by omega)).2.2.1
  have gb := (hO.pc b (by omega) b1).2.2.1
  have gs := fr_sym (sq G a) (sq G b)
  by_cases c1 : OC G 0 a ∧ OC G 1 b ∧ fr (sq G a) (sq G b) = 1
  · have h1 := c1.1.1
    have h3 := c1.2.1.1
    have e1 : pf G a b = 1 := ifp_p c1
    have e2 : pf G b a = 0 := ifp_n (fun z => by have h2 := z.1.1; omega)
    have e3 : pg G a b = 1 := ifp_p ⟨c1.1.2, c1.2.1.2, fun z => by omega, c1.2.2⟩
    omega
  · have e1 : pf G a b = 0 := ifp_n c1
    by_cases c2 : OC G 0 b ∧ OC G 1 a ∧ fr (sq G b) (sq G a) = 1
    · have h1 := c2.1.1
      have h3 := c2.2.1.1
      have h4 := c2.2.2
      have e2 : pf G b a = 1 := ifp_p c2
      have e3 : pg G a b = 1 := ifp_p ⟨c2.2.1.2, c2.1.2, fun z => by omega, by omega⟩
      omega
    · have e2 : pf G b a = 0 := ifp_n c2
      have e3 : pg G a b = 0 := ifp_n (by
        rintro ⟨z1, z2, z3, z4⟩
        rcases ga with q1 | q1
        · exact c1 ⟨⟨q1, z1⟩, ⟨by omega, z2⟩, z4⟩
        · exact c2 ⟨⟨by omega, z2⟩, ⟨q1, z1⟩, by omega⟩)
      omega
theorem PW_e {G : Bd} (hO : OKB G) : SM (fun a => SM (fun j => if a < j then pg G a j else 0) (nn G)) (nn G) = PW G :=
  (tri (f := pf G) (g := pg G) (N := nn G) (fun a b a0 hab b1 => pg_e hO a0 hab b1) (fun a a0 a1 => ifp_n (fun z => by have h1 := z.1.1; have h2 := z.2.1.1; omega)) (nn G) hO.n.1 (by omega)).symm
theorem PF_R {G : Bd} {a k : Int} (k0 : 0 ≤ k) (k1 : k ≤ 10) : 0 ≤ SM (pf G a) k ∧ SM (pf G a) k ≤ 10 := by
  have := SM_R (f := pf G a) (m := 1) (c := k) (by omega) (fun i _ _ => pf_R) k k0 (by omega)
  omega
theorem PW_R {G : Bd} (hn : nn G ≤ 10) (n0 : 0 ≤ nn G) {k : Int} (k0 : 0 ≤ k) (k1 : k ≤ 10) : 0 ≤ SM (fun p => SM (pf G p) (nn G)) k ∧ SM (fun p => SM (pf G p) (nn G)) k ≤ 100 := by
  have := SM_R (f := fun p => SM (pf G p) (nn G)) (m := 10) (c := k) (by omega) (fun i _ _ => PF_R n0 hn) k k0 (by omega)
  omega
noncomputable def vFree (G : Bd) (w : Int) : Int := if w = 0 then 36 - NT G else if w = 1 then PW G else if w = 2 then BT (fun i => i < nn G ∧ QC G (dy G + 1) i) else -1
section C28
variable {d L : Nat} {h : Mem} {Q : Option AV → Mem → Prop} {b : Nat} {G : Bd}
theorem c_X0_pairsSideBySide (hG : RC h b G) (hO : OKB G) (hq : Q (some (ai (I (PW G)))) h) : Rn mt L (d + 2) 40 [ar 0 b] h Q := by
  refine Rn.intro iX0_pairsSideBySide rfl rfl ?_
  show Rch bX0_pairsSideBySide _ _ _ _ 0 [some (ar 0 b), none, none, none] [] _
  have e_n := hG.n
  have e_q := @RC.q _ _ _ hG
  have g_n := hO.n
  have key : ∀ k : Int, k ≤ nn G → 0 ≤ k → ∀ u : Option AV, RH L bX0_pairsSideBySide (d + 1) Q 4 [some (ar 0 b), some (ai (I (SM (fun p => SM (pf G p) (nn G)) k))), some (ai (I k)), u] h := by
    refine up_ind (fun k hk ih hk0 u => ?_)
    have g_P := @PW_R G g_n.2 g_n.1 k hk0 (by omega)
    by_cases hk1 : k < nn G
    · have ih := ih hk1 (by omega)
      rw [SM_up hk0] at ih
      have g_k := hO.pc k hk0 hk1
      have inner : ∀ j : Int, j ≤ nn G → 0 ≤ j → RH L bX0_pairsSideBySide (d + 1) Q 14 [some (ar 0 b), some (ai (I (SM (fun p => SM (pf G p) (nn G)) k + SM (pf G k) j))), some (ai (I k)), some (ai (I j))] h := by
        refine up_ind (fun j hj ij hj0 => ?_)
        by_cases hj1 : j < nn G
        · have ij := ij hj1 (by omega)
          rw [SM_up hj0] at ij
          have g_j := hO.pc j hj0 hj1
          have i1 : ∀ v, (sd G k = 0 ∧ sq G k < 36) → (sd G j = 1 ∧ sq G j < 36) → fr (sq G k) (sq G j) = 1 → v = SM (fun p => SM (pf G p) (nn G)) k + SM (pf G k) j + 1 → RH L bX0_pairsSideBySide (d + 1) Q 14 [some (ar 0 b), some (ai (I v)), some (ai (I k)), some (ai (I (j + 1)))] h := by
            intro v a c e f
            have e2 : pf G k j = 1 := ifp_p ⟨a, c, e⟩
            rw [e2] at ij
            rw [f, Int.add_assoc]; exact ij
          have i0 : ¬ ((sd G k = 0 ∧ sq G k < 36) ∧ (sd G j = 1 ∧ sq G j < 36) ∧ fr (sq G k) (sq G j) = 1) → RH L bX0_pairsSideBySide (d + 1) Q 14 [some (ar 0 b), some (ai (I (SM (fun p => SM (pf G p) (nn G)) k + SM (pf G k) j))), some (ai (I k)), some (ai (I (j + 1)))] h := by
            intro a
            have e2 : pf G k j = 0 := ifp_n a
            rw [e2, Int.add_zero] at ij
            exact ij
          clear ij ih
          refine Rch.blk' (Rn_mono mt _ _) bl_X0_pairsSideBySide_14 (i_iload_n rfl (i_aload_n rfl (i_gfi rfl (t_ic_ge 68 22 rfl rfl (by first | exact hI_R | exact band_R | exact bor_R | exact bshr_R | exact lcm_R | omega | (simp (disch := omega) only [e_n]; omega)) (by first | exact hI_R | exact band_R | exact bor_R | exact bshr_R | exact lcm_R | omega | (simp (disch := omega) only [e_n]; omega)) (fun hc => ?_) (fun hc => ?_))))) <;> (try (simp (disch := omega) only [e_n] at hc ⊢)) <;> (first | (exfalso; omega) | skip)
          repeat' (first
            | ((with_reducible refine i1 _ ?_ ?_ ?_ ?_) <;> omega)
            | ((with_reducible refine i0 ?_) <;> omega)
            | (show Rn _ _ _ 3 _ _ _; refine c_X0_isThereOf (by assumption) (by assumption) (by first | omega | exact hI_R) (by first | omega | exact hI_R) (fun _ _ _ _ _ => ?_) (fun _ => ?_))
            | (show Rn _ _ _ 20 _ _ _; refine c_X3_far (by omega) (by omega) (by omega) (by omega) (fun _ _ => ?_))
            | (show Rch _ _ _ _ _ 0 _ _ _; refine Rch.blk' (Rn_mono mt _ _) bl_X0_pairsSideBySide_0 (i_iconst k_0 (i_istore1 trivial (i_iconst k_0 (i_istore2 trivial (t_none ?_))))))
            | (show Rch _ _ _ _ _ 12 _ _ _; refine Rch.blk' (Rn_mono mt _ _) bl_X0_pairsSideBySide_12 (i_iconst k_0 (i_istore3 trivial (t_none ?_))))
            | (show Rch _ _ _ _ _ 22 _ _ _; refine Rch.blk' (Rn_mono mt _ _) bl_X0_pairsSideBySide_22 (i_aload_n rfl (i_iload_n rfl (i_iconst k_0 (t_cv3 (Rn_mono mt _ _) 28 rfl (Nat.le_of_ble_eq_true rfl) ?_)))))
            | (show Rch _ _ _ _ _ 28 _ _ _; refine Rch.blk' (Rn_mono mt _ _) bl_X0_pairsSideBySide_28 (t_if_eq 62 31 rfl rfl (by first | exact hI_R | exact band_R | exact bor_R | exact bshr_R | exact lcm_R | omega | (simp (disch := omega) only [e_q]; omega)) (fun hc => ?_) (fun hc => ?_)) <;> (first | (exfalso; omega) | skip))
            | (show Rch _ _ _ _ _ 31 _ _ _; refine Rch.blk' (Rn_mono mt _ _) bl_X0_pairsSideBySide_31 (i_aload_n rfl (i_iload_n rfl (i_iconst k_1 (t_cv3 (Rn_mono mt _ _) 37 rfl (Nat.le_of_ble_eq_true rfl) ?_)))))
            | (show Rch _ _ _ _ _ 37 _ _ _; refine Rch.blk' (Rn_mono mt _ _) bl_X0_pairsSideBySide_37 (t_if_eq 62 40 rfl rfl (by first | exact hI_R | exact band_R | exact bor_R | exact bshr_R | exact lcm_R | omega | (simp (disch := omega) only [e_q]; omega)) (fun hc => ?_) (fun hc => ?_)) <;> (first | (exfalso; omega) | skip))
            | (show Rch _ _ _ _ _ 40 _ _ _; refine Rch.blk' (Rn_mono mt _ _) bl_X0_pairsSideBySide_40 (i_aload_n rfl (i_gfr rfl (i_iload_n rfl (i_iald (n := 10) rfl (by first | omega | (simp (disch := omega) only [e_q]; omega)) (by first | omega | (simp (disch := omega) only [e_q]; omega)) (by first | omega | (simp (disch := omega) only [e_q]; omega)) (i_aload_n rfl (i_gfr rfl (i_iload_n rfl (i_iald (n := 10) rfl (by first | omega | (simp (disch := omega) only [e_q]; omega)) (by first | omega | (simp (disch := omega) only [e_q]; omega)) (by first | omega | (simp (disch := omega) only [e_q]; omega)) (t_cs2 (Rn_mono mt _ _) 55 rfl (Nat.le_of_ble_eq_true rfl) ?_))))))))) <;> (try (simp (disch := omega) only [e_q])))
            | (show Rch _ _ _ _ _ 55 _ _ _; refine Rch.blk' (Rn_mono mt _ _) bl_X0_pairsSideBySide_55 (i_iconst k_1 (t_ic_ne 62 59 rfl rfl (by first | exact hI_R | exact band_R | exact bor_R | exact bshr_R | exact lcm_R | omega | (simp (disch := omega) only [e_q]; omega)) (by first | exact hI_R | exact band_R | exact bor_R | exact bshr_R | exact lcm_R | omega | (simp (disch := omega) only [e_q]; omega)) (fun hc => ?_) (fun hc => ?_))) <;> (first | (exfalso; omega) | skip))
            | (show Rch _ _ _ _ _ 59 _ _ _; refine Rch.blk' (Rn_mono mt _ _) bl_X0_pairsSideBySide_59 (i_iinc1 trivial k_1 (t_none ?_)))
            | (show Rch _ _ _ _ _ 62 _ _ _; refine Rch.blk' (Rn_mono mt _ _) bl_X0_pairsSideBySide_62 (i_iinc3 trivial k_1 (t_goto 14 rfl ?_)))
            | (show Rch _ _ _ _ _ 68 _ _ _; refine Rch.blk' (Rn_mono mt _ _) bl_X0_pairsSideBySide_68 (i_iinc2 trivial k_1 (t_goto 4 rfl ?_)))
            | (show Rch _ _ _ _ _ 74 _ _ _; refine Rch.blk' (Rn_mono mt _ _) bl_X0_pairsSideBySide_74 (i_iload_n rfl (t_iret ?_))))
        · obtain rfl : j = nn G := by omega
          have ih := fun u => ih u
          clear ij
          refine Rch.blk' (Rn_mono mt _ _) bl_X0_pairsSideBySide_14 (i_iload_n rfl (i_aload_n rfl (i_gfi rfl (t_ic_ge 68 22 rfl rfl (by first | exact hI_R | exact band_R | exact bor_R | exact bshr_R | exact lcm_R | omega | (simp (disch := omega) only [e_n]; omega)) (by first | exact hI_R | exact band_R | exact bor_R | exact bshr_R | exact lcm_R | omega | (simp (disch := omega) only [e_n]; omega)) (fun hc => ?_) (fun hc => ?_))))) <;> (try (simp (disch := omega) only [e_n] at hc ⊢)) <;> (first | (exfalso; omega) | skip)
          repeat' (first
            | exact ih _
            | (show Rn _ _ _ 3 _ _ _; refine c_X0_isThereOf (by assumption) (by assumption) (by first | omega | exact hI_R) (by first | omega | exact hI_R) (fun _ _ _ _ _ => ?_) (fun _ => ?_))
            | (show Rn _ _ _ 20 _ _ _; refine c_X3_far (by omega) (by omega) (by omega) (by omega) (fun _ _ => ?_))
            | (show Rch _ _ _ _ _ 0 _ _ _; refine Rch.blk' (Rn_mono mt _ _) bl_X0_pairsSideBySide_0 (i_iconst k_0 (i_istore1 trivial (i_iconst k_0 (i_istore2 trivial (t_none ?_))))))
            | (show Rch _ _ _ _ _ 12 _ _ _; refine Rch.blk' (Rn_mono mt _ _) bl_X0_pairsSideBySide_12 (i_iconst k_0 (i_istore3 trivial (t_none ?_))))
            | (show Rch _ _ _ _ _ 22 _ _ _; refine Rch.blk' (Rn_mono mt _ _) bl_X0_pairsSideBySide_22 (i_aload_n rfl (i_iload_n rfl (i_iconst k_0 (t_cv3 (Rn_mono mt _ _) 28 rfl (Nat.le_of_ble_eq_true rfl) ?_)))))
            | (show Rch _ _ _ _ _ 28 _ _ _; refine Rch.blk' (Rn_mono mt _ _) bl_X0_pairsSideBySide_28 (t_if_eq 62 31 rfl rfl (by first | exact hI_R | exact band_R | exact bor_R | exact bshr_R | exact lcm_R | omega) (fun hc => ?_) (fun hc => ?_)) <;> (first | (exfalso; omega) | skip))
            | (show Rch _ _ _ _ _ 31 _ _ _; refine Rch.blk' (Rn_mono mt _ _) bl_X0_pairsSideBySide_31 (i_aload_n rfl (i_iload_n rfl (i_iconst k_1 (t_cv3 (Rn_mono mt _ _) 37 rfl (Nat.le_of_ble_eq_true rfl) ?_)))))
            | (show Rch _ _ _ _ _ 37 _ _ _; refine Rch.blk' (Rn_mono mt _ _) bl_X0_pairsSideBySide_37 (t_if_eq 62 40 rfl rfl (by first | exact hI_R | exact band_R | exact bor_R | exact bshr_R | exact lcm_R | omega) (fun hc => ?_) (fun hc => ?_)) <;> (first | (exfalso; omega) | skip))
            | (show Rch _ _ _ _ _ 40 _ _ _; refine Rch.blk' (Rn_mono mt _ _) bl_X0_pairsSideBySide_40 (i_aload_n rfl (i_gfr rfl (i_iload_n rfl (i_iald (n := 10) rfl (by omega) (by omega) (by omega) (i_aload_n rfl (i_gfr rfl (i_iload_n rfl (i_iald (n := 10) rfl (by omega) (by omega) (by omega) (t_cs2 (Rn_mono mt _ _) 55 rfl (Nat.le_of_ble_eq_true rfl) ?_))))))))))
            | (show Rch _ _ _ _ _ 55 _ _ _; refine Rch.blk' (Rn_mono mt _ _) bl_X0_pairsSideBySide_55 (i_iconst k_1 (t_ic_ne 62 59 rfl rfl (by first | exact hI_R | exact band_R | exact bor_R | exact bshr_R | exact lcm_R | omega) (by first | exact hI_R | exact band_R | exact bor_R | exact bshr_R | exact lcm_R | omega) (fun hc => ?_) (fun hc => ?_))) <;> (first | (exfalso; omega) | skip))
            | (show Rch _ _ _ _ _ 59 _ _ _; refine Rch.blk' (Rn_mono mt _ _) bl_X0_pairsSideBySide_59 (i_iinc1 trivial k_1 (t_none ?_)))
            | (show Rch _ _ _ _ _ 62 _ _ _; refine Rch.blk' (Rn_mono mt _ _) bl_X0_pairsSideBySide_62 (i_iinc3 trivial k_1 (t_goto 14 rfl ?_)))
            | (show Rch _ _ _ _ _ 68 _ _ _; refine Rch.blk' (Rn_mono mt _ _) bl_X0_pairsSideBySide_68 (i_iinc2 trivial k_1 (t_goto 4 rfl ?_)))
            | (show Rch _ _ _ _ _ 74 _ _ _; refine Rch.blk' (Rn_mono mt _ _) bl_X0_pairsSideBySide_74 (i_iload_n rfl (t_iret ?_))))
      have i0 := inner 0 (by omega) (by omega)
      rw [SM_0, Int.add_zero] at i0
      clear inner ih
      refine Rch.blk' (Rn_mono mt _ _) bl_X0_pairsSideBySide_4 (i_iload_n rfl (i_aload_n rfl (i_gfi rfl (t_ic_ge 74 12 rfl rfl (by first | exact hI_R | exact band_R | exact bor_R | exact bshr_R | exact lcm_R | omega | (simp (disch := omega) only [e_n]; omega)) (by first | exact hI_R | exact band_R | exact bor_R | exact bshr_R | exact lcm_R | omega | (simp (disch := omega) only [e_n]; omega)) (fun hc => ?_) (fun hc => ?_))))) <;> (try (simp (disch := omega) only [e_n] at hc ⊢)) <;> (first | (exfalso; omega) | skip)
      repeat' (first
        | exact i0
        | (show Rn _ _ _ 3 _ _ _; refine c_X0_isThereOf (by assumption) (by assumption) (by first | omega | exact hI_R) (by first | omega | exact hI_R) (fun _ _ _ _ _ => ?_) (fun _ => ?_))
        | (show Rn _ _ _ 20 _ _ _; refine c_X3_far (by omega) (by omega) (by omega) (by omega) (fun _ _ => ?_))
        | (show Rch _ _ _ _ _ 0 _ _ _; refine Rch.blk' (Rn_mono mt _ _) bl_X0_pairsSideBySide_0 (i_iconst k_0 (i_istore1 trivial (i_iconst k_0 (i_istore2 trivial (t_none ?_))))))
        | (show Rch _ _ _ _ _ 12 _ _ _; refine Rch.blk' (Rn_mono mt _ _) bl_X0_pairsSideBySide_12 (i_iconst k_0 (i_istore3 trivial (t_none ?_))))
        | (show Rch _ _ _ _ _ 22 _ _ _; refine Rch.blk' (Rn_mono mt _ _) bl_X0_pairsSideBySide_22 (i_aload_n rfl (i_iload_n rfl (i_iconst k_0 (t_cv3 (Rn_mono mt _ _) 28 rfl (Nat.le_of_ble_eq_true rfl) ?_)))))
        | (show Rch _ _ _ _ _ 28 _ _ _; refine Rch.blk' (Rn_mono mt _ _) bl_X0_pairsSideBySide_28 (t_if_eq 62 31 rfl rfl (by first | exact hI_R | exact band_R | exact bor_R | exact bshr_R | exact lcm_R | omega) (fun hc => ?_) (fun hc => ?_)) <;> (first | (exfalso; omega) | skip))
        | (show Rch _ _ _ _ _ 31 _ _ _; refine Rch.blk' (Rn_mono mt _ _) bl_X0_pairsSideBySide_31 (i_aload_n rfl (i_iload_n rfl (i_iconst k_1 (t_cv3 (Rn_mono mt _ _) 37 rfl (Nat.le_of_ble_eq_true rfl) ?_)))))
        | (show Rch _ _ _ _ _ 37 _ _ _; refine Rch.blk' (Rn_mono mt _ _) bl_X0_pairsSideBySide_37 (t_if_eq 62 40 rfl rfl (by first | exact hI_R | exact band_R | exact bor_R | exact bshr_R | exact lcm_R | omega) (fun hc => ?_) (fun hc => ?_)) <;> (first | (exfalso; omega) | skip))
        | (show Rch _ _ _ _ _ 40 _ _ _; refine Rch.blk' (Rn_mono mt _ _) bl_X0_pairsSideBySide_40 (i_aload_n rfl (i_gfr rfl (i_iload_n rfl (i_iald (n := 10) rfl (by omega) (by omega) (by omega) (i_aload_n rfl (i_gfr rfl (i_iload_n rfl (i_iald (n := 10) rfl (by omega) (by omega) (by omega) (t_cs2 (Rn_mono mt _ _) 55 rfl (Nat.le_of_ble_eq_true rfl) ?_))))))))))
        | (show Rch _ _ _ _ _ 55 _ _ _; refine Rch.blk' (Rn_mono mt _ _) bl_X0_pairsSideBySide_55 (i_iconst k_1 (t_ic_ne 62 59 rfl rfl (by first | exact hI_R | exact band_R | exact bor_R | exact bshr_R | exact lcm_R | omega) (by first | exact hI_R | exact band_R | exact bor_R | exact bshr_R | exact lcm_R | omega) (fun hc => ?_) (fun hc => ?_))) <;> (first | (exfalso; omega) | skip))
        | (show Rch _ _ _ _ _ 59 _ _ _; refine Rch.blk' (Rn_mono mt _ _) bl_X0_pairsSideBySide_59 (i_iinc1 trivial k_1 (t_none ?_)))
        | (show Rch _ _ _ _ _ 62 _ _ _; refine Rch.blk' (Rn_mono mt _ _) bl_X0_pairsSideBySide_62 (i_iinc3 trivial k_1 (t_goto 14 rfl ?_)))
        | (show Rch _ _ _ _ _ 68 _ _ _; refine Rch.blk' (Rn_mono mt _ _) bl_X0_pairsSideBySide_68 (i_iinc2 trivial k_1 (t_goto 4 rfl ?_)))
        | (show Rch _ _ _ _ _ 74 _ _ _; refine Rch.blk' (Rn_mono mt _ _) bl_X0_pairsSideBySide_74 (i_iload_n rfl (t_iret ?_))))
    · obtain rfl : k = nn G := by omega
      clear ih
      refine Rch.blk' (Rn_mono mt _ _) bl_X0_pairsSideBySide_4 (i_iload_n rfl (i_aload_n rfl (i_gfi rfl (t_ic_ge 74 12 rfl rfl (by first | exact hI_R | exact band_R | exact bor_R | exact bshr_R | exact lcm_R | omega | (simp (disch := omega) only [e_n]; omega)) (by first | exact hI_R | exact band_R | exact bor_R | exact bshr_R | exact lcm_R | omega | (simp (disch := omega) only [e_n]; omega)) (fun hc => ?_) (fun hc => ?_))))) <;> (try (simp (disch := omega) only [e_n] at hc ⊢)) <;> (first | (exfalso; omega) | skip)
      repeat' (first
        | exact hq
        | (show Rn _ _ _ 3 _ _ _; refine c_X0_isThereOf (by assumption) (by assumption) (by first | omega | exact hI_R) (by first | omega | exact hI_R) (fun _ _ _ _ _ => ?_) (fun _ => ?_))
        | (show Rn _ _ _ 20 _ _ _; refine c_X3_far (by omega) (by omega) (by omega) (by omega) (fun _ _ => ?_))
        | (show Rch _ _ _ _ _ 0 _ _ _; refine Rch.blk' (Rn_mono mt _ _) bl_X0_pairsSideBySide_0 (i_iconst k_0 (i_istore1 trivial (i_iconst k_0 (i_istore2 trivial (t_none ?_))))))
        | (show Rch _ _ _ _ _ 12 _ _ _; refine Rch.blk' (Rn_mono mt _ _) bl_X0_pairsSideBySide_12 (i_iconst k_0 (i_istore3 trivial (t_none ?_))))
        | (show Rch _ _ _ _ _ 22 _ _ _; refine Rch.blk' (Rn_mono mt _ _) bl_X0_pairsSideBySide_22 (i_aload_n rfl (i_iload_n rfl (i_iconst k_0 (t_cv3 (Rn_mono mt _ _) 28 rfl (Nat.le_of_ble_eq_true rfl) ?_)))))
        | (show Rch _ _ _ _ _ 28 _ _ _; refine Rch.blk' (Rn_mono mt _ _) bl_X0_pairsSideBySide_28 (t_if_eq 62 31 rfl rfl (by first | exact hI_R | exact band_R | exact bor_R | exact bshr_R | exact lcm_R | omega) (fun hc => ?_) (fun hc => ?_)) <;> (first | (exfalso; omega) | skip))
        | (show Rch _ _ _ _ _ 31 _ _ _; refine Rch.blk' (Rn_mono mt _ _) bl_X0_pairsSideBySide_31 (i_aload_n rfl (i_iload_n rfl (i_iconst k_1 (t_cv3 (Rn_mono mt _ _) 37 rfl (Nat.le_of_ble_eq_true rfl) ?_)))))
        | (show Rch _ _ _ _ _ 37 _ _ _; refine Rch.blk' (Rn_mono mt _ _) bl_X0_pairsSideBySide_37 (t_if_eq 62 40 rfl rfl (by first | exact hI_R | exact band_R | exact bor_R | exact bshr_R | exact lcm_R | omega) (fun hc => ?_) (fun hc => ?_)) <;> (first | (exfalso; omega) | skip))
        | (show Rch _ _ _ _ _ 40 _ _ _; refine Rch.blk' (Rn_mono mt _ _) bl_X0_pairsSideBySide_40 (i_aload_n rfl (i_gfr rfl (i_iload_n rfl (i_iald (n := 10) rfl (by omega) (by omega) (by omega) (i_aload_n rfl (i_gfr rfl (i_iload_n rfl (i_iald (n := 10) rfl (by omega) (by omega) (by omega) (t_cs2 (Rn_mono mt _ _) 55 rfl (Nat.le_of_ble_eq_true rfl) ?_))))))))))
        | (show Rch _ _ _ _ _ 55 _ _ _; refine Rch.blk' (Rn_mono mt _ _) bl_X0_pairsSideBySide_55 (i_iconst k_1 (t_ic_ne 62 59 rfl rfl (by first | exact hI_R | exact band_R | exact bor_R | exact bshr_R | exact lcm_R | omega) (by first | exact hI_R | exact band_R | exact bor_R | exact bshr_R | exact lcm_R | omega) (fun hc => ?_) (fun hc => ?_))) <;> (first | (exfalso; omega) | skip))
        | (show Rch _ _ _ _ _ 59 _ _ _; refine Rch.blk' (Rn_mono mt _ _) bl_X0_pairsSideBySide_59 (i_iinc1 trivial k_1 (t_none ?_)))
        | (show Rch _ _ _ _ _ 62 _ _ _; refine Rch.blk' (Rn_mono mt _ _) bl_X0_pairsSideBySide_62 (i_iinc3 trivial k_1 (t_goto 14 rfl ?_)))
        | (show Rch _ _ _ _ _ 68 _ _ _; refine Rch.blk' (Rn_mono mt _ _) bl_X0_pairsSideBySide_68 (i_iinc2 trivial k_1 (t_goto 4 rfl ?_)))
        | (show Rch _ _ _ _ _ 74 _ _ _; refine Rch.blk' (Rn_mono mt _ _) bl_X0_pairsSideBySide_74 (i_iload_n rfl (t_iret ?_))))
  have kz := key 0 (by omega) (by omega) none
  rw [SM_0] at kz
  clear key
  repeat' (first
    | exact kz
    | (show Rn _ _ _ 3 _ _ _; refine c_X0_isThereOf (by assumption) (by assumption) (by first | omega | exact hI_R) (by first | omega | exact hI_R) (fun _ _ _ _ _ => ?_) (fun _ => ?_))
    | (show Rn _ _ _ 20 _ _ _; refine c_X3_far (by omega) (by omega) (by omega) (by omega) (fun _ _ => ?_))
    | (show Rch _ _ _ _ _ 0 _ _ _; refine Rch.blk' (Rn_mono mt _ _) bl_X0_pairsSideBySide_0 (i_iconst k_0 (i_istore1 trivial (i_iconst k_0 (i_istore2 trivial (t_none ?_))))))
    | (show Rch _ _ _ _ _ 12 _ _ _; refine Rch.blk' (Rn_mono mt _ _) bl_X0_pairsSideBySide_12 (i_iconst k_0 (i_istore3 trivial (t_none ?_))))
    | (show Rch _ _ _ _ _ 22 _ _ _; refine Rch.blk' (Rn_mono mt _ _) bl_X0_pairsSideBySide_22 (i_aload_n rfl (i_iload_n rfl (i_iconst k_0 (t_cv3 (Rn_mono mt _ _) 28 rfl (Nat.le_of_ble_eq_true rfl) ?_)))))
    | (show Rch _ _ _ _ _ 28 _ _ _; refine Rch.blk' (Rn_mono mt _ _) bl_X0_pairsSideBySide_28 (t_if_eq 62 31 rfl rfl (by first | exact hI_R | exact band_R | exact bor_R | exact bshr_R | exact lcm_R | omega) (fun hc => ?_) (fun hc => ?_)) <;> (first | (exfalso; omega) | skip))
    | (show Rch _ _ _ _ _ 31 _ _ _; refine Rch.blk' (Rn_mono mt _ _) bl_X0_pairsSideBySide_31 (i_aload_n rfl (i_iload_n rfl (i_iconst k_1 (t_cv3 (Rn_mono mt _ _) 37 rfl (Nat.le_of_ble_eq_true rfl) ?_)))))
    | (show Rch _ _ _ _ _ 37 _ _ _; refine Rch.blk' (Rn_mono mt _ _) bl_X0_pairsSideBySide_37 (t_if_eq 62 40 rfl rfl (by first | exact hI_R | exact band_R | exact bor_R | exact bshr_R | exact lcm_R | omega) (fun hc => ?_) (fun hc => ?_)) <;> (first | (exfalso; omega) | skip))
    | (show Rch _ _ _ _ _ 40 _ _ _; refine Rch.blk' (Rn_mono mt _ _) bl_X0_pairsSideBySide_40 (i_aload_n rfl (i_gfr rfl (i_iload_n rfl (i_iald (n := 10) rfl (by omega) (by omega) (by omega) (i_aload_n rfl (i_gfr rfl (i_iload_n rfl (i_iald (n := 10) rfl (by omega) (by omega) (by omega) (t_cs2 (Rn_mono mt _ _) 55 rfl (Nat.le_of_ble_eq_true rfl) ?_))))))))))
    | (show Rch _ _ _ _ _ 55 _ _ _; refine Rch.blk' (Rn_mono mt _ _) bl_X0_pairsSideBySide_55 (i_iconst k_1 (t_ic_ne 62 59 rfl rfl (by first | exact hI_R | exact band_R | exact bor_R | exact bshr_R | exact lcm_R | omega) (by first | exact hI_R | exact band_R | exact bor_R | exact bshr_R | exact lcm_R | omega) (fun hc => ?_) (fun hc => ?_))) <;> (first | (exfalso; omega) | skip))
    | (show Rch _ _ _ _ _ 59 _ _ _; refine Rch.blk' (Rn_mono mt _ _) bl_X0_pairsSideBySide_59 (i_iinc1 trivial k_1 (t_none ?_)))
    | (show Rch _ _ _ _ _ 62 _ _ _; refine Rch.blk' (Rn_mono mt _ _) bl_X0_pairsSideBySide_62 (i_iinc3 trivial k_1 (t_goto 14 rfl ?_)))
    | (show Rch _ _ _ _ _ 68 _ _ _; refine Rch.blk' (Rn_mono mt _ _) bl_X0_pairsSideBySide_68 (i_iinc2 trivial k_1 (t_goto 4 rfl ?_)))
    | (show Rch _ _ _ _ _ 74 _ _ _; refine Rch.blk' (Rn_mono mt _ _) bl_X0_pairsSideBySide_74 (i_iload_n rfl (t_iret ?_))))
theorem c_X3_free (hG : RC h 0 G) (hO : OKB G) (hy : dy G ≤ 999) {w : Int} (hw : inR w) (hq : ∀ v h', v = vFree G w → JX h h' → Q (some (ai (I v))) h') : Rn mt L (d + 5) 71 [ar 2 0, ai (I w)] h Q := by
  refine Rn.intro iX3_free rfl rfl ?_
  show Rch bX3_free _ _ _ _ 0 [some (ar 2 0), some (ai (I w))] [] _
  have e_d := hG.d
  have g_d := hO.2.2.2.1
  have k0 : ∀ v, v = 36 - NT G → w = 0 → Q (some (ai (I v))) h := fun v e a => hq _ _ (by unfold vFree; rw [if_pos a]; exact e) JX.rf
  have k1 : w = 1 → Q (some (ai (I (PW G)))) h := fun a => hq _ _ (by unfold vFree; rw [if_neg (by omega), if_pos a]) JX.rf
  have k2 : w = 2 → Q (some (ai (I (BT (fun i => i < nn G ∧ QC G (dy G + 1) i))))) h := fun a => hq _ _ (by unfold vFree; rw [if_neg (by omega), if_neg (by omega), if_pos a]) JX.rf
  have k3 : ∀ v, v = -1 → ¬ w = 0 → ¬ w = 1 → ¬ w = 2 → Q (some (ai (I v))) h := fun v e a c f => hq _ _ (by unfold vFree; rw [if_neg a, if_neg c, if_neg f]; exact e) JX.rf
  clear hq
  repeat' (first
    | (show Rn _ _ _ 40 _ _ _; refine c_X0_pairsSideBySide hG hO ?_)
    | ((with_reducible refine k0 _ ?_ ?_) <;> omega)
    | ((with_reducible refine k1 ?_) <;> omega)
    | ((with_reducible refine k2 ?_) <;> omega)
    | ((with_reducible refine k3 _ ?_ ?_ ?_ ?_) <;> omega)
    | (show Rn _ _ _ 32 _ _ _; refine c_X0_howManyThere (by assumption) (by assumption) (fun _ _ => ?_))
    | (show Rn _ _ _ 41 _ _ _; refine c_X0_quietOn (by assumption) (by assumption) (by omega) (by omega) ?_)
    | (show Rch _ _ _ _ _ 0 _ _ _; refine Rch.blk' (Rn_mono mt _ _) bl_X3_free_0 (i_iload_n rfl (t_tsw 0 2 64 rfl rfl (by first | omega | (simp (disch := omega) only [e_d]; omega)) rfl (by first | exact hI_R | exact band_R | exact bor_R | exact bshr_R | exact lcm_R | omega | (simp (disch := omega) only [e_d]; omega)) (by first | omega | (simp (disch := omega) only [e_d]; omega)) (sw_c 0 28 1 rfl rfl (by first | exact hI_R | exact band_R | exact bor_R | exact bshr_R | exact lcm_R | omega | (simp (disch := omega) only [e_d]; omega)) (by first | omega | (simp (disch := omega) only [e_d]; omega)) rfl (fun hc => ?_) (sw_c 1 39 2 rfl rfl (by first | exact hI_R | exact band_R | exact bor_R | exact bshr_R | exact lcm_R | omega | (simp (disch := omega) only [e_d]; omega)) (by first | omega | (simp (disch := omega) only [e_d]; omega)) rfl (fun hc => ?_) (sw_c 2 47 3 rfl rfl (by first | exact hI_R | exact band_R | exact bor_R | exact bshr_R | exact lcm_R | omega | (simp (disch := omega) only [e_d]; omega)) (by first | omega | (simp (disch := omega) only [e_d]; omega)) rfl (fun hc => ?_) sw_n))) (fun hc => ?_))) <;> (first | (exfalso; omega) | skip))
    | (show Rch _ _ _ _ _ 28 _ _ _; refine Rch.blk' (Rn_mono mt _ _) bl_X3_free_28 (i_bipush k_36 (i_aload_n rfl (i_gfs rfl (t_cv1 (Rn_mono mt _ _) 37 rfl (Nat.le_of_ble_eq_true rfl) ?_)))) <;> (try (simp (disch := omega) only [e_d])))
    | (show Rch _ _ _ _ _ 37 _ _ _; refine Rch.blk' (Rn_mono mt _ _) bl_X3_free_37 (i_isub (t_iret ?_)))
    | (show Rch _ _ _ _ _ 39 _ _ _; refine Rch.blk' (Rn_mono mt _ _) bl_X3_free_39 (i_aload_n rfl (i_gfs rfl (t_cv1 (Rn_mono mt _ _) 46 rfl (Nat.le_of_ble_eq_true rfl) ?_))) <;> (try (simp (disch := omega) only [e_d])))
    | (show Rch _ _ _ _ _ 46 _ _ _; refine Rch.blk' (Rn_mono mt _ _) bl_X3_free_46 (t_iret ?_))
    | (show Rch _ _ _ _ _ 47 _ _ _; refine Rch.blk' (Rn_mono mt _ _) bl_X3_free_47 (i_aload_n rfl (i_gfs rfl (i_aload_n rfl (i_gfs rfl (i_gfi rfl (i_iconst k_1 (i_iadd (t_cv2 (Rn_mono mt _ _) 63 rfl (Nat.le_of_ble_eq_true rfl) ?_)))))))) <;> (try (simp (disch := omega) only [e_d])))
    | (show Rch _ _ _ _ _ 63 _ _ _; refine Rch.blk' (Rn_mono mt _ _) bl_X3_free_63 (t_iret ?_))
    | (show Rch _ _ _ _ _ 64 _ _ _; refine Rch.blk' (Rn_mono mt _ _) bl_X3_free_64 (i_iconst k_m1 (t_iret ?_))))
end C28


