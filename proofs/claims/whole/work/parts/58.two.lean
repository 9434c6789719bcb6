/-! TWO: both sides -/
theorem RC.eqs {h h' : Mem} {b : Nat} {G : Bd} (H : RC h b G) (e : ∀ t k : Nat, t = 0 ∨ (4 ≤ t ∧ t ≤ 8) → hI h' t b k = hI h t b k) : RC h' b G :=
  ⟨by rw [e 0 _ (by omega)]; exact H.n, by rw [e 0 _ (by omega)]; exact H.t, by rw [e 0 _ (by omega)]; exact H.o, by rw [e 0 _ (by omega)]; exact H.d, fun p p0 p1 => ⟨by rw [e 4 _ (by omega)]; exact H.k p0 p1, by rw [e 5 _ (by omega)]; exact H.f p0 p1, by rw [e 6 _ (by omega)]; exact H.s p0 p1, by rw [e 7 _ (by omega)]; exact H.q p0 p1⟩, fun q q0 q1 => by rw [e 8 _ (by omega)]; exact H.w q0 q1⟩
theorem JX.ms {h h' : Mem} {t b k : Nat} {x : Int32} (a : JX h h') (ht : t = 10 ∨ t = 11 ∨ (t = 2 ∧ k = 9)) : JX h (mset h' t b k x) := by
  intro t' b' k' hn
  rw [← a t' b' k' hn]
  by_cases e : t' = t
  · exact hI_nk (fun z => hn (by omega))
  · exact hI_nt e
theorem k4c {k : Int} (k0 : 0 ≤ k) (k1 : k < 4) : k = 0 ∨ k = 1 ∨ k = 2 ∨ k = 3 := by omega
theorem tb2 {k : Int} (k0 : 0 ≤ k) (k1 : k < 4) : (k < 2 ∧ band k 2 = 0) ∨ (2 ≤ k ∧ band k 2 = 2) := by
  rcases k4c k0 k1 with rfl | rfl | rfl | rfl
  · exact Or.inl ⟨by omega, by decide +kernel⟩
  · exact Or.inl ⟨by omega, by decide +kernel⟩
  · exact Or.inr ⟨by omega, by decide +kernel⟩
  · exact Or.inr ⟨by omega, by decide +kernel⟩
theorem tb1 {k : Int} (k0 : 0 ≤ k) (k1 : k < 4) : band k 1 = k % 2 := by
  rcases k4c k0 k1 with rfl | rfl | rfl | rfl <;> decide +kernel
theorem tx2 {k : Int} (k0 : 0 ≤ k) (k1 : k < 4) : bxor k 2 = if k < 2 then k + 2 else k - 2 := by
  rcases k4c k0 k1 with rfl | rfl | rfl | rfl <;> decide +kernel
theorem tx1 {k : Int} (k0 : 0 ≤ k) (k1 : k < 4) : bxor k 1 = if k % 2 = 0 then k + 1 else k - 1 := by
  rcases k4c k0 k1 with rfl | rfl | rfl | rfl <;> decide +kernel
theorem tsh {k : Int} (k0 : 0 ≤ k) (k1 : k < 4) : bshr k 1 = k / 2 := by
  rcases k4c k0 k1 with rfl | rfl | rfl | rfl <;> decide +kernel
noncomputable def tw (G : Bd) (a b n w k : Int) : Int := vHas G w a (k / 2) b (k % 2) n
def xr2 (k : Int) : Int := if k < 2 then k + 2 else k - 2
def xr1 (k : Int) : Int := if k % 2 = 0 then k + 1 else k - 1
def twC (F H : Int → Int) (k : Int) : Prop := F (xr2 k) ≤ F k ∧ H (xr1 k) ≤ H k
noncomputable def vPair (F H : Int → Int) : Int := if fst1 (twC F H) 4 = -4 then -4 else 10 * (fst1 (twC F H) 4 / 2) + fst1 (twC F H) 4 % 2
theorem vPair_is {F H : Int → Int} {k : Int} (k0 : 0 ≤ k) (k1 : k < 4) (hP : twC F H k) (hn : ∀ j : Int, 0 ≤ j → j < k → ¬ twC F H j) : vPair F H = 10 * (k / 2) + k % 2 := by
  unfold vPair
  rw [fst_is k0 k1 hP hn, if_neg (by omega)]
theorem vPair_no {F H : Int → Int} (hn : ∀ j : Int, 0 ≤ j → j < 4 → ¬ twC F H j) : vPair F H = -4 := by
  unfold vPair
  rw [fst_no hn, if_pos rfl]
noncomputable def vTwo (G : Bd) (a b n : Int) : Int := if ((0 ≤ a ∧ a < nn G) ∧ (0 ≤ b ∧ b < nn G) ∧ ¬ a = b) ∧ 1 ≤ n ∧ n ≤ 30 then (if sq G a < 36 ∧ sq G b < 36 then vPair (tw G a b n a) (tw G a b n b) else -3) else -1
theorem vHas_R {G : Bd} (hO : OKB G) {w a x b y n : Int} (n0 : 0 ≤ n) : -5 ≤ vHas G w a x b y n ∧ vHas G w a x b y n ≤ 90 := by
  have := WO_R (DN_f (M := MU a x b y) hO n n0).1 (sd G w)
  unfold vHas
  omega
section C33
variable {d : Nat} {h : Mem} {Q : Option AV → Mem → Prop} {G : Bd} {F H : Int → Int}
theorem c_X3_firstPairAtRest (hF : ∀ j : Int, 0 ≤ j → j < 4 → hI h 10 0 j.toNat = F j) (hH : ∀ j : Int, 0 ≤ j → j < 4 → hI h 11 0 j.toNat = H j) (hq : Q (some (ai (I (vPair F H)))) h) : Rn mt (d + 2) 86 [ar 2 0] h Q := by
  refine Rn.intro iX3_firstPairAtRest rfl rfl ?_
  show Rch bX3_firstPairAtRest _ _ _ _ 0 [some (ar 2 0), none, none, none] [] _
  have key : ∀ k : Int, k ≤ 4 → 0 ≤ k → ∀ u v : Option AV, (∀ j : Int, 0 ≤ j → j < k → ¬ twC F H j) → RH bX3_firstPairAtRest (d + 1) Q 2 [some (ar 2 0), some (ai (I k)), u, v] h := by
    refine up_ind (fun k hk ih hk0 u v hn => ?_)
    by_cases hk1 : k < 4
    · have ih := ih hk1 (by omega)
      have e_x2 : bxor k 2 = xr2 k := tx2 hk0 hk1
      have e_x1 : bxor k 1 = xr1 k := tx1 hk0 hk1
      have e_b1 := tb1 hk0 hk1
      have e_s1 := tsh hk0 hk1
      have g_x2 : 0 ≤ xr2 k ∧ xr2 k < 4 := by unfold xr2; omega
      have g_x1 : 0 ≤ xr1 k ∧ xr1 k < 4 := by unfold xr1; omega
      have e_1 := hF k hk0 hk1
      have e_2 := hF (xr2 k) g_x2.1 g_x2.2
      have e_3 := hH k hk0 hk1
      have e_4 := hH (xr1 k) g_x1.1 g_x1.2
      have r_1 : inR (F k) := by rw [← e_1]; exact hI_R
      have r_2 : inR (F (xr2 k)) := by rw [← e_2]; exact hI_R
      have r_3 : inR (H k) := by rw [← e_3]; exact hI_R
      have r_4 : inR (H (xr1 k)) := by rw [← e_4]; exact hI_R
      have kH : ∀ w, w = 10 * (k / 2) + k % 2 → F (xr2 k) ≤ F k → H (xr1 k) ≤ H k → Q (some (ai (I w))) h := fun w e a b => by
        rw [e, ← vPair_is hk0 hk1 ⟨a, b⟩ hn]; exact hq
      have kN : ∀ u v, ¬ (F (xr2 k) ≤ F k ∧ H (xr1 k) ≤ H k) → RH bX3_firstPairAtRest (d + 1) Q 2 [some (ar 2 0), some (ai (I (k + 1))), u, v] h := fun u v c => ih u v (fun j j0 j1 => by
        by_cases z : j = k
        · subst z; exact c
        · exact hn j j0 (by omega))
      clear ih hn hq
      refine Rch.blk' (Rn_mono mt _) bl_X3_firstPairAtRest_2 (i_iload_n rfl (i_iconst k_4 (t_ic_ge 78 7 rfl rfl (by first | exact hI_R | exact band_R | exact bor_R | exact bshr_R | exact lcm_R | omega) (by first | exact hI_R | exact band_R | exact bor_R | exact bshr_R | exact lcm_R | omega) (fun hc => ?_) (fun hc => ?_)))) <;> (first | (exfalso; omega) | skip)
      repeat' (first
        | ((with_reducible refine kH _ ?_ ?_ ?_) <;> omega)
        | ((with_reducible refine kN _ _ ?_) <;> omega)
        | (show Rch _ _ _ _ _ 0 _ _ _; refine Rch.blk' (Rn_mono mt _) bl_X3_firstPairAtRest_0 (i_iconst k_0 (i_istore1 trivial (t_none ?_))))
        | (show Rch _ _ _ _ _ 7 _ _ _; refine Rch.blk' (Rn_mono mt _) bl_X3_firstPairAtRest_7 (i_aload_n rfl (i_gfs rfl (i_iload_n rfl (i_iald (n := 4) rfl (by first | omega | (simp (disch := omega) only [e_x2, e_x1, e_b1, e_s1, e_1, e_2, e_3, e_4]; omega)) (by first | omega | (simp (disch := omega) only [e_x2, e_x1, e_b1, e_s1, e_1, e_2, e_3, e_4]; omega)) (by first | omega | (simp (disch := omega) only [e_x2, e_x1, e_b1, e_s1, e_1, e_2, e_3, e_4]; omega)) (i_aload_n rfl (i_gfs rfl (i_iload_n rfl (i_iconst k_2 (i_ixor (i_iald (n := 4) rfl (by first | omega | (simp (disch := omega) only [e_x2, e_x1, e_b1, e_s1, e_1, e_2, e_3, e_4]; omega)) (by first | omega | (simp (disch := omega) only [e_x2, e_x1, e_b1, e_s1, e_1, e_2, e_3, e_4]; omega)) (by first | omega | (simp (disch := omega) only [e_x2, e_x1, e_b1, e_s1, e_1, e_2, e_3, e_4]; omega)) (t_ic_lt 28 24 rfl rfl (by first | exact hI_R | exact band_R | exact bor_R | exact bshr_R | exact lcm_R | omega | (simp (disch := omega) only [e_x2, e_x1, e_b1, e_s1, e_1, e_2, e_3, e_4]; omega)) (by first | exact hI_R | exact band_R | exact bor_R | exact bshr_R | exact lcm_R | omega | (simp (disch := omega) only [e_x2, e_x1, e_b1, e_s1, e_1, e_2, e_3, e_4]; omega)) (fun hc => ?_) (fun hc => ?_)))))))))))) <;> (try (simp (disch := omega) only [e_x2, e_x1, e_b1, e_s1, e_1, e_2, e_3, e_4] at hc ⊢)) <;> (first | (exfalso; omega) | skip))
        | (show Rch _ _ _ _ _ 24 _ _ _; refine Rch.blk' (Rn_mono mt _) bl_X3_firstPairAtRest_24 (i_iconst k_1 (t_goto 29 rfl ?_)))
        | (show Rch _ _ _ _ _ 28 _ _ _; refine Rch.blk' (Rn_mono mt _) bl_X3_firstPairAtRest_28 (i_iconst k_0 (t_none ?_)))
        | (show Rch _ _ _ _ _ 29 _ _ _; refine Rch.blk' (Rn_mono mt _) bl_X3_firstPairAtRest_29 (i_istore2 trivial (i_aload_n rfl (i_gfs rfl (i_iload_n rfl (i_iald (n := 4) rfl (by first | omega | (simp (disch := omega) only [e_x2, e_x1, e_b1, e_s1, e_1, e_2, e_3, e_4]; omega)) (by first | omega | (simp (disch := omega) only [e_x2, e_x1, e_b1, e_s1, e_1, e_2, e_3, e_4]; omega)) (by first | omega | (simp (disch := omega) only [e_x2, e_x1, e_b1, e_s1, e_1, e_2, e_3, e_4]; omega)) (i_aload_n rfl (i_gfs rfl (i_iload_n rfl (i_iconst k_1 (i_ixor (i_iald (n := 4) rfl (by first | omega | (simp (disch := omega) only [e_x2, e_x1, e_b1, e_s1, e_1, e_2, e_3, e_4]; omega)) (by first | omega | (simp (disch := omega) only [e_x2, e_x1, e_b1, e_s1, e_1, e_2, e_3, e_4]; omega)) (by first | omega | (simp (disch := omega) only [e_x2, e_x1, e_b1, e_s1, e_1, e_2, e_3, e_4]; omega)) (t_ic_lt 51 47 rfl rfl (by first | exact hI_R | exact band_R | exact bor_R | exact bshr_R | exact lcm_R | omega | (simp (disch := omega) only [e_x2, e_x1, e_b1, e_s1, e_1, e_2, e_3, e_4]; omega)) (by first | exact hI_R | exact band_R | exact bor_R | exact bshr_R | exact lcm_R | omega | (simp (disch := omega) only [e_x2, e_x1, e_b1, e_s1, e_1, e_2, e_3, e_4]; omega)) (fun hc => ?_) (fun hc => ?_))))))))))))) <;> (try (simp (disch := omega) only [e_x2, e_x1, e_b1, e_s1, e_1, e_2, e_3, e_4] at hc ⊢)) <;> (first | (exfalso; omega) | skip))
        | (show Rch _ _ _ _ _ 47 _ _ _; refine Rch.blk' (Rn_mono mt _) bl_X3_firstPairAtRest_47 (i_iconst k_1 (t_goto 52 rfl ?_)))
        | (show Rch _ _ _ _ _ 51 _ _ _; refine Rch.blk' (Rn_mono mt _) bl_X3_firstPairAtRest_51 (i_iconst k_0 (t_none ?_)))
        | (show Rch _ _ _ _ _ 52 _ _ _; refine Rch.blk' (Rn_mono mt _) bl_X3_firstPairAtRest_52 (i_istore3 trivial (i_iload_n rfl (t_if_eq 72 57 rfl rfl (by first | exact hI_R | exact band_R | exact bor_R | exact bshr_R | exact lcm_R | omega | (simp (disch := omega) only [e_x2, e_x1, e_b1, e_s1, e_1, e_2, e_3, e_4]; omega)) (fun hc => ?_) (fun hc => ?_)))) <;> (first | (exfalso; omega) | skip))
        | (show Rch _ _ _ _ _ 57 _ _ _; refine Rch.blk' (Rn_mono mt _) bl_X3_firstPairAtRest_57 (i_iload_n rfl (t_if_eq 72 61 rfl rfl (by first | exact hI_R | exact band_R | exact bor_R | exact bshr_R | exact lcm_R | omega | (simp (disch := omega) only [e_x2, e_x1, e_b1, e_s1, e_1, e_2, e_3, e_4]; omega)) (fun hc => ?_) (fun hc => ?_))) <;> (first | (exfalso; omega) | skip))
        | (show Rch _ _ _ _ _ 61 _ _ _; refine Rch.blk' (Rn_mono mt _) bl_X3_firstPairAtRest_61 (i_bipush k_10 (i_iload_n rfl (i_iconst k_1 (i_ishr (i_imul (i_iload_n rfl (i_iconst k_1 (i_iand (i_iadd (t_iret ?_)))))))))))
        | (show Rch _ _ _ _ _ 72 _ _ _; refine Rch.blk' (Rn_mono mt _) bl_X3_firstPairAtRest_72 (i_iinc1 trivial k_1 (t_goto 2 rfl ?_)))
        | (show Rch _ _ _ _ _ 78 _ _ _; refine Rch.blk' (Rn_mono mt _) bl_X3_firstPairAtRest_78 (i_bipush k_m4 (t_iret ?_))))
    · obtain rfl : k = 4 := by omega
      have kk : ∀ w, w = -4 → Q (some (ai (I w))) h := fun w e => by rw [e, ← vPair_no hn]; exact hq
      clear ih hn hq
      refine Rch.blk' (Rn_mono mt _) bl_X3_firstPairAtRest_2 (i_iload_n rfl (i_iconst k_4 (t_ic_ge 78 7 rfl rfl (by first | exact hI_R | exact band_R | exact bor_R | exact bshr_R | exact lcm_R | omega) (by first | exact hI_R | exact band_R | exact bor_R | exact bshr_R | exact lcm_R | omega) (fun hc => ?_) (fun hc => ?_)))) <;> (first | (exfalso; omega) | skip)
      repeat' (first
        | ((with_reducible refine kk _ ?_) <;> omega)
        | (show Rch _ _ _ _ _ 0 _ _ _; refine Rch.blk' (Rn_mono mt _) bl_X3_firstPairAtRest_0 (i_iconst k_0 (i_istore1 trivial (t_none ?_))))
        | (show Rch _ _ _ _ _ 7 _ _ _; refine Rch.blk' (Rn_mono mt _) bl_X3_firstPairAtRest_7 (i_aload_n rfl (i_gfs rfl (i_iload_n rfl (i_iald (n := 4) rfl (by omega) (by omega) (by omega) (i_aload_n rfl (i_gfs rfl (i_iload_n rfl (i_iconst k_2 (i_ixor (i_iald (n := 4) rfl (by omega) (by omega) (by omega) (t_ic_lt 28 24 rfl rfl (by first | exact hI_R | exact band_R | exact bor_R | exact bshr_R | exact lcm_R | omega) (by first | exact hI_R | exact band_R | exact bor_R | exact bshr_R | exact lcm_R | omega) (fun hc => ?_) (fun hc => ?_)))))))))))) <;> (first | (exfalso; omega) | skip))
        | (show Rch _ _ _ _ _ 24 _ _ _; refine Rch.blk' (Rn_mono mt _) bl_X3_firstPairAtRest_24 (i_iconst k_1 (t_goto 29 rfl ?_)))
        | (show Rch _ _ _ _ _ 28 _ _ _; refine Rch.blk' (Rn_mono mt _) bl_X3_firstPairAtRest_28 (i_iconst k_0 (t_none ?_)))
        | (show Rch _ _ _ _ _ 29 _ _ _; refine Rch.blk' (Rn_mono mt _) bl_X3_firstPairAtRest_29 (i_istore2 trivial (i_aload_n rfl (i_gfs rfl (i_iload_n rfl (i_iald (n := 4) rfl (by omega) (by omega) (by omega) (i_aload_n rfl (i_gfs rfl (i_iload_n rfl (i_iconst k_1 (i_ixor (i_iald (n := 4) rfl (by omega) (by omega) (by omega) (t_ic_lt 51 47 rfl rfl (by first | exact hI_R | exact band_R | exact bor_R | exact bshr_R | exact lcm_R | omega) (by first | exact hI_R | exact band_R | exact bor_R | exact bshr_R | exact lcm_R | omega) (fun hc => ?_) (fun hc => ?_))))))))))))) <;> (first | (exfalso; omega) | skip))
        | (show Rch _ _ _ _ _ 47 _ _ _; refine Rch.blk' (Rn_mono mt _) bl_X3_firstPairAtRest_47 (i_iconst k_1 (t_goto 52 rfl ?_)))
        | (show Rch _ _ _ _ _ 51 _ _ _; refine Rch.blk' (Rn_mono mt _) bl_X3_firstPairAtRest_51 (i_iconst k_0 (t_none ?_)))
        | (show Rch _ _ _ _ _ 52 _ _ _; refine Rch.blk' (Rn_mono mt _) bl_X3_firstPairAtRest_52 (i_istore3 trivial (i_iload_n rfl (t_if_eq 72 57 rfl rfl (by first | exact hI_R | exact band_R | exact bor_R | exact bshr_R | exact lcm_R | omega) (fun hc => ?_) (fun hc => ?_)))) <;> (first | (exfalso; omega) | skip))
        | (show Rch _ _ _ _ _ 57 _ _ _; refine Rch.blk' (Rn_mono mt _) bl_X3_firstPairAtRest_57 (i_iload_n rfl (t_if_eq 72 61 rfl rfl (by first | exact hI_R | exact band_R | exact bor_R | exact bshr_R | exact lcm_R | omega) (fun hc => ?_) (fun hc => ?_))) <;> (first | (exfalso; omega) | skip))
        | (show Rch _ _ _ _ _ 61 _ _ _; refine Rch.blk' (Rn_mono mt _) bl_X3_firstPairAtRest_61 (i_bipush k_10 (i_iload_n rfl (i_iconst k_1 (i_ishr (i_imul (i_iload_n rfl (i_iconst k_1 (i_iand (i_iadd (t_iret ?_)))))))))))
        | (show Rch _ _ _ _ _ 72 _ _ _; refine Rch.blk' (Rn_mono mt _) bl_X3_firstPairAtRest_72 (i_iinc1 trivial k_1 (t_goto 2 rfl ?_)))
        | (show Rch _ _ _ _ _ 78 _ _ _; refine Rch.blk' (Rn_mono mt _) bl_X3_firstPairAtRest_78 (i_bipush k_m4 (t_iret ?_))))
  have kz := key 0 (by omega) (by omega) none none (fun j _ _ => by omega)
  clear key
  repeat' (first
    | exact kz
    | (show Rch _ _ _ _ _ 0 _ _ _; refine Rch.blk' (Rn_mono mt _) bl_X3_firstPairAtRest_0 (i_iconst k_0 (i_istore1 trivial (t_none ?_))))
    | (show Rch _ _ _ _ _ 7 _ _ _; refine Rch.blk' (Rn_mono mt _) bl_X3_firstPairAtRest_7 (i_aload_n rfl (i_gfs rfl (i_iload_n rfl (i_iald (n := 4) rfl (by omega) (by omega) (by omega) (i_aload_n rfl (i_gfs rfl (i_iload_n rfl (i_iconst k_2 (i_ixor (i_iald (n := 4) rfl (by omega) (by omega) (by omega) (t_ic_lt 28 24 rfl rfl (by first | exact hI_R | exact band_R | exact bor_R | exact bshr_R | exact lcm_R | omega) (by first | exact hI_R | exact band_R | exact bor_R | exact bshr_R | exact lcm_R | omega) (fun hc => ?_) (fun hc => ?_)))))))))))) <;> (first | (exfalso; omega) | skip))
    | (show Rch _ _ _ _ _ 24 _ _ _; refine Rch.blk' (Rn_mono mt _) bl_X3_firstPairAtRest_24 (i_iconst k_1 (t_goto 29 rfl ?_)))
    | (show Rch _ _ _ _ _ 28 _ _ _; refine Rch.blk' (Rn_mono mt _) bl_X3_firstPairAtRest_28 (i_iconst k_0 (t_none ?_)))
    | (show Rch _ _ _ _ _ 29 _ _ _; refine Rch.blk' (Rn_mono mt _) bl_X3_firstPairAtRest_29 (i_istore2 trivial (i_aload_n rfl (i_gfs rfl (i_iload_n rfl (i_iald (n := 4) rfl (by omega) (by omega) (by omega) (i_aload_n rfl (i_gfs rfl (i_iload_n rfl (i_iconst k_1 (i_ixor (i_iald (n := 4) rfl (by omega) (by omega) (by omega) (t_ic_lt 51 47 rfl rfl (by first | exact hI_R | exact band_R | exact bor_R | exact bshr_R | exact lcm_R | omega) (by first | exact hI_R | exact band_R | exact bor_R | exact bshr_R | exact lcm_R | omega) (fun hc => ?_) (fun hc => ?_))))))))))))) <;> (first | (exfalso; omega) | skip))
    | (show Rch _ _ _ _ _ 47 _ _ _; refine Rch.blk' (Rn_mono mt _) bl_X3_firstPairAtRest_47 (i_iconst k_1 (t_goto 52 rfl ?_)))
    | (show Rch _ _ _ _ _ 51 _ _ _; refine Rch.blk' (Rn_mono mt _) bl_X3_firstPairAtRest_51 (i_iconst k_0 (t_none ?_)))
    | (show Rch _ _ _ _ _ 52 _ _ _; refine Rch.blk' (Rn_mono mt _) bl_X3_firstPairAtRest_52 (i_istore3 trivial (i_iload_n rfl (t_if_eq 72 57 rfl rfl (by first | exact hI_R | exact band_R | exact bor_R | exact bshr_R | exact lcm_R | omega) (fun hc => ?_) (fun hc => ?_)))) <;> (first | (exfalso; omega) | skip))
    | (show Rch _ _ _ _ _ 57 _ _ _; refine Rch.blk' (Rn_mono mt _) bl_X3_firstPairAtRest_57 (i_iload_n rfl (t_if_eq 72 61 rfl rfl (by first | exact hI_R | exact band_R | exact bor_R | exact bshr_R | exact lcm_R | omega) (fun hc => ?_) (fun hc => ?_))) <;> (first | (exfalso; omega) | skip))
    | (show Rch _ _ _ _ _ 61 _ _ _; refine Rch.blk' (Rn_mono mt _) bl_X3_firstPairAtRest_61 (i_bipush k_10 (i_iload_n rfl (i_iconst k_1 (i_ishr (i_imul (i_iload_n rfl (i_iconst k_1 (i_iand (i_iadd (t_iret ?_)))))))))))
    | (show Rch _ _ _ _ _ 72 _ _ _; refine Rch.blk' (Rn_mono mt _) bl_X3_firstPairAtRest_72 (i_iinc1 trivial k_1 (t_goto 2 rfl ?_)))
    | (show Rch _ _ _ _ _ 78 _ _ _; refine Rch.blk' (Rn_mono mt _) bl_X3_firstPairAtRest_78 (i_bipush k_m4 (t_iret ?_))))
theorem c_X3_two (hG : RC h 0 G) (hO : OKB G) (hy : dy G ≤ 999) {a b n : Int} (ha : inR a) (hb : inR b) (hn : inR n) (hq : ∀ v h', v = vTwo G a b n → JX h h' → Q (some (ai (I v))) h') : Rn mt (d + 20) 87 [ar 2 0, ai (I a), ai (I b), ai (I n)] h Q := by
  refine Rn.intro iX3_two rfl rfl ?_
  show Rch bX3_two _ _ _ _ 0 [some (ar 2 0), some (ai (I a)), some (ai (I b)), some (ai (I n)), none, none, none] [] _
  have g_n := hO.n
  have k1 : ∀ u, u = -1 → ¬ (((0 ≤ a ∧ a < nn G) ∧ (0 ≤ b ∧ b < nn G) ∧ ¬ a = b) ∧ 1 ≤ n ∧ n ≤ 30) → Q (some (ai (I u))) h := fun u e c => hq _ _ (by unfold vTwo; rw [if_neg c]; exact e) JX.rf
  have k2 : ∀ u, u = -3 → (((0 ≤ a ∧ a < nn G) ∧ (0 ≤ b ∧ b < nn G) ∧ ¬ a = b) ∧ 1 ≤ n ∧ n ≤ 30) → ¬ (sq G a < 36 ∧ sq G b < 36) → Q (some (ai (I u))) h := fun u e c f => hq _ _ (by unfold vTwo; rw [if_pos c, if_neg f]; exact e) JX.rf
  have key : (((0 ≤ a ∧ a < nn G) ∧ (0 ≤ b ∧ b < nn G) ∧ ¬ a = b) ∧ 1 ≤ n ∧ n ≤ 30) → (sq G a < 36 ∧ sq G b < 36) → ∀ k : Int, k ≤ 4 → 0 ≤ k → ∀ (h' : Mem) (u v : Option AV), (∀ j : Int, 0 ≤ j → j < k → hI h' 10 0 j.toNat = tw G a b n a j) → (∀ j : Int, 0 ≤ j → j < k → hI h' 11 0 j.toNat = tw G a b n b j) → JX h h' → RH bX3_two (d + 19) Q 68 [some (ar 2 0), some (ai (I a)), some (ai (I b)), some (ai (I n)), some (ai (I k)), u, v] h' := by
    intro hc hf
    obtain ⟨⟨⟨a0, a1⟩, ⟨b0, b1⟩, hab⟩, n0, n1⟩ := hc
    refine up_ind (fun k hk ih hk0 h' u v hA hB hJ => ?_)
    by_cases hk1 : k < 4
    · have ih := ih hk1 (by omega)
      have hR := hG.jx hJ (by omega)
      have hOn := fun i (i0 : 0 ≤ i) => DN_f (M := MU a (k / 2) b (k % 2)) hO i i0
      have inner : ∀ i : Int, i ≤ n → 0 ≤ i → ∀ h2, RC h2 2 (DN G (MU a (k / 2) b (k % 2)) i) → JX h' h2 → (∀ j : Nat, hI h2 10 0 j = hI h' 10 0 j) → (∀ j : Nat, hI h2 11 0 j = hI h' 11 0 j) → RH bX3_two (d + 19) Q 119 [some (ar 2 0), some (ai (I a)), some (ai (I b)), some (ai (I n)), some (ai (I k)), some (ai (I (BT (MU a (k / 2) b (k % 2))))), some (ai (I i))] h2 := by
        refine up_ind (fun i hi jh i0 h2 hR2 hJ2 hA2 hB2 => ?_)
        obtain ⟨hOi, hni, hdi, -, -, hsi⟩ := hOn i i0
        by_cases hi1 : i < n
        · have jh := jh hi1 (by omega)
          refine Rch.blk' (Rn_mono mt _) bl_X3_two_119 (i_iload rfl (i_iload_n rfl (t_ic_ge 142 125 rfl rfl (by first | exact hI_R | exact band_R | exact bor_R | exact bshr_R | exact lcm_R | omega) (by first | exact hI_R | exact band_R | exact bor_R | exact bshr_R | exact lcm_R | omega) (fun hc => ?_) (fun hc => ?_)))) <;> (first | (exfalso; omega) | skip)
          refine Rch.blk' (Rn_mono mt _) bl_X3_two_125 (i_aload_n rfl (i_gfs rfl (i_iload rfl (i_iconst k_0 (t_cv3 (Rn_mono mt _) 135 rfl (Nat.le_of_ble_eq_true rfl) ?_)))))
          refine c_X0_passDay (M := MU a (k / 2) b (k % 2)) hR2 hOi (Or.inl rfl) (by omega) (fun h3 hG3 hF3 v _ => ?_)
          rw [← DN_up i0] at hG3
          have kk := jh h3 hG3 (hJ2.tr (hF3.jx (by omega))) (fun j => (hF3 10 0 j (by omega)).trans (hA2 j)) (fun j => (hF3 11 0 j (by omega)).trans (hB2 j))
          clear jh ih
          repeat' (first
            | exact kk
            | (show Rn _ _ 1 _ _ _; refine c_X0_has (by assumption) (by assumption) (by first | omega | exact hI_R) (fun _ _ => ?_) (fun _ => ?_))
            | (show Rn _ _ 2 _ _ _; refine c_X0_isThere (by assumption) (by assumption) (by first | omega | exact hI_R) (fun _ _ _ _ => ?_) (fun _ => ?_))
            | (show Rn _ _ 39 _ _ _; refine c_X0_gainOf (by assumption) (by assumption) (by omega) (by omega) ?_)
            | (show Rch _ _ _ _ _ 0 _ _ _; refine Rch.blk' (Rn_mono mt _) bl_X3_two_0 (i_aload_n rfl (i_gfs rfl (i_iload_n rfl (t_cv2 (Rn_mono mt _) 8 rfl (Nat.le_of_ble_eq_true rfl) ?_)))))
            | (show Rch _ _ _ _ _ 8 _ _ _; refine Rch.blk' (Rn_mono mt _) bl_X3_two_8 (t_if_eq 38 11 rfl rfl (by first | exact hI_R | exact band_R | exact bor_R | exact bshr_R | exact lcm_R | omega) (fun hc => ?_) (fun hc => ?_)) <;> (first | (exfalso; omega) | skip))
            | (show Rch _ _ _ _ _ 11 _ _ _; refine Rch.blk' (Rn_mono mt _) bl_X3_two_11 (i_aload_n rfl (i_gfs rfl (i_iload_n rfl (t_cv2 (Rn_mono mt _) 19 rfl (Nat.le_of_ble_eq_true rfl) ?_)))))
            | (show Rch _ _ _ _ _ 19 _ _ _; refine Rch.blk' (Rn_mono mt _) bl_X3_two_19 (t_if_eq 38 22 rfl rfl (by first | exact hI_R | exact band_R | exact bor_R | exact bshr_R | exact lcm_R | omega) (fun hc => ?_) (fun hc => ?_)) <;> (first | (exfalso; omega) | skip))
            | (show Rch _ _ _ _ _ 22 _ _ _; refine Rch.blk' (Rn_mono mt _) bl_X3_two_22 (i_iload_n rfl (i_iload_n rfl (t_ic_eq 38 27 rfl rfl (by first | exact hI_R | exact band_R | exact bor_R | exact bshr_R | exact lcm_R | omega) (by first | exact hI_R | exact band_R | exact bor_R | exact bshr_R | exact lcm_R | omega) (fun hc => ?_) (fun hc => ?_)))) <;> (first | (exfalso; omega) | skip))
            | (show Rch _ _ _ _ _ 27 _ _ _; refine Rch.blk' (Rn_mono mt _) bl_X3_two_27 (i_iload_n rfl (i_iconst k_1 (t_ic_lt 38 32 rfl rfl (by first | exact hI_R | exact band_R | exact bor_R | exact bshr_R | exact lcm_R | omega) (by first | exact hI_R | exact band_R | exact bor_R | exact bshr_R | exact lcm_R | omega) (fun hc => ?_) (fun hc => ?_)))) <;> (first | (exfalso; omega) | skip))
            | (show Rch _ _ _ _ _ 32 _ _ _; refine Rch.blk' (Rn_mono mt _) bl_X3_two_32 (i_iload_n rfl (i_bipush k_30 (t_ic_le 40 38 rfl rfl (by first | exact hI_R | exact band_R | exact bor_R | exact bshr_R | exact lcm_R | omega) (by first | exact hI_R | exact band_R | exact bor_R | exact bshr_R | exact lcm_R | omega) (fun hc => ?_) (fun hc => ?_)))) <;> (first | (exfalso; omega) | skip))
            | (show Rch _ _ _ _ _ 38 _ _ _; refine Rch.blk' (Rn_mono mt _) bl_X3_two_38 (i_iconst k_m1 (t_iret ?_)))
            | (show Rch _ _ _ _ _ 40 _ _ _; refine Rch.blk' (Rn_mono mt _) bl_X3_two_40 (i_aload_n rfl (i_gfs rfl (i_iload_n rfl (t_cv2 (Rn_mono mt _) 48 rfl (Nat.le_of_ble_eq_true rfl) ?_)))))
            | (show Rch _ _ _ _ _ 48 _ _ _; refine Rch.blk' (Rn_mono mt _) bl_X3_two_48 (t_if_eq 62 51 rfl rfl (by first | exact hI_R | exact band_R | exact bor_R | exact bshr_R | exact lcm_R | omega) (fun hc => ?_) (fun hc => ?_)) <;> (first | (exfalso; omega) | skip))
            | (show Rch _ _ _ _ _ 51 _ _ _; refine Rch.blk' (Rn_mono mt _) bl_X3_two_51 (i_aload_n rfl (i_gfs rfl (i_iload_n rfl (t_cv2 (Rn_mono mt _) 59 rfl (Nat.le_of_ble_eq_true rfl) ?_)))))
            | (show Rch _ _ _ _ _ 59 _ _ _; refine Rch.blk' (Rn_mono mt _) bl_X3_two_59 (t_if_ne 65 62 rfl rfl (by first | exact hI_R | exact band_R | exact bor_R | exact bshr_R | exact lcm_R | omega) (fun hc => ?_) (fun hc => ?_)) <;> (first | (exfalso; omega) | skip))
            | (show Rch _ _ _ _ _ 62 _ _ _; refine Rch.blk' (Rn_mono mt _) bl_X3_two_62 (i_bipush k_m3 (t_iret ?_)))
            | (show Rch _ _ _ _ _ 65 _ _ _; refine Rch.blk' (Rn_mono mt _) bl_X3_two_65 (i_iconst k_0 (i_istore4 trivial (t_none ?_))))
            | (show Rch _ _ _ _ _ 68 _ _ _; refine Rch.blk' (Rn_mono mt _) bl_X3_two_68 (i_iload rfl (i_iconst k_4 (t_ic_ge 178 74 rfl rfl (by first | exact hI_R | exact band_R | exact bor_R | exact bshr_R | exact lcm_R | omega) (by first | exact hI_R | exact band_R | exact bor_R | exact bshr_R | exact lcm_R | omega) (fun hc => ?_) (fun hc => ?_)))) <;> (first | (exfalso; omega) | skip))
            | (show Rch _ _ _ _ _ 74 _ _ _; refine Rch.blk' (Rn_mono mt _) bl_X3_two_74 (i_iload rfl (i_iconst k_2 (i_iand (t_if_ne 87 81 rfl rfl (by first | exact hI_R | exact band_R | exact bor_R | exact bshr_R | exact lcm_R | omega) (fun hc => ?_) (fun hc => ?_))))) <;> (first | (exfalso; omega) | skip))
            | (show Rch _ _ _ _ _ 81 _ _ _; refine Rch.blk' (Rn_mono mt _) bl_X3_two_81 (i_iconst k_1 (i_iload_n rfl (i_ishl (t_goto 88 rfl ?_)))))
            | (show Rch _ _ _ _ _ 87 _ _ _; refine Rch.blk' (Rn_mono mt _) bl_X3_two_87 (i_iconst k_0 (t_none ?_)))
            | (show Rch _ _ _ _ _ 88 _ _ _; refine Rch.blk' (Rn_mono mt _) bl_X3_two_88 (i_iload rfl (i_iconst k_1 (i_iand (t_if_ne 101 95 rfl rfl (by first | exact hI_R | exact band_R | exact bor_R | exact bshr_R | exact lcm_R | omega) (fun hc => ?_) (fun hc => ?_))))) <;> (first | (exfalso; omega) | skip))
            | (show Rch _ _ _ _ _ 95 _ _ _; refine Rch.blk' (Rn_mono mt _) bl_X3_two_95 (i_iconst k_1 (i_iload_n rfl (i_ishl (t_goto 102 rfl ?_)))))
            | (show Rch _ _ _ _ _ 101 _ _ _; refine Rch.blk' (Rn_mono mt _) bl_X3_two_101 (i_iconst k_0 (t_none ?_)))
            | (show Rch _ _ _ _ _ 102 _ _ _; refine Rch.blk' (Rn_mono mt _) bl_X3_two_102 (i_ior (i_istore5 trivial (i_aload_n rfl (i_gfs rfl (i_aload_n rfl (i_gfs rfl (t_cv2 (Rn_mono mt _) 116 rfl (Nat.le_of_ble_eq_true rfl) ?_))))))))
            | (show Rch _ _ _ _ _ 116 _ _ _; refine Rch.blk' (Rn_mono mt _) bl_X3_two_116 (i_iconst k_0 (i_istore6 trivial (t_none ?_))))
            | (show Rch _ _ _ _ _ 125 _ _ _; refine Rch.blk' (Rn_mono mt _) bl_X3_two_125 (i_aload_n rfl (i_gfs rfl (i_iload rfl (i_iconst k_0 (t_cv3 (Rn_mono mt _) 135 rfl (Nat.le_of_ble_eq_true rfl) ?_))))))
            | (show Rch _ _ _ _ _ 135 _ _ _; refine Rch.blk' (Rn_mono mt _) bl_X3_two_135 (i_pop rfl (i_iinc6 trivial k_1 (t_goto 119 rfl ?_))))
            | (show Rch _ _ _ _ _ 142 _ _ _; refine Rch.blk' (Rn_mono mt _) bl_X3_two_142 (i_aload_n rfl (i_gfs rfl (i_iload rfl (i_aload_n rfl (i_gfs rfl (i_iload_n rfl (t_cv2 (Rn_mono mt _) 156 rfl (Nat.le_of_ble_eq_true rfl) ?_))))))))
            | (show Rch _ _ _ _ _ 156 _ _ _; refine Rch.blk' (Rn_mono mt _) bl_X3_two_156 (i_iast rfl rfl (by omega) (by simp only [aln]; omega) (by simp only [aln]; omega) (i_aload_n rfl (i_gfs rfl (i_iload rfl (i_aload_n rfl (i_gfs rfl (i_iload_n rfl (t_cv2 (Rn_mono mt _) 171 rfl (Nat.le_of_ble_eq_true rfl) ?_)))))))))
            | (show Rch _ _ _ _ _ 171 _ _ _; refine Rch.blk' (Rn_mono mt _) bl_X3_two_171 (i_iast rfl rfl (by omega) (by simp only [aln]; omega) (by simp only [aln]; omega) (i_iinc4 trivial k_1 (t_goto 68 rfl ?_))))
            | (show Rch _ _ _ _ _ 178 _ _ _; refine Rch.blk' (Rn_mono mt _) bl_X3_two_178 (i_aload_n rfl (t_cv1 (Rn_mono mt _) 182 rfl (Nat.le_of_ble_eq_true rfl) ?_)))
            | (show Rch _ _ _ _ _ 182 _ _ _; refine Rch.blk' (Rn_mono mt _) bl_X3_two_182 (t_iret ?_)))
        · obtain rfl : i = n := by omega
          have va := @vHas_R G hO a a (k / 2) b (k % 2) i i0
          have vb := @vHas_R G hO b a (k / 2) b (k % 2) i i0
          have ea : gai (DN G (MU a (k / 2) b (k % 2)) i) (WO (DN G (MU a (k / 2) b (k % 2)) i) (sd (DN G (MU a (k / 2) b (k % 2)) i) a)) a = tw G a b i a k := by
            rw [hsi]; rfl
          have eb : gai (DN G (MU a (k / 2) b (k % 2)) i) (WO (DN G (MU a (k / 2) b (k % 2)) i) (sd (DN G (MU a (k / 2) b (k % 2)) i) b)) b = tw G a b i b k := by
            rw [hsi]; rfl
          have ra : inR (tw G a b i a k) := by unfold tw; omega
          have rb : inR (tw G a b i b k) := by unfold tw; omega
          refine Rch.blk' (Rn_mono mt _) bl_X3_two_119 (i_iload rfl (i_iload_n rfl (t_ic_ge 142 125 rfl rfl (by first | exact hI_R | exact band_R | exact bor_R | exact bshr_R | exact lcm_R | omega) (by first | exact hI_R | exact band_R | exact bor_R | exact bshr_R | exact lcm_R | omega) (fun hc => ?_) (fun hc => ?_)))) <;> (first | (exfalso; omega) | skip)
          refine Rch.blk' (Rn_mono mt _) bl_X3_two_142 (i_aload_n rfl (i_gfs rfl (i_iload rfl (i_aload_n rfl (i_gfs rfl (i_iload_n rfl (t_cv2 (Rn_mono mt _) 156 rfl (Nat.le_of_ble_eq_true rfl) ?_)))))))
          refine c_X0_gainOf hR2 hOi a0 (by omega) ?_
          rw [ea]
          have hR3 : RC (mset h2 10 0 k.toNat (I (tw G a b i a k))) 2 (DN G (MU a (k / 2) b (k % 2)) i) := hR2.eqs (fun t j ht => hI_nt (by omega))
          refine Rch.blk' (Rn_mono mt _) bl_X3_two_156 (i_iast rfl rfl (by omega) (by simp only [aln]; omega) (by simp only [aln]; omega) (i_aload_n rfl (i_gfs rfl (i_iload rfl (i_aload_n rfl (i_gfs rfl (i_iload_n rfl (t_cv2 (Rn_mono mt _) 171 rfl (Nat.le_of_ble_eq_true rfl) ?_))))))))
          refine c_X0_gainOf hR3 hOi b0 (by omega) ?_
          rw [eb]
          have kk := ih (mset (mset h2 10 0 k.toNat (I (tw G a b i a k))) 11 0 k.toNat (I (tw G a b i b k))) (some (ai (I (BT (MU a (k / 2) b (k % 2)))))) (some (ai (I i))) (fun j j0 j1 => by
            rw [hI_nt (by omega)]
            by_cases e : j = k
            · subst e; exact hI_eq ra
            · rw [hI_nk (by omega), hA2]; exact hA j j0 (by omega)) (fun j j0 j1 => by
            by_cases e : j = k
            · subst e; exact hI_eq rb
            · rw [hI_nk (by omega), hI_nt (by omega), hB2]; exact hB j j0 (by omega)) (((hJ.tr hJ2).ms (by omega)).ms (by omega))
          clear ih jh
          repeat' (first
            | exact kk
            | (show Rn _ _ 1 _ _ _; refine c_X0_has (by assumption) (by assumption) (by first | omega | exact hI_R) (fun _ _ => ?_) (fun _ => ?_))
            | (show Rn _ _ 2 _ _ _; refine c_X0_isThere (by assumption) (by assumption) (by first | omega | exact hI_R) (fun _ _ _ _ => ?_) (fun _ => ?_))
            | (show Rn _ _ 39 _ _ _; refine c_X0_gainOf (by assumption) (by assumption) (by omega) (by omega) ?_)
            | (show Rch _ _ _ _ _ 0 _ _ _; refine Rch.blk' (Rn_mono mt _) bl_X3_two_0 (i_aload_n rfl (i_gfs rfl (i_iload_n rfl (t_cv2 (Rn_mono mt _) 8 rfl (Nat.le_of_ble_eq_true rfl) ?_)))))
            | (show Rch _ _ _ _ _ 8 _ _ _; refine Rch.blk' (Rn_mono mt _) bl_X3_two_8 (t_if_eq 38 11 rfl rfl (by first | exact hI_R | exact band_R | exact bor_R | exact bshr_R | exact lcm_R | omega) (fun hc => ?_) (fun hc => ?_)) <;> (first | (exfalso; omega) | skip))
            | (show Rch _ _ _ _ _ 11 _ _ _; refine Rch.blk' (Rn_mono mt _) bl_X3_two_11 (i_aload_n rfl (i_gfs rfl (i_iload_n rfl (t_cv2 (Rn_mono mt _) 19 rfl (Nat.le_of_ble_eq_true rfl) ?_)))))
            | (show Rch _ _ _ _ _ 19 _ _ _; refine Rch.blk' (Rn_mono mt _) bl_X3_two_19 (t_if_eq 38 22 rfl rfl (by first | exact hI_R | exact band_R | exact bor_R | exact bshr_R | exact lcm_R | omega) (fun hc => ?_) (fun hc => ?_)) <;> (first | (exfalso; omega) | skip))
            | (show Rch _ _ _ _ _ 22 _ _ _; refine Rch.blk' (Rn_mono mt _) bl_X3_two_22 (i_iload_n rfl (i_iload_n rfl (t_ic_eq 38 27 rfl rfl (by first | exact hI_R | exact band_R | exact bor_R | exact bshr_R | exact lcm_R | omega) (by first | exact hI_R | exact band_R | exact bor_R | exact bshr_R | exact lcm_R | omega) (fun hc => ?_) (fun hc => ?_)))) <;> (first | (exfalso; omega) | skip))
            | (show Rch _ _ _ _ _ 27 _ _ _; refine Rch.blk' (Rn_mono mt _) bl_X3_two_27 (i_iload_n rfl (i_iconst k_1 (t_ic_lt 38 32 rfl rfl (by first | exact hI_R | exact band_R | exact bor_R | exact bshr_R | exact lcm_R | omega) (by first | exact hI_R | exact band_R | exact bor_R | exact bshr_R | exact lcm_R | omega) (fun hc => ?_) (fun hc => ?_)))) <;> (first | (exfalso; omega) | skip))
            | (show Rch _ _ _ _ _ 32 _ _ _; refine Rch.blk' (Rn_mono mt _) bl_X3_two_32 (i_iload_n rfl (i_bipush k_30 (t_ic_le 40 38 rfl rfl (by first | exact hI_R | exact band_R | exact bor_R | exact bshr_R | exact lcm_R | omega) (by first | exact hI_R | exact band_R | exact bor_R | exact bshr_R | exact lcm_R | omega) (fun hc => ?_) (fun hc => ?_)))) <;> (first | (exfalso; omega) | skip))
            | (show Rch _ _ _ _ _ 38 _ _ _; refine Rch.blk' (Rn_mono mt _) bl_X3_two_38 (i_iconst k_m1 (t_iret ?_)))
            | (show Rch _ _ _ _ _ 40 _ _ _; refine Rch.blk' (Rn_mono mt _) bl_X3_two_40 (i_aload_n rfl (i_gfs rfl (i_iload_n rfl (t_cv2 (Rn_mono mt _) 48 rfl (Nat.le_of_ble_eq_true rfl) ?_)))))
            | (show Rch _ _ _ _ _ 48 _ _ _; refine Rch.blk' (Rn_mono mt _) bl_X3_two_48 (t_if_eq 62 51 rfl rfl (by first | exact hI_R | exact band_R | exact bor_R | exact bshr_R | exact lcm_R | omega) (fun hc => ?_) (fun hc => ?_)) <;> (first | (exfalso; omega) | skip))
            | (show Rch _ _ _ _ _ 51 _ _ _; refine Rch.blk' (Rn_mono mt _) bl_X3_two_51 (i_aload_n rfl (i_gfs rfl (i_iload_n rfl (t_cv2 (Rn_mono mt _) 59 rfl (Nat.le_of_ble_eq_true rfl) ?_)))))
            | (show Rch _ _ _ _ _ 59 _ _ _; refine Rch.blk' (Rn_mono mt _) bl_X3_two_59 (t_if_ne 65 62 rfl rfl (by first | exact hI_R | exact band_R | exact bor_R | exact bshr_R | exact lcm_R | omega) (fun hc => ?_) (fun hc => ?_)) <;> (first | (exfalso; omega) | skip))
            | (show Rch _ _ _ _ _ 62 _ _ _; refine Rch.blk' (Rn_mono mt _) bl_X3_two_62 (i_bipush k_m3 (t_iret ?_)))
            | (show Rch _ _ _ _ _ 65 _ _ _; refine Rch.blk' (Rn_mono mt _) bl_X3_two_65 (i_iconst k_0 (i_istore4 trivial (t_none ?_))))
            | (show Rch _ _ _ _ _ 74 _ _ _; refine Rch.blk' (Rn_mono mt _) bl_X3_two_74 (i_iload rfl (i_iconst k_2 (i_iand (t_if_ne 87 81 rfl rfl (by first | exact hI_R | exact band_R | exact bor_R | exact bshr_R | exact lcm_R | omega) (fun hc => ?_) (fun hc => ?_))))) <;> (first | (exfalso; omega) | skip))
            | (show Rch _ _ _ _ _ 81 _ _ _; refine Rch.blk' (Rn_mono mt _) bl_X3_two_81 (i_iconst k_1 (i_iload_n rfl (i_ishl (t_goto 88 rfl ?_)))))
            | (show Rch _ _ _ _ _ 87 _ _ _; refine Rch.blk' (Rn_mono mt _) bl_X3_two_87 (i_iconst k_0 (t_none ?_)))
            | (show Rch _ _ _ _ _ 88 _ _ _; refine Rch.blk' (Rn_mono mt _) bl_X3_two_88 (i_iload rfl (i_iconst k_1 (i_iand (t_if_ne 101 95 rfl rfl (by first | exact hI_R | exact band_R | exact bor_R | exact bshr_R | exact lcm_R | omega) (fun hc => ?_) (fun hc => ?_))))) <;> (first | (exfalso; omega) | skip))
            | (show Rch _ _ _ _ _ 95 _ _ _; refine Rch.blk' (Rn_mono mt _) bl_X3_two_95 (i_iconst k_1 (i_iload_n rfl (i_ishl (t_goto 102 rfl ?_)))))
            | (show Rch _ _ _ _ _ 101 _ _ _; refine Rch.blk' (Rn_mono mt _) bl_X3_two_101 (i_iconst k_0 (t_none ?_)))
            | (show Rch _ _ _ _ _ 102 _ _ _; refine Rch.blk' (Rn_mono mt _) bl_X3_two_102 (i_ior (i_istore5 trivial (i_aload_n rfl (i_gfs rfl (i_aload_n rfl (i_gfs rfl (t_cv2 (Rn_mono mt _) 116 rfl (Nat.le_of_ble_eq_true rfl) ?_))))))))
            | (show Rch _ _ _ _ _ 116 _ _ _; refine Rch.blk' (Rn_mono mt _) bl_X3_two_116 (i_iconst k_0 (i_istore6 trivial (t_none ?_))))
            | (show Rch _ _ _ _ _ 119 _ _ _; refine Rch.blk' (Rn_mono mt _) bl_X3_two_119 (i_iload rfl (i_iload_n rfl (t_ic_ge 142 125 rfl rfl (by first | exact hI_R | exact band_R | exact bor_R | exact bshr_R | exact lcm_R | omega) (by first | exact hI_R | exact band_R | exact bor_R | exact bshr_R | exact lcm_R | omega) (fun hc => ?_) (fun hc => ?_)))) <;> (first | (exfalso; omega) | skip))
            | (show Rch _ _ _ _ _ 125 _ _ _; refine Rch.blk' (Rn_mono mt _) bl_X3_two_125 (i_aload_n rfl (i_gfs rfl (i_iload rfl (i_iconst k_0 (t_cv3 (Rn_mono mt _) 135 rfl (Nat.le_of_ble_eq_true rfl) ?_))))))
            | (show Rch _ _ _ _ _ 135 _ _ _; refine Rch.blk' (Rn_mono mt _) bl_X3_two_135 (i_pop rfl (i_iinc6 trivial k_1 (t_goto 119 rfl ?_))))
            | (show Rch _ _ _ _ _ 142 _ _ _; refine Rch.blk' (Rn_mono mt _) bl_X3_two_142 (i_aload_n rfl (i_gfs rfl (i_iload rfl (i_aload_n rfl (i_gfs rfl (i_iload_n rfl (t_cv2 (Rn_mono mt _) 156 rfl (Nat.le_of_ble_eq_true rfl) ?_))))))))
            | (show Rch _ _ _ _ _ 156 _ _ _; refine Rch.blk' (Rn_mono mt _) bl_X3_two_156 (i_iast rfl rfl (by omega) (by simp only [aln]; omega) (by simp only [aln]; omega) (i_aload_n rfl (i_gfs rfl (i_iload rfl (i_aload_n rfl (i_gfs rfl (i_iload_n rfl (t_cv2 (Rn_mono mt _) 171 rfl (Nat.le_of_ble_eq_true rfl) ?_)))))))))
            | (show Rch _ _ _ _ _ 171 _ _ _; refine Rch.blk' (Rn_mono mt _) bl_X3_two_171 (i_iast rfl rfl (by omega) (by simp only [aln]; omega) (by simp only [aln]; omega) (i_iinc4 trivial k_1 (t_goto 68 rfl ?_))))
            | (show Rch _ _ _ _ _ 178 _ _ _; refine Rch.blk' (Rn_mono mt _) bl_X3_two_178 (i_aload_n rfl (t_cv1 (Rn_mono mt _) 182 rfl (Nat.le_of_ble_eq_true rfl) ?_)))
            | (show Rch _ _ _ _ _ 182 _ _ _; refine Rch.blk' (Rn_mono mt _) bl_X3_two_182 (t_iret ?_)))
      have h102 : ∀ v1 v2, v1 = BT (fun i => k / 2 = 0 ∧ i = a) → v2 = BT (fun i => k % 2 = 0 ∧ i = b) → Rch bX3_two (Rn mt (d + 19)) 0 (fun _ _ _ _ => False) Q 102 [some (ar 2 0), some (ai (I a)), some (ai (I b)), some (ai (I n)), some (ai (I k)), u, v] [ai (I v2), ai (I v1)] h' := by
        intro v1 v2 e1 e2
        have em : bor v1 v2 = BT (MU a (k / 2) b (k % 2)) := by rw [e1, e2, b_or]; rfl
        refine Rch.blk' (Rn_mono mt _) bl_X3_two_102 (i_ior (i_istore5 trivial (i_aload_n rfl (i_gfs rfl (i_aload_n rfl (i_gfs rfl (t_cv2 (Rn_mono mt _) 116 rfl (Nat.le_of_ble_eq_true rfl) ?_)))))))
        refine c_X0_becomes hR hO (by decide) (fun h2 hG2 hF2 => ?_)
        have kk := inner 0 (by omega) (by omega) h2 hG2 (hF2.jx (by omega)) (fun j => hF2 10 0 j (by omega)) (fun j => hF2 11 0 j (by omega))
        rw [← em] at kk
        clear inner ih
        repeat' (first
          | exact kk
          | (show Rn _ _ 1 _ _ _; refine c_X0_has (by assumption) (by assumption) (by first | omega | exact hI_R) (fun _ _ => ?_) (fun _ => ?_))
          | (show Rn _ _ 2 _ _ _; refine c_X0_isThere (by assumption) (by assumption) (by first | omega | exact hI_R) (fun _ _ _ _ => ?_) (fun _ => ?_))
          | (show Rn _ _ 39 _ _ _; refine c_X0_gainOf (by assumption) (by assumption) (by omega) (by omega) ?_)
          | (show Rch _ _ _ _ _ 0 _ _ _; refine Rch.blk' (Rn_mono mt _) bl_X3_two_0 (i_aload_n rfl (i_gfs rfl (i_iload_n rfl (t_cv2 (Rn_mono mt _) 8 rfl (Nat.le_of_ble_eq_true rfl) ?_)))))
          | (show Rch _ _ _ _ _ 8 _ _ _; refine Rch.blk' (Rn_mono mt _) bl_X3_two_8 (t_if_eq 38 11 rfl rfl (by first | exact hI_R | exact band_R | exact bor_R | exact bshr_R | exact lcm_R | omega) (fun hc => ?_) (fun hc => ?_)) <;> (first | (exfalso; omega) | skip))
          | (show Rch _ _ _ _ _ 11 _ _ _; refine Rch.blk' (Rn_mono mt _) bl_X3_two_11 (i_aload_n rfl (i_gfs rfl (i_iload_n rfl (t_cv2 (Rn_mono mt _) 19 rfl (Nat.le_of_ble_eq_true rfl) ?_)))))
          | (show Rch _ _ _ _ _ 19 _ _ _; refine Rch.blk' (Rn_mono mt _) bl_X3_two_19 (t_if_eq 38 22 rfl rfl (by first | exact hI_R | exact band_R | exact bor_R | exact bshr_R | exact lcm_R | omega) (fun hc => ?_) (fun hc => ?_)) <;> (first | (exfalso; omega) | skip))
          | (show Rch _ _ _ _ _ 22 _ _ _; refine Rch.blk' (Rn_mono mt _) bl_X3_two_22 (i_iload_n rfl (i_iload_n rfl (t_ic_eq 38 27 rfl rfl (by first | exact hI_R | exact band_R | exact bor_R | exact bshr_R | exact lcm_R | omega) (by first | exact hI_R | exact band_R | exact bor_R | exact bshr_R | exact lcm_R | omega) (fun hc => ?_) (fun hc => ?_)))) <;> (first | (exfalso; omega) | skip))
          | (show Rch _ _ _ _ _ 27 _ _ _; refine Rch.blk' (Rn_mono mt _) bl_X3_two_27 (i_iload_n rfl (i_iconst k_1 (t_ic_lt 38 32 rfl rfl (by first | exact hI_R | exact band_R | exact bor_R | exact bshr_R | exact lcm_R | omega) (by first | exact hI_R | exact band_R | exact bor_R | exact bshr_R | exact lcm_R | omega) (fun hc => ?_) (fun hc => ?_)))) <;> (first | (exfalso; omega) | skip))
          | (show Rch _ _ _ _ _ 32 _ _ _; refine Rch.blk' (Rn_mono mt _) bl_X3_two_32 (i_iload_n rfl (i_bipush k_30 (t_ic_le 40 38 rfl rfl (by first | exact hI_R | exact band_R | exact bor_R | exact bshr_R | exact lcm_R | omega) (by first | exact hI_R | exact band_R | exact bor_R | exact bshr_R | exact lcm_R | omega) (fun hc => ?_) (fun hc => ?_)))) <;> (first | (exfalso; omega) | skip))
          | (show Rch _ _ _ _ _ 38 _ _ _; refine Rch.blk' (Rn_mono mt _) bl_X3_two_38 (i_iconst k_m1 (t_iret ?_)))
          | (show Rch _ _ _ _ _ 40 _ _ _; refine Rch.blk' (Rn_mono mt _) bl_X3_two_40 (i_aload_n rfl (i_gfs rfl (i_iload_n rfl (t_cv2 (Rn_mono mt _) 48 rfl (Nat.le_of_ble_eq_true rfl) ?_)))))
          | (show Rch _ _ _ _ _ 48 _ _ _; refine Rch.blk' (Rn_mono mt _) bl_X3_two_48 (t_if_eq 62 51 rfl rfl (by first | exact hI_R | exact band_R | exact bor_R | exact bshr_R | exact lcm_R | omega) (fun hc => ?_) (fun hc => ?_)) <;> (first | (exfalso; omega) | skip))
          | (show Rch _ _ _ _ _ 51 _ _ _; refine Rch.blk' (Rn_mono mt _) bl_X3_two_51 (i_aload_n rfl (i_gfs rfl (i_iload_n rfl (t_cv2 (Rn_mono mt _) 59 rfl (Nat.le_of_ble_eq_true rfl) ?_)))))
          | (show Rch _ _ _ _ _ 59 _ _ _; refine Rch.blk' (Rn_mono mt _) bl_X3_two_59 (t_if_ne 65 62 rfl rfl (by first | exact hI_R | exact band_R | exact bor_R | exact bshr_R | exact lcm_R | omega) (fun hc => ?_) (fun hc => ?_)) <;> (first | (exfalso; omega) | skip))
          | (show Rch _ _ _ _ _ 62 _ _ _; refine Rch.blk' (Rn_mono mt _) bl_X3_two_62 (i_bipush k_m3 (t_iret ?_)))
          | (show Rch _ _ _ _ _ 65 _ _ _; refine Rch.blk' (Rn_mono mt _) bl_X3_two_65 (i_iconst k_0 (i_istore4 trivial (t_none ?_))))
          | (show Rch _ _ _ _ _ 68 _ _ _; refine Rch.blk' (Rn_mono mt _) bl_X3_two_68 (i_iload rfl (i_iconst k_4 (t_ic_ge 178 74 rfl rfl (by first | exact hI_R | exact band_R | exact bor_R | exact bshr_R | exact lcm_R | omega) (by first | exact hI_R | exact band_R | exact bor_R | exact bshr_R | exact lcm_R | omega) (fun hc => ?_) (fun hc => ?_)))) <;> (first | (exfalso; omega) | skip))
          | (show Rch _ _ _ _ _ 74 _ _ _; refine Rch.blk' (Rn_mono mt _) bl_X3_two_74 (i_iload rfl (i_iconst k_2 (i_iand (t_if_ne 87 81 rfl rfl (by first | exact hI_R | exact band_R | exact bor_R | exact bshr_R | exact lcm_R | omega) (fun hc => ?_) (fun hc => ?_))))) <;> (first | (exfalso; omega) | skip))
          | (show Rch _ _ _ _ _ 81 _ _ _; refine Rch.blk' (Rn_mono mt _) bl_X3_two_81 (i_iconst k_1 (i_iload_n rfl (i_ishl (t_goto 88 rfl ?_)))))
          | (show Rch _ _ _ _ _ 87 _ _ _; refine Rch.blk' (Rn_mono mt _) bl_X3_two_87 (i_iconst k_0 (t_none ?_)))
          | (show Rch _ _ _ _ _ 88 _ _ _; refine Rch.blk' (Rn_mono mt _) bl_X3_two_88 (i_iload rfl (i_iconst k_1 (i_iand (t_if_ne 101 95 rfl rfl (by first | exact hI_R | exact band_R | exact bor_R | exact bshr_R | exact lcm_R | omega) (fun hc => ?_) (fun hc => ?_))))) <;> (first | (exfalso; omega) | skip))
          | (show Rch _ _ _ _ _ 95 _ _ _; refine Rch.blk' (Rn_mono mt _) bl_X3_two_95 (i_iconst k_1 (i_iload_n rfl (i_ishl (t_goto 102 rfl ?_)))))
          | (show Rch _ _ _ _ _ 101 _ _ _; refine Rch.blk' (Rn_mono mt _) bl_X3_two_101 (i_iconst k_0 (t_none ?_)))
          | (show Rch _ _ _ _ _ 102 _ _ _; refine Rch.blk' (Rn_mono mt _) bl_X3_two_102 (i_ior (i_istore5 trivial (i_aload_n rfl (i_gfs rfl (i_aload_n rfl (i_gfs rfl (t_cv2 (Rn_mono mt _) 116 rfl (Nat.le_of_ble_eq_true rfl) ?_))))))))
          | (show Rch _ _ _ _ _ 116 _ _ _; refine Rch.blk' (Rn_mono mt _) bl_X3_two_116 (i_iconst k_0 (i_istore6 trivial (t_none ?_))))
          | (show Rch _ _ _ _ _ 125 _ _ _; refine Rch.blk' (Rn_mono mt _) bl_X3_two_125 (i_aload_n rfl (i_gfs rfl (i_iload rfl (i_iconst k_0 (t_cv3 (Rn_mono mt _) 135 rfl (Nat.le_of_ble_eq_true rfl) ?_))))))
          | (show Rch _ _ _ _ _ 135 _ _ _; refine Rch.blk' (Rn_mono mt _) bl_X3_two_135 (i_pop rfl (i_iinc6 trivial k_1 (t_goto 119 rfl ?_))))
          | (show Rch _ _ _ _ _ 142 _ _ _; refine Rch.blk' (Rn_mono mt _) bl_X3_two_142 (i_aload_n rfl (i_gfs rfl (i_iload rfl (i_aload_n rfl (i_gfs rfl (i_iload_n rfl (t_cv2 (Rn_mono mt _) 156 rfl (Nat.le_of_ble_eq_true rfl) ?_))))))))
          | (show Rch _ _ _ _ _ 156 _ _ _; refine Rch.blk' (Rn_mono mt _) bl_X3_two_156 (i_iast rfl rfl (by omega) (by simp only [aln]; omega) (by simp only [aln]; omega) (i_aload_n rfl (i_gfs rfl (i_iload rfl (i_aload_n rfl (i_gfs rfl (i_iload_n rfl (t_cv2 (Rn_mono mt _) 171 rfl (Nat.le_of_ble_eq_true rfl) ?_)))))))))
          | (show Rch _ _ _ _ _ 171 _ _ _; refine Rch.blk' (Rn_mono mt _) bl_X3_two_171 (i_iast rfl rfl (by omega) (by simp only [aln]; omega) (by simp only [aln]; omega) (i_iinc4 trivial k_1 (t_goto 68 rfl ?_))))
          | (show Rch _ _ _ _ _ 178 _ _ _; refine Rch.blk' (Rn_mono mt _) bl_X3_two_178 (i_aload_n rfl (t_cv1 (Rn_mono mt _) 182 rfl (Nat.le_of_ble_eq_true rfl) ?_)))
          | (show Rch _ _ _ _ _ 182 _ _ _; refine Rch.blk' (Rn_mono mt _) bl_X3_two_182 (t_iret ?_)))
      clear inner ih hq k1 k2
      have e_b2 := tb2 hk0 hk1
      have e_b1 := tb1 hk0 hk1
      have m1 : k < 2 → bshl 1 a = BT (fun i => k / 2 = 0 ∧ i = a) := fun c => by
        rw [b_one a0 (by omega)]
        exact BT_ext (fun i _ _ => ⟨fun z => ⟨by omega, z⟩, fun z => z.2⟩)
      have m2 : k % 2 = 0 → bshl 1 b = BT (fun i => k % 2 = 0 ∧ i = b) := fun c => by
        rw [b_one b0 (by omega)]
        exact BT_ext (fun i _ _ => ⟨fun z => ⟨by omega, z⟩, fun z => z.2⟩)
      have m3 : ¬ k < 2 → 0 = BT (fun i => k / 2 = 0 ∧ i = a) := fun c => (BT_z.mpr (fun i _ _ z => by have := z.1; omega)).symm
      have m4' : ¬ k % 2 = 0 → 0 = BT (fun i => k % 2 = 0 ∧ i = b) := fun c => (BT_z.mpr (fun i _ _ z => by have := z.1; omega)).symm
      refine Rch.blk' (Rn_mono mt _) bl_X3_two_68 (i_iload rfl (i_iconst k_4 (t_ic_ge 178 74 rfl rfl (by first | exact hI_R | exact band_R | exact bor_R | exact bshr_R | exact lcm_R | omega) (by first | exact hI_R | exact band_R | exact bor_R | exact bshr_R | exact lcm_R | omega) (fun hc => ?_) (fun hc => ?_)))) <;> (first | (exfalso; omega) | skip)
      repeat' (first
        | exact h102 _ _ (m1 (by omega)) (m2 (by omega))
        | exact h102 _ _ (m1 (by omega)) (m4' (by omega))
        | exact h102 _ _ (m3 (by omega)) (m2 (by omega))
        | exact h102 _ _ (m3 (by omega)) (m4' (by omega))
        | (show Rn _ _ 1 _ _ _; refine c_X0_has (by assumption) (by assumption) (by first | omega | exact hI_R) (fun _ _ => ?_) (fun _ => ?_))
        | (show Rn _ _ 2 _ _ _; refine c_X0_isThere (by assumption) (by assumption) (by first | omega | exact hI_R) (fun _ _ _ _ => ?_) (fun _ => ?_))
        | (show Rn _ _ 39 _ _ _; refine c_X0_gainOf (by assumption) (by assumption) (by omega) (by omega) ?_)
        | (show Rch _ _ _ _ _ 0 _ _ _; refine Rch.blk' (Rn_mono mt _) bl_X3_two_0 (i_aload_n rfl (i_gfs rfl (i_iload_n rfl (t_cv2 (Rn_mono mt _) 8 rfl (Nat.le_of_ble_eq_true rfl) ?_)))) <;> (try (simp (disch := omega) only [e_b1])))
        | (show Rch _ _ _ _ _ 8 _ _ _; refine Rch.blk' (Rn_mono mt _) bl_X3_two_8 (t_if_eq 38 11 rfl rfl (by first | exact hI_R | exact band_R | exact bor_R | exact bshr_R | exact lcm_R | omega | (simp (disch := omega) only [e_b1]; omega)) (fun hc => ?_) (fun hc => ?_)) <;> (first | (exfalso; omega) | skip))
        | (show Rch _ _ _ _ _ 11 _ _ _; refine Rch.blk' (Rn_mono mt _) bl_X3_two_11 (i_aload_n rfl (i_gfs rfl (i_iload_n rfl (t_cv2 (Rn_mono mt _) 19 rfl (Nat.le_of_ble_eq_true rfl) ?_)))) <;> (try (simp (disch := omega) only [e_b1])))
        | (show Rch _ _ _ _ _ 19 _ _ _; refine Rch.blk' (Rn_mono mt _) bl_X3_two_19 (t_if_eq 38 22 rfl rfl (by first | exact hI_R | exact band_R | exact bor_R | exact bshr_R | exact lcm_R | omega | (simp (disch := omega) only [e_b1]; omega)) (fun hc => ?_) (fun hc => ?_)) <;> (first | (exfalso; omega) | skip))
        | (show Rch _ _ _ _ _ 22 _ _ _; refine Rch.blk' (Rn_mono mt _) bl_X3_two_22 (i_iload_n rfl (i_iload_n rfl (t_ic_eq 38 27 rfl rfl (by first | exact hI_R | exact band_R | exact bor_R | exact bshr_R | exact lcm_R | omega | (simp (disch := omega) only [e_b1]; omega)) (by first | exact hI_R | exact band_R | exact bor_R | exact bshr_R | exact lcm_R | omega | (simp (disch := omega) only [e_b1]; omega)) (fun hc => ?_) (fun hc => ?_)))) <;> (first | (exfalso; omega) | skip))
        | (show Rch _ _ _ _ _ 27 _ _ _; refine Rch.blk' (Rn_mono mt _) bl_X3_two_27 (i_iload_n rfl (i_iconst k_1 (t_ic_lt 38 32 rfl rfl (by first | exact hI_R | exact band_R | exact bor_R | exact bshr_R | exact lcm_R | omega | (simp (disch := omega) only [e_b1]; omega)) (by first | exact hI_R | exact band_R | exact bor_R | exact bshr_R | exact lcm_R | omega | (simp (disch := omega) only [e_b1]; omega)) (fun hc => ?_) (fun hc => ?_)))) <;> (first | (exfalso; omega) | skip))
        | (show Rch _ _ _ _ _ 32 _ _ _; refine Rch.blk' (Rn_mono mt _) bl_X3_two_32 (i_iload_n rfl (i_bipush k_30 (t_ic_le 40 38 rfl rfl (by first | exact hI_R | exact band_R | exact bor_R | exact bshr_R | exact lcm_R | omega | (simp (disch := omega) only [e_b1]; omega)) (by first | exact hI_R | exact band_R | exact bor_R | exact bshr_R | exact lcm_R | omega | (simp (disch := omega) only [e_b1]; omega)) (fun hc => ?_) (fun hc => ?_)))) <;> (first | (exfalso; omega) | skip))
        | (show Rch _ _ _ _ _ 38 _ _ _; refine Rch.blk' (Rn_mono mt _) bl_X3_two_38 (i_iconst k_m1 (t_iret ?_)))
        | (show Rch _ _ _ _ _ 40 _ _ _; refine Rch.blk' (Rn_mono mt _) bl_X3_two_40 (i_aload_n rfl (i_gfs rfl (i_iload_n rfl (t_cv2 (Rn_mono mt _) 48 rfl (Nat.le_of_ble_eq_true rfl) ?_)))) <;> (try (simp (disch := omega) only [e_b1])))
        | (show Rch _ _ _ _ _ 48 _ _ _; refine Rch.blk' (Rn_mono mt _) bl_X3_two_48 (t_if_eq 62 51 rfl rfl (by first | exact hI_R | exact band_R | exact bor_R | exact bshr_R | exact lcm_R | omega | (simp (disch := omega) only [e_b1]; omega)) (fun hc => ?_) (fun hc => ?_)) <;> (first | (exfalso; omega) | skip))
        | (show Rch _ _ _ _ _ 51 _ _ _; refine Rch.blk' (Rn_mono mt _) bl_X3_two_51 (i_aload_n rfl (i_gfs rfl (i_iload_n rfl (t_cv2 (Rn_mono mt _) 59 rfl (Nat.le_of_ble_eq_true rfl) ?_)))) <;> (try (simp (disch := omega) only [e_b1])))
        | (show Rch _ _ _ _ _ 59 _ _ _; refine Rch.blk' (Rn_mono mt _) bl_X3_two_59 (t_if_ne 65 62 rfl rfl (by first | exact hI_R | exact band_R | exact bor_R | exact bshr_R | exact lcm_R | omega | (simp (disch := omega) only [e_b1]; omega)) (fun hc => ?_) (fun hc => ?_)) <;> (first | (exfalso; omega) | skip))
        | (show Rch _ _ _ _ _ 62 _ _ _; refine Rch.blk' (Rn_mono mt _) bl_X3_two_62 (i_bipush k_m3 (t_iret ?_)))
        | (show Rch _ _ _ _ _ 65 _ _ _; refine Rch.blk' (Rn_mono mt _) bl_X3_two_65 (i_iconst k_0 (i_istore4 trivial (t_none ?_))))
        | (show Rch _ _ _ _ _ 74 _ _ _; refine Rch.blk' (Rn_mono mt _) bl_X3_two_74 (i_iload rfl (i_iconst k_2 (i_iand (t_if_ne 87 81 rfl rfl (by first | exact hI_R | exact band_R | exact bor_R | exact bshr_R | exact lcm_R | omega | (simp (disch := omega) only [e_b1]; omega)) (fun hc => ?_) (fun hc => ?_))))) <;> (first | (exfalso; omega) | skip))
        | (show Rch _ _ _ _ _ 81 _ _ _; refine Rch.blk' (Rn_mono mt _) bl_X3_two_81 (i_iconst k_1 (i_iload_n rfl (i_ishl (t_goto 88 rfl ?_)))))
        | (show Rch _ _ _ _ _ 87 _ _ _; refine Rch.blk' (Rn_mono mt _) bl_X3_two_87 (i_iconst k_0 (t_none ?_)))
        | (show Rch _ _ _ _ _ 88 _ _ _; refine Rch.blk' (Rn_mono mt _) bl_X3_two_88 (i_iload rfl (i_iconst k_1 (i_iand (t_if_ne 101 95 rfl rfl (by first | exact hI_R | exact band_R | exact bor_R | exact bshr_R | exact lcm_R | omega | (simp (disch := omega) only [e_b1]; omega)) (fun hc => ?_) (fun hc => ?_))))) <;> (first | (exfalso; omega) | skip))
        | (show Rch _ _ _ _ _ 95 _ _ _; refine Rch.blk' (Rn_mono mt _) bl_X3_two_95 (i_iconst k_1 (i_iload_n rfl (i_ishl (t_goto 102 rfl ?_)))))
        | (show Rch _ _ _ _ _ 101 _ _ _; refine Rch.blk' (Rn_mono mt _) bl_X3_two_101 (i_iconst k_0 (t_none ?_)))
        | (show Rch _ _ _ _ _ 116 _ _ _; refine Rch.blk' (Rn_mono mt _) bl_X3_two_116 (i_iconst k_0 (i_istore6 trivial (t_none ?_))))
        | (show Rch _ _ _ _ _ 119 _ _ _; refine Rch.blk' (Rn_mono mt _) bl_X3_two_119 (i_iload rfl (i_iload_n rfl (t_ic_ge 142 125 rfl rfl (by first | exact hI_R | exact band_R | exact bor_R | exact bshr_R | exact lcm_R | omega | (simp (disch := omega) only [e_b1]; omega)) (by first | exact hI_R | exact band_R | exact bor_R | exact bshr_R | exact lcm_R | omega | (simp (disch := omega) only [e_b1]; omega)) (fun hc => ?_) (fun hc => ?_)))) <;> (first | (exfalso; omega) | skip))
        | (show Rch _ _ _ _ _ 125 _ _ _; refine Rch.blk' (Rn_mono mt _) bl_X3_two_125 (i_aload_n rfl (i_gfs rfl (i_iload rfl (i_iconst k_0 (t_cv3 (Rn_mono mt _) 135 rfl (Nat.le_of_ble_eq_true rfl) ?_))))) <;> (try (simp (disch := omega) only [e_b1])))
        | (show Rch _ _ _ _ _ 135 _ _ _; refine Rch.blk' (Rn_mono mt _) bl_X3_two_135 (i_pop rfl (i_iinc6 trivial k_1 (t_goto 119 rfl ?_))))
        | (show Rch _ _ _ _ _ 142 _ _ _; refine Rch.blk' (Rn_mono mt _) bl_X3_two_142 (i_aload_n rfl (i_gfs rfl (i_iload rfl (i_aload_n rfl (i_gfs rfl (i_iload_n rfl (t_cv2 (Rn_mono mt _) 156 rfl (Nat.le_of_ble_eq_true rfl) ?_))))))) <;> (try (simp (disch := omega) only [e_b1])))
        | (show Rch _ _ _ _ _ 156 _ _ _; refine Rch.blk' (Rn_mono mt _) bl_X3_two_156 (i_iast rfl rfl (by first | omega | (simp (disch := omega) only [e_b1]; omega)) (by simp only [aln]; omega) (by simp only [aln]; omega) (i_aload_n rfl (i_gfs rfl (i_iload rfl (i_aload_n rfl (i_gfs rfl (i_iload_n rfl (t_cv2 (Rn_mono mt _) 171 rfl (Nat.le_of_ble_eq_true rfl) ?_)))))))) <;> (try (simp (disch := omega) only [e_b1])))
        | (show Rch _ _ _ _ _ 171 _ _ _; refine Rch.blk' (Rn_mono mt _) bl_X3_two_171 (i_iast rfl rfl (by first | omega | (simp (disch := omega) only [e_b1]; omega)) (by simp only [aln]; omega) (by simp only [aln]; omega) (i_iinc4 trivial k_1 (t_goto 68 rfl ?_))))
        | (show Rch _ _ _ _ _ 178 _ _ _; refine Rch.blk' (Rn_mono mt _) bl_X3_two_178 (i_aload_n rfl (t_cv1 (Rn_mono mt _) 182 rfl (Nat.le_of_ble_eq_true rfl) ?_)))
        | (show Rch _ _ _ _ _ 182 _ _ _; refine Rch.blk' (Rn_mono mt _) bl_X3_two_182 (t_iret ?_)))
    · obtain rfl : k = 4 := by omega
      have kk := hq (vPair (tw G a b n a) (tw G a b n b)) h' (by unfold vTwo; rw [if_pos ⟨⟨⟨a0, a1⟩, ⟨b0, b1⟩, hab⟩, n0, n1⟩, if_pos hf]) hJ
      clear ih hq k1 k2
      refine Rch.blk' (Rn_mono mt _) bl_X3_two_68 (i_iload rfl (i_iconst k_4 (t_ic_ge 178 74 rfl rfl (by first | exact hI_R | exact band_R | exact bor_R | exact bshr_R | exact lcm_R | omega) (by first | exact hI_R | exact band_R | exact bor_R | exact bshr_R | exact lcm_R | omega) (fun hc => ?_) (fun hc => ?_)))) <;> (first | (exfalso; omega) | skip)
      repeat' (first
        | (show Rn _ _ 86 _ _ _; refine c_X3_firstPairAtRest hA hB ?_)
        | exact kk
        | (show Rn _ _ 1 _ _ _; refine c_X0_has (by assumption) (by assumption) (by first | omega | exact hI_R) (fun _ _ => ?_) (fun _ => ?_))
        | (show Rn _ _ 2 _ _ _; refine c_X0_isThere (by assumption) (by assumption) (by first | omega | exact hI_R) (fun _ _ _ _ => ?_) (fun _ => ?_))
        | (show Rn _ _ 39 _ _ _; refine c_X0_gainOf (by assumption) (by assumption) (by omega) (by omega) ?_)
        | (show Rch _ _ _ _ _ 0 _ _ _; refine Rch.blk' (Rn_mono mt _) bl_X3_two_0 (i_aload_n rfl (i_gfs rfl (i_iload_n rfl (t_cv2 (Rn_mono mt _) 8 rfl (Nat.le_of_ble_eq_true rfl) ?_)))))
        | (show Rch _ _ _ _ _ 8 _ _ _; refine Rch.blk' (Rn_mono mt _) bl_X3_two_8 (t_if_eq 38 11 rfl rfl (by first | exact hI_R | exact band_R | exact bor_R | exact bshr_R | exact lcm_R | omega) (fun hc => ?_) (fun hc => ?_)) <;> (first | (exfalso; omega) | skip))
        | (show Rch _ _ _ _ _ 11 _ _ _; refine Rch.blk' (Rn_mono mt _) bl_X3_two_11 (i_aload_n rfl (i_gfs rfl (i_iload_n rfl (t_cv2 (Rn_mono mt _) 19 rfl (Nat.le_of_ble_eq_true rfl) ?_)))))
        | (show Rch _ _ _ _ _ 19 _ _ _; refine Rch.blk' (Rn_mono mt _) bl_X3_two_19 (t_if_eq 38 22 rfl rfl (by first | exact hI_R | exact band_R | exact bor_R | exact bshr_R | exact lcm_R | omega) (fun hc => ?_) (fun hc => ?_)) <;> (first | (exfalso; omega) | skip))
        | (show Rch _ _ _ _ _ 22 _ _ _; refine Rch.blk' (Rn_mono mt _) bl_X3_two_22 (i_iload_n rfl (i_iload_n rfl (t_ic_eq 38 27 rfl rfl (by first | exact hI_R | exact band_R | exact bor_R | exact bshr_R | exact lcm_R | omega) (by first | exact hI_R | exact band_R | exact bor_R | exact bshr_R | exact lcm_R | omega) (fun hc => ?_) (fun hc => ?_)))) <;> (first | (exfalso; omega) | skip))
        | (show Rch _ _ _ _ _ 27 _ _ _; refine Rch.blk' (Rn_mono mt _) bl_X3_two_27 (i_iload_n rfl (i_iconst k_1 (t_ic_lt 38 32 rfl rfl (by first | exact hI_R | exact band_R | exact bor_R | exact bshr_R | exact lcm_R | omega) (by first | exact hI_R | exact band_R | exact bor_R | exact bshr_R | exact lcm_R | omega) (fun hc => ?_) (fun hc => ?_)))) <;> (first | (exfalso; omega) | skip))
        | (show Rch _ _ _ _ _ 32 _ _ _; refine Rch.blk' (Rn_mono mt _) bl_X3_two_32 (i_iload_n rfl (i_bipush k_30 (t_ic_le 40 38 rfl rfl (by first | exact hI_R | exact band_R | exact bor_R | exact bshr_R | exact lcm_R | omega) (by first | exact hI_R | exact band_R | exact bor_R | exact bshr_R | exact lcm_R | omega) (fun hc => ?_) (fun hc => ?_)))) <;> (first | (exfalso; omega) | skip))
        | (show Rch _ _ _ _ _ 38 _ _ _; refine Rch.blk' (Rn_mono mt _) bl_X3_two_38 (i_iconst k_m1 (t_iret ?_)))
        | (show Rch _ _ _ _ _ 40 _ _ _; refine Rch.blk' (Rn_mono mt _) bl_X3_two_40 (i_aload_n rfl (i_gfs rfl (i_iload_n rfl (t_cv2 (Rn_mono mt _) 48 rfl (Nat.le_of_ble_eq_true rfl) ?_)))))
        | (show Rch _ _ _ _ _ 48 _ _ _; refine Rch.blk' (Rn_mono mt _) bl_X3_two_48 (t_if_eq 62 51 rfl rfl (by first | exact hI_R | exact band_R | exact bor_R | exact bshr_R | exact lcm_R | omega) (fun hc => ?_) (fun hc => ?_)) <;> (first | (exfalso; omega) | skip))
        | (show Rch _ _ _ _ _ 51 _ _ _; refine Rch.blk' (Rn_mono mt _) bl_X3_two_51 (i_aload_n rfl (i_gfs rfl (i_iload_n rfl (t_cv2 (Rn_mono mt _) 59 rfl (Nat.le_of_ble_eq_true rfl) ?_)))))
        | (show Rch _ _ _ _ _ 59 _ _ _; refine Rch.blk' (Rn_mono mt _) bl_X3_two_59 (t_if_ne 65 62 rfl rfl (by first | exact hI_R | exact band_R | exact bor_R | exact bshr_R | exact lcm_R | omega) (fun hc => ?_) (fun hc => ?_)) <;> (first | (exfalso; omega) | skip))
        | (show Rch _ _ _ _ _ 62 _ _ _; refine Rch.blk' (Rn_mono mt _) bl_X3_two_62 (i_bipush k_m3 (t_iret ?_)))
        | (show Rch _ _ _ _ _ 65 _ _ _; refine Rch.blk' (Rn_mono mt _) bl_X3_two_65 (i_iconst k_0 (i_istore4 trivial (t_none ?_))))
        | (show Rch _ _ _ _ _ 74 _ _ _; refine Rch.blk' (Rn_mono mt _) bl_X3_two_74 (i_iload rfl (i_iconst k_2 (i_iand (t_if_ne 87 81 rfl rfl (by first | exact hI_R | exact band_R | exact bor_R | exact bshr_R | exact lcm_R | omega) (fun hc => ?_) (fun hc => ?_))))) <;> (first | (exfalso; omega) | skip))
        | (show Rch _ _ _ _ _ 81 _ _ _; refine Rch.blk' (Rn_mono mt _) bl_X3_two_81 (i_iconst k_1 (i_iload_n rfl (i_ishl (t_goto 88 rfl ?_)))))
        | (show Rch _ _ _ _ _ 87 _ _ _; refine Rch.blk' (Rn_mono mt _) bl_X3_two_87 (i_iconst k_0 (t_none ?_)))
        | (show Rch _ _ _ _ _ 88 _ _ _; refine Rch.blk' (Rn_mono mt _) bl_X3_two_88 (i_iload rfl (i_iconst k_1 (i_iand (t_if_ne 101 95 rfl rfl (by first | exact hI_R | exact band_R | exact bor_R | exact bshr_R | exact lcm_R | omega) (fun hc => ?_) (fun hc => ?_))))) <;> (first | (exfalso; omega) | skip))
        | (show Rch _ _ _ _ _ 95 _ _ _; refine Rch.blk' (Rn_mono mt _) bl_X3_two_95 (i_iconst k_1 (i_iload_n rfl (i_ishl (t_goto 102 rfl ?_)))))
        | (show Rch _ _ _ _ _ 101 _ _ _; refine Rch.blk' (Rn_mono mt _) bl_X3_two_101 (i_iconst k_0 (t_none ?_)))
        | (show Rch _ _ _ _ _ 102 _ _ _; refine Rch.blk' (Rn_mono mt _) bl_X3_two_102 (i_ior (i_istore5 trivial (i_aload_n rfl (i_gfs rfl (i_aload_n rfl (i_gfs rfl (t_cv2 (Rn_mono mt _) 116 rfl (Nat.le_of_ble_eq_true rfl) ?_))))))))
        | (show Rch _ _ _ _ _ 116 _ _ _; refine Rch.blk' (Rn_mono mt _) bl_X3_two_116 (i_iconst k_0 (i_istore6 trivial (t_none ?_))))
        | (show Rch _ _ _ _ _ 119 _ _ _; refine Rch.blk' (Rn_mono mt _) bl_X3_two_119 (i_iload rfl (i_iload_n rfl (t_ic_ge 142 125 rfl rfl (by first | exact hI_R | exact band_R | exact bor_R | exact bshr_R | exact lcm_R | omega) (by first | exact hI_R | exact band_R | exact bor_R | exact bshr_R | exact lcm_R | omega) (fun hc => ?_) (fun hc => ?_)))) <;> (first | (exfalso; omega) | skip))
        | (show Rch _ _ _ _ _ 125 _ _ _; refine Rch.blk' (Rn_mono mt _) bl_X3_two_125 (i_aload_n rfl (i_gfs rfl (i_iload rfl (i_iconst k_0 (t_cv3 (Rn_mono mt _) 135 rfl (Nat.le_of_ble_eq_true rfl) ?_))))))
        | (show Rch _ _ _ _ _ 135 _ _ _; refine Rch.blk' (Rn_mono mt _) bl_X3_two_135 (i_pop rfl (i_iinc6 trivial k_1 (t_goto 119 rfl ?_))))
        | (show Rch _ _ _ _ _ 142 _ _ _; refine Rch.blk' (Rn_mono mt _) bl_X3_two_142 (i_aload_n rfl (i_gfs rfl (i_iload rfl (i_aload_n rfl (i_gfs rfl (i_iload_n rfl (t_cv2 (Rn_mono mt _) 156 rfl (Nat.le_of_ble_eq_true rfl) ?_))))))))
        | (show Rch _ _ _ _ _ 156 _ _ _; refine Rch.blk' (Rn_mono mt _) bl_X3_two_156 (i_iast rfl rfl (by omega) (by simp only [aln]; omega) (by simp only [aln]; omega) (i_aload_n rfl (i_gfs rfl (i_iload rfl (i_aload_n rfl (i_gfs rfl (i_iload_n rfl (t_cv2 (Rn_mono mt _) 171 rfl (Nat.le_of_ble_eq_true rfl) ?_)))))))))
        | (show Rch _ _ _ _ _ 171 _ _ _; refine Rch.blk' (Rn_mono mt _) bl_X3_two_171 (i_iast rfl rfl (by omega) (by simp only [aln]; omega) (by simp only [aln]; omega) (i_iinc4 trivial k_1 (t_goto 68 rfl ?_))))
        | (show Rch _ _ _ _ _ 178 _ _ _; refine Rch.blk' (Rn_mono mt _) bl_X3_two_178 (i_aload_n rfl (t_cv1 (Rn_mono mt _) 182 rfl (Nat.le_of_ble_eq_true rfl) ?_)))
        | (show Rch _ _ _ _ _ 182 _ _ _; refine Rch.blk' (Rn_mono mt _) bl_X3_two_182 (t_iret ?_)))
  have ky := fun a1 a2 => key a1 a2 0 (by omega) (by omega) h none none (fun j _ _ => by omega) (fun j _ _ => by omega) JX.rf
  clear key hq
  repeat' (first
    | exact ky (by omega) (by omega)
    | ((with_reducible refine k1 _ ?_ ?_) <;> omega)
    | ((with_reducible refine k2 _ ?_ ?_ ?_) <;> omega)
    | (show Rn _ _ 1 _ _ _; refine c_X0_has (by assumption) (by assumption) (by first | omega | exact hI_R) (fun _ _ => ?_) (fun _ => ?_))
    | (show Rn _ _ 2 _ _ _; refine c_X0_isThere (by assumption) (by assumption) (by first | omega | exact hI_R) (fun _ _ _ _ => ?_) (fun _ => ?_))
    | (show Rn _ _ 39 _ _ _; refine c_X0_gainOf (by assumption) (by assumption) (by omega) (by omega) ?_)
    | (show Rch _ _ _ _ _ 0 _ _ _; refine Rch.blk' (Rn_mono mt _) bl_X3_two_0 (i_aload_n rfl (i_gfs rfl (i_iload_n rfl (t_cv2 (Rn_mono mt _) 8 rfl (Nat.le_of_ble_eq_true rfl) ?_)))))
    | (show Rch _ _ _ _ _ 8 _ _ _; refine Rch.blk' (Rn_mono mt _) bl_X3_two_8 (t_if_eq 38 11 rfl rfl (by first | exact hI_R | exact band_R | exact bor_R | exact bshr_R | exact lcm_R | omega) (fun hc => ?_) (fun hc => ?_)) <;> (first | (exfalso; omega) | skip))
    | (show Rch _ _ _ _ _ 11 _ _ _; refine Rch.blk' (Rn_mono mt _) bl_X3_two_11 (i_aload_n rfl (i_gfs rfl (i_iload_n rfl (t_cv2 (Rn_mono mt _) 19 rfl (Nat.le_of_ble_eq_true rfl) ?_)))))
    | (show Rch _ _ _ _ _ 19 _ _ _; refine Rch.blk' (Rn_mono mt _) bl_X3_two_19 (t_if_eq 38 22 rfl rfl (by first | exact hI_R | exact band_R | exact bor_R | exact bshr_R | exact lcm_R | omega) (fun hc => ?_) (fun hc => ?_)) <;> (first | (exfalso; omega) | skip))
    | (show Rch _ _ _ _ _ 22 _ _ _; refine Rch.blk' (Rn_mono mt _) bl_X3_two_22 (i_iload_n rfl (i_iload_n rfl (t_ic_eq 38 27 rfl rfl (by first | exact hI_R | exact band_R | exact bor_R | exact bshr_R | exact lcm_R | omega) (by first | exact hI_R | exact band_R | exact bor_R | exact bshr_R | exact lcm_R | omega) (fun hc => ?_) (fun hc => ?_)))) <;> (first | (exfalso; omega) | skip))
    | (show Rch _ _ _ _ _ 27 _ _ _; refine Rch.blk' (Rn_mono mt _) bl_X3_two_27 (i_iload_n rfl (i_iconst k_1 (t_ic_lt 38 32 rfl rfl (by first | exact hI_R | exact band_R | exact bor_R | exact bshr_R | exact lcm_R | omega) (by first | exact hI_R | exact band_R | exact bor_R | exact bshr_R | exact lcm_R | omega) (fun hc => ?_) (fun hc => ?_)))) <;> (first | (exfalso; omega) | skip))
    | (show Rch _ _ _ _ _ 32 _ _ _; refine Rch.blk' (Rn_mono mt _) bl_X3_two_32 (i_iload_n rfl (i_bipush k_30 (t_ic_le 40 38 rfl rfl (by first | exact hI_R | exact band_R | exact bor_R | exact bshr_R | exact lcm_R | omega) (by first | exact hI_R | exact band_R | exact bor_R | exact bshr_R | exact lcm_R | omega) (fun hc => ?_) (fun hc => ?_)))) <;> (first | (exfalso; omega) | skip))
    | (show Rch _ _ _ _ _ 38 _ _ _; refine Rch.blk' (Rn_mono mt _) bl_X3_two_38 (i_iconst k_m1 (t_iret ?_)))
    | (show Rch _ _ _ _ _ 40 _ _ _; refine Rch.blk' (Rn_mono mt _) bl_X3_two_40 (i_aload_n rfl (i_gfs rfl (i_iload_n rfl (t_cv2 (Rn_mono mt _) 48 rfl (Nat.le_of_ble_eq_true rfl) ?_)))))
    | (show Rch _ _ _ _ _ 48 _ _ _; refine Rch.blk' (Rn_mono mt _) bl_X3_two_48 (t_if_eq 62 51 rfl rfl (by first | exact hI_R | exact band_R | exact bor_R | exact bshr_R | exact lcm_R | omega) (fun hc => ?_) (fun hc => ?_)) <;> (first | (exfalso; omega) | skip))
    | (show Rch _ _ _ _ _ 51 _ _ _; refine Rch.blk' (Rn_mono mt _) bl_X3_two_51 (i_aload_n rfl (i_gfs rfl (i_iload_n rfl (t_cv2 (Rn_mono mt _) 59 rfl (Nat.le_of_ble_eq_true rfl) ?_)))))
    | (show Rch _ _ _ _ _ 59 _ _ _; refine Rch.blk' (Rn_mono mt _) bl_X3_two_59 (t_if_ne 65 62 rfl rfl (by first | exact hI_R | exact band_R | exact bor_R | exact bshr_R | exact lcm_R | omega) (fun hc => ?_) (fun hc => ?_)) <;> (first | (exfalso; omega) | skip))
    | (show Rch _ _ _ _ _ 62 _ _ _; refine Rch.blk' (Rn_mono mt _) bl_X3_two_62 (i_bipush k_m3 (t_iret ?_)))
    | (show Rch _ _ _ _ _ 65 _ _ _; refine Rch.blk' (Rn_mono mt _) bl_X3_two_65 (i_iconst k_0 (i_istore4 trivial (t_none ?_))))
    | (show Rch _ _ _ _ _ 74 _ _ _; refine Rch.blk' (Rn_mono mt _) bl_X3_two_74 (i_iload rfl (i_iconst k_2 (i_iand (t_if_ne 87 81 rfl rfl (by first | exact hI_R | exact band_R | exact bor_R | exact bshr_R | exact lcm_R | omega) (fun hc => ?_) (fun hc => ?_))))) <;> (first | (exfalso; omega) | skip))
    | (show Rch _ _ _ _ _ 81 _ _ _; refine Rch.blk' (Rn_mono mt _) bl_X3_two_81 (i_iconst k_1 (i_iload_n rfl (i_ishl (t_goto 88 rfl ?_)))))
    | (show Rch _ _ _ _ _ 87 _ _ _; refine Rch.blk' (Rn_mono mt _) bl_X3_two_87 (i_iconst k_0 (t_none ?_)))
    | (show Rch _ _ _ _ _ 88 _ _ _; refine Rch.blk' (Rn_mono mt _) bl_X3_two_88 (i_iload rfl (i_iconst k_1 (i_iand (t_if_ne 101 95 rfl rfl (by first | exact hI_R | exact band_R | exact bor_R | exact bshr_R | exact lcm_R | omega) (fun hc => ?_) (fun hc => ?_))))) <;> (first | (exfalso; omega) | skip))
    | (show Rch _ _ _ _ _ 95 _ _ _; refine Rch.blk' (Rn_mono mt _) bl_X3_two_95 (i_iconst k_1 (i_iload_n rfl (i_ishl (t_goto 102 rfl ?_)))))
    | (show Rch _ _ _ _ _ 101 _ _ _; refine Rch.blk' (Rn_mono mt _) bl_X3_two_101 (i_iconst k_0 (t_none ?_)))
    | (show Rch _ _ _ _ _ 102 _ _ _; refine Rch.blk' (Rn_mono mt _) bl_X3_two_102 (i_ior (i_istore5 trivial (i_aload_n rfl (i_gfs rfl (i_aload_n rfl (i_gfs rfl (t_cv2 (Rn_mono mt _) 116 rfl (Nat.le_of_ble_eq_true rfl) ?_))))))))
    | (show Rch _ _ _ _ _ 116 _ _ _; refine Rch.blk' (Rn_mono mt _) bl_X3_two_116 (i_iconst k_0 (i_istore6 trivial (t_none ?_))))
    | (show Rch _ _ _ _ _ 119 _ _ _; refine Rch.blk' (Rn_mono mt _) bl_X3_two_119 (i_iload rfl (i_iload_n rfl (t_ic_ge 142 125 rfl rfl (by first | exact hI_R | exact band_R | exact bor_R | exact bshr_R | exact lcm_R | omega) (by first | exact hI_R | exact band_R | exact bor_R | exact bshr_R | exact lcm_R | omega) (fun hc => ?_) (fun hc => ?_)))) <;> (first | (exfalso; omega) | skip))
    | (show Rch _ _ _ _ _ 125 _ _ _; refine Rch.blk' (Rn_mono mt _) bl_X3_two_125 (i_aload_n rfl (i_gfs rfl (i_iload rfl (i_iconst k_0 (t_cv3 (Rn_mono mt _) 135 rfl (Nat.le_of_ble_eq_true rfl) ?_))))))
    | (show Rch _ _ _ _ _ 135 _ _ _; refine Rch.blk' (Rn_mono mt _) bl_X3_two_135 (i_pop rfl (i_iinc6 trivial k_1 (t_goto 119 rfl ?_))))
    | (show Rch _ _ _ _ _ 142 _ _ _; refine Rch.blk' (Rn_mono mt _) bl_X3_two_142 (i_aload_n rfl (i_gfs rfl (i_iload rfl (i_aload_n rfl (i_gfs rfl (i_iload_n rfl (t_cv2 (Rn_mono mt _) 156 rfl (Nat.le_of_ble_eq_true rfl) ?_))))))))
    | (show Rch _ _ _ _ _ 156 _ _ _; refine Rch.blk' (Rn_mono mt _) bl_X3_two_156 (i_iast rfl rfl (by omega) (by simp only [aln]; omega) (by simp only [aln]; omega) (i_aload_n rfl (i_gfs rfl (i_iload rfl (i_aload_n rfl (i_gfs rfl (i_iload_n rfl (t_cv2 (Rn_mono mt _) 171 rfl (Nat.le_of_ble_eq_true rfl) ?_)))))))))
    | (show Rch _ _ _ _ _ 171 _ _ _; refine Rch.blk' (Rn_mono mt _) bl_X3_two_171 (i_iast rfl rfl (by omega) (by simp only [aln]; omega) (by simp only [aln]; omega) (i_iinc4 trivial k_1 (t_goto 68 rfl ?_))))
    | (show Rch _ _ _ _ _ 178 _ _ _; refine Rch.blk' (Rn_mono mt _) bl_X3_two_178 (i_aload_n rfl (t_cv1 (Rn_mono mt _) 182 rfl (Nat.le_of_ble_eq_true rfl) ?_)))
    | (show Rch _ _ _ _ _ 182 _ _ _; refine Rch.blk' (Rn_mono mt _) bl_X3_two_182 (t_iret ?_)))
theorem c_X4_two (hG : RR h 0 G no0 0) (hO : OKB G) (hy : dy G ≤ 999) {a b n : Int} (ha : inR a) (hb : inR b) (hn : inR n) (hq : ∀ v h', v = vTwo G a b n → JY h h' → Q (some (ai (I v))) h') : Rn mt (d + 20) 186 [ar 3 0, ai (I a), ai (I b), ai (I n)] h Q := by
  refine Rn.intro iX4_two rfl rfl ?_
  show Rch bX4_two _ _ _ _ 0 [some (ar 3 0), some (ai (I a)), some (ai (I b)), some (ai (I n)), none, none, none] [] _
  have g_n := hO.n
  have k1 : ∀ u, u = -1 → ¬ (((0 ≤ a ∧ a < nn G) ∧ (0 ≤ b ∧ b < nn G) ∧ ¬ a = b) ∧ 1 ≤ n ∧ n ≤ 30) → Q (some (ai (I u))) h := fun u e c => hq _ _ (by unfold vTwo; rw [if_neg c]; exact e) JY.rf
  have k2 : ∀ u, u = -3 → (((0 ≤ a ∧ a < nn G) ∧ (0 ≤ b ∧ b < nn G) ∧ ¬ a = b) ∧ 1 ≤ n ∧ n ≤ 30) → ¬ (sq G a < 36 ∧ sq G b < 36) → Q (some (ai (I u))) h := fun u e c f => hq _ _ (by unfold vTwo; rw [if_pos c, if_neg f]; exact e) JY.rf
  have key : (((0 ≤ a ∧ a < nn G) ∧ (0 ≤ b ∧ b < nn G) ∧ ¬ a = b) ∧ 1 ≤ n ∧ n ≤ 30) → (sq G a < 36 ∧ sq G b < 36) → ∀ k : Int, k ≤ 4 → 0 ≤ k → ∀ (h' : Mem) (u v : Option AV), (∀ j : Int, 0 ≤ j → j < k → ¬ twC (tw G a b n a) (tw G a b n b) j) → FrR h h' 1 → RH bX4_two (d + 19) Q 49 [some (ar 3 0), some (ai (I a)), some (ai (I b)), some (ai (I n)), some (ai (I k)), u, v] h' := by
    intro hc hf
    obtain ⟨⟨⟨a0, a1⟩, ⟨b0, b1⟩, hab⟩, n0, n1⟩ := hc
    refine up_ind (fun k hk ih hk0 h' u v hno hF => ?_)
    by_cases hk1 : k < 4
    · have ih := ih hk1 (by omega)
      have hR := hG.fr hF (by decide)
      have q_x : k / 2 = 0 ∨ k / 2 = 1 := by omega
      have q_y : k % 2 = 0 ∨ k % 2 = 1 := by omega
      have q_x' : 1 - k / 2 = 0 ∨ 1 - k / 2 = 1 := by omega
      have q_y' : 1 - k % 2 = 0 ∨ 1 - k % 2 = 1 := by omega
      have ex : vHas G a a (1 - k / 2) b (k % 2) n = tw G a b n a (xr2 k) := by
        unfold tw
        rw [show xr2 k / 2 = 1 - k / 2 by unfold xr2; omega, show xr2 k % 2 = k % 2 by unfold xr2; omega]
      have ey : vHas G b a (k / 2) b (1 - k % 2) n = tw G a b n b (xr1 k) := by
        unfold tw
        rw [show xr1 k / 2 = k / 2 by unfold xr1; omega, show xr1 k % 2 = 1 - k % 2 by unfold xr1; omega]
      have kN : ∀ (h2 : Mem) (u v : Option AV), FrR h h2 1 → ¬ (vHas G a a (1 - k / 2) b (k % 2) n ≤ vHas G a a (k / 2) b (k % 2) n ∧ vHas G b a (k / 2) b (1 - k % 2) n ≤ vHas G b a (k / 2) b (k % 2) n) → RH bX4_two (d + 19) Q 49 [some (ar 3 0), some (ai (I a)), some (ai (I b)), some (ai (I n)), some (ai (I (k + 1))), u, v] h2 := fun h2 u v hF2 c => ih h2 u v (fun j j0 j1 => by
        by_cases z : j = k
        · subst z
          rintro ⟨z1, z2⟩
          rw [ex, ey] at c
          exact c ⟨z1, z2⟩
        · exact hno j j0 (by omega)) hF2
      have kH : ∀ (h2 : Mem), FrR h h2 1 → vHas G a a (1 - k / 2) b (k % 2) n ≤ vHas G a a (k / 2) b (k % 2) n → vHas G b a (k / 2) b (1 - k % 2) n ≤ vHas G b a (k / 2) b (k % 2) n → ∀ w, w = 10 * (k / 2) + k % 2 → Q (some (ai (I w))) h2 := fun h2 hF2 c1 c2 w e => hq _ _ (by
        unfold vTwo
        rw [ex] at c1
        rw [ey] at c2
        rw [if_pos ⟨⟨⟨a0, a1⟩, ⟨b0, b1⟩, hab⟩, n0, n1⟩, if_pos hf, e, vPair_is hk0 hk1 ⟨c1, c2⟩ hno]) (hF2.jy (by omega))
      clear ih hno hq k1 k2 ex ey
      have n0' : 0 ≤ n := by omega
      refine Rch.blk' (Rn_mono mt _) bl_X4_two_49 (i_iload rfl (i_iconst k_4 (t_ic_ge 140 55 rfl rfl (by first | exact hI_R | exact band_R | exact bor_R | exact bshr_R | exact lcm_R | omega) (by first | exact hI_R | exact band_R | exact bor_R | exact bshr_R | exact lcm_R | omega) (fun hc => ?_) (fun hc => ?_)))) <;> (first | (exfalso; omega) | skip)
      refine Rch.blk' (Rn_mono mt _) bl_X4_two_55 (i_iload rfl (i_iconst k_2 (i_idiv (by omega) (by omega) (by omega) (by omega) (i_istore5 trivial (i_iload rfl (i_iconst k_2 (i_irem (by omega) (by omega) (by omega) (by omega) (i_istore6 trivial (i_aload_n rfl (i_iload_n rfl (i_iload_n rfl (i_iconst k_1 (i_iload rfl (i_isub (i_iload_n rfl (i_iload rfl (i_iload_n rfl (t_cv7 (Rn_mono mt _) 81 rfl (Nat.le_of_ble_eq_true rfl) ?_))))))))))))))))))
      refine c_X4_hasBy hR hO hy a0 a1 a0 a1 q_x' b0 b1 q_y n0' n1 (fun h2 _ hF2 v1 v1' => ?_)
      have hR2 := hR.fr hF2 (by decide)
      refine Rch.blk' (Rn_mono mt _) bl_X4_two_81 (i_aload_n rfl (i_iload_n rfl (i_iload_n rfl (i_iload rfl (i_iload_n rfl (i_iload rfl (i_iload_n rfl (t_cv7 (Rn_mono mt _) 93 rfl (Nat.le_of_ble_eq_true rfl) ?_))))))))
      refine c_X4_hasBy hR2 hO hy a0 a1 a0 a1 q_x b0 b1 q_y n0' n1 (fun h3 _ hF3 v2 v2' => ?_)
      have hR3 := hR2.fr hF3 (by decide)
      have hFa := (hF.tr hF2).tr hF3
      refine Rch.blk' (Rn_mono mt _) bl_X4_two_93 (t_ic_gt 134 96 rfl rfl (by first | exact hI_R | exact band_R | exact bor_R | exact bshr_R | exact lcm_R | omega) (by first | exact hI_R | exact band_R | exact bor_R | exact bshr_R | exact lcm_R | omega) (fun hc => ?_) (fun hc => ?_)) <;> (first | (exfalso; omega) | skip)
      · have kN := fun u v => kN h3 u v hFa (by omega)
        clear kH
        repeat' (first
          | exact kN _ _
          | (show Rn _ _ 111 _ _ _; refine c_X4_areTwo (by assumption) (by assumption) (by first | omega | exact hI_R) (by first | omega | exact hI_R) (fun _ _ _ _ _ => ?_) (fun _ => ?_))
          | (show Rn _ _ 105 _ _ _; refine c_X4_isIn (by first | omega | exact hI_R) (by first | omega | exact hI_R) (by first | omega | exact hI_R) (fun _ _ => ?_) (fun _ => ?_))
          | (show Rn _ _ 114 _ _ _; refine c_X4_isHere (by assumption) (by assumption) (by omega) (by omega) (fun _ _ => ?_) (fun _ => ?_))
          | (show Rch _ _ _ _ _ 0 _ _ _; refine Rch.blk' (Rn_mono mt _) bl_X4_two_0 (i_aload_n rfl (i_iload_n rfl (i_iload_n rfl (t_cv3 (Rn_mono mt _) 6 rfl (Nat.le_of_ble_eq_true rfl) ?_)))))
          | (show Rch _ _ _ _ _ 6 _ _ _; refine Rch.blk' (Rn_mono mt _) bl_X4_two_6 (t_if_eq 19 9 rfl rfl (by first | exact hI_R | exact band_R | exact bor_R | exact bshr_R | exact lcm_R | omega) (fun hc => ?_) (fun hc => ?_)) <;> (first | (exfalso; omega) | skip))
          | (show Rch _ _ _ _ _ 9 _ _ _; refine Rch.blk' (Rn_mono mt _) bl_X4_two_9 (i_iload_n rfl (i_iconst k_1 (i_bipush k_30 (t_cs3 (Rn_mono mt _) 16 rfl (Nat.le_of_ble_eq_true rfl) ?_)))))
          | (show Rch _ _ _ _ _ 16 _ _ _; refine Rch.blk' (Rn_mono mt _) bl_X4_two_16 (t_if_ne 21 19 rfl rfl (by first | exact hI_R | exact band_R | exact bor_R | exact bshr_R | exact lcm_R | omega) (fun hc => ?_) (fun hc => ?_)) <;> (first | (exfalso; omega) | skip))
          | (show Rch _ _ _ _ _ 19 _ _ _; refine Rch.blk' (Rn_mono mt _) bl_X4_two_19 (i_iconst k_m1 (t_iret ?_)))
          | (show Rch _ _ _ _ _ 21 _ _ _; refine Rch.blk' (Rn_mono mt _) bl_X4_two_21 (i_aload_n rfl (i_gfs rfl (i_iload_n rfl (t_cs2 (Rn_mono mt _) 29 rfl (Nat.le_of_ble_eq_true rfl) ?_)))))
          | (show Rch _ _ _ _ _ 29 _ _ _; refine Rch.blk' (Rn_mono mt _) bl_X4_two_29 (t_if_eq 43 32 rfl rfl (by first | exact hI_R | exact band_R | exact bor_R | exact bshr_R | exact lcm_R | omega) (fun hc => ?_) (fun hc => ?_)) <;> (first | (exfalso; omega) | skip))
          | (show Rch _ _ _ _ _ 32 _ _ _; refine Rch.blk' (Rn_mono mt _) bl_X4_two_32 (i_aload_n rfl (i_gfs rfl (i_iload_n rfl (t_cs2 (Rn_mono mt _) 40 rfl (Nat.le_of_ble_eq_true rfl) ?_)))))
          | (show Rch _ _ _ _ _ 40 _ _ _; refine Rch.blk' (Rn_mono mt _) bl_X4_two_40 (t_if_ne 46 43 rfl rfl (by first | exact hI_R | exact band_R | exact bor_R | exact bshr_R | exact lcm_R | omega) (fun hc => ?_) (fun hc => ?_)) <;> (first | (exfalso; omega) | skip))
          | (show Rch _ _ _ _ _ 43 _ _ _; refine Rch.blk' (Rn_mono mt _) bl_X4_two_43 (i_bipush k_m3 (t_iret ?_)))
          | (show Rch _ _ _ _ _ 46 _ _ _; refine Rch.blk' (Rn_mono mt _) bl_X4_two_46 (i_iconst k_0 (i_istore4 trivial (t_none ?_))))
          | (show Rch _ _ _ _ _ 55 _ _ _; refine Rch.blk' (Rn_mono mt _) bl_X4_two_55 (i_iload rfl (i_iconst k_2 (i_idiv (by omega) (by omega) (by omega) (by omega) (i_istore5 trivial (i_iload rfl (i_iconst k_2 (i_irem (by omega) (by omega) (by omega) (by omega) (i_istore6 trivial (i_aload_n rfl (i_iload_n rfl (i_iload_n rfl (i_iconst k_1 (i_iload rfl (i_isub (i_iload_n rfl (i_iload rfl (i_iload_n rfl (t_cv7 (Rn_mono mt _) 81 rfl (Nat.le_of_ble_eq_true rfl) ?_)))))))))))))))))))
          | (show Rch _ _ _ _ _ 81 _ _ _; refine Rch.blk' (Rn_mono mt _) bl_X4_two_81 (i_aload_n rfl (i_iload_n rfl (i_iload_n rfl (i_iload rfl (i_iload_n rfl (i_iload rfl (i_iload_n rfl (t_cv7 (Rn_mono mt _) 93 rfl (Nat.le_of_ble_eq_true rfl) ?_)))))))))
          | (show Rch _ _ _ _ _ 93 _ _ _; refine Rch.blk' (Rn_mono mt _) bl_X4_two_93 (t_ic_gt 134 96 rfl rfl (by first | exact hI_R | exact band_R | exact bor_R | exact bshr_R | exact lcm_R | omega) (by first | exact hI_R | exact band_R | exact bor_R | exact bshr_R | exact lcm_R | omega) (fun hc => ?_) (fun hc => ?_)) <;> (first | (exfalso; omega) | skip))
          | (show Rch _ _ _ _ _ 96 _ _ _; refine Rch.blk' (Rn_mono mt _) bl_X4_two_96 (i_aload_n rfl (i_iload_n rfl (i_iload_n rfl (i_iload rfl (i_iload_n rfl (i_iconst k_1 (i_iload rfl (i_isub (i_iload_n rfl (t_cv7 (Rn_mono mt _) 110 rfl (Nat.le_of_ble_eq_true rfl) ?_)))))))))))
          | (show Rch _ _ _ _ _ 110 _ _ _; refine Rch.blk' (Rn_mono mt _) bl_X4_two_110 (i_aload_n rfl (i_iload_n rfl (i_iload_n rfl (i_iload rfl (i_iload_n rfl (i_iload rfl (i_iload_n rfl (t_cv7 (Rn_mono mt _) 122 rfl (Nat.le_of_ble_eq_true rfl) ?_)))))))))
          | (show Rch _ _ _ _ _ 122 _ _ _; refine Rch.blk' (Rn_mono mt _) bl_X4_two_122 (t_ic_gt 134 125 rfl rfl (by first | exact hI_R | exact band_R | exact bor_R | exact bshr_R | exact lcm_R | omega) (by first | exact hI_R | exact band_R | exact bor_R | exact bshr_R | exact lcm_R | omega) (fun hc => ?_) (fun hc => ?_)) <;> (first | (exfalso; omega) | skip))
          | (show Rch _ _ _ _ _ 125 _ _ _; refine Rch.blk' (Rn_mono mt _) bl_X4_two_125 (i_bipush k_10 (i_iload rfl (i_imul (i_iload rfl (i_iadd (t_iret ?_)))))))
          | (show Rch _ _ _ _ _ 134 _ _ _; refine Rch.blk' (Rn_mono mt _) bl_X4_two_134 (i_iinc4 trivial k_1 (t_goto 49 rfl ?_)))
          | (show Rch _ _ _ _ _ 140 _ _ _; refine Rch.blk' (Rn_mono mt _) bl_X4_two_140 (i_bipush k_m4 (t_iret ?_))))
      · skip
        refine Rch.blk' (Rn_mono mt _) bl_X4_two_96 (i_aload_n rfl (i_iload_n rfl (i_iload_n rfl (i_iload rfl (i_iload_n rfl (i_iconst k_1 (i_iload rfl (i_isub (i_iload_n rfl (t_cv7 (Rn_mono mt _) 110 rfl (Nat.le_of_ble_eq_true rfl) ?_))))))))))
        refine c_X4_hasBy hR3 hO hy b0 b1 a0 a1 q_x b0 b1 q_y' n0' n1 (fun h4 _ hF4 v3 v3' => ?_)
        have hR4 := hR3.fr hF4 (by decide)
        refine Rch.blk' (Rn_mono mt _) bl_X4_two_110 (i_aload_n rfl (i_iload_n rfl (i_iload_n rfl (i_iload rfl (i_iload_n rfl (i_iload rfl (i_iload_n rfl (t_cv7 (Rn_mono mt _) 122 rfl (Nat.le_of_ble_eq_true rfl) ?_))))))))
        refine c_X4_hasBy hR4 hO hy b0 b1 a0 a1 q_x b0 b1 q_y n0' n1 (fun h5 _ hF5 v4 v4' => ?_)
        have hFb := (hFa.tr hF4).tr hF5
        refine Rch.blk' (Rn_mono mt _) bl_X4_two_122 (t_ic_gt 134 125 rfl rfl (by first | exact hI_R | exact band_R | exact bor_R | exact bshr_R | exact lcm_R | omega) (by first | exact hI_R | exact band_R | exact bor_R | exact bshr_R | exact lcm_R | omega) (fun hc => ?_) (fun hc => ?_)) <;> (first | (exfalso; omega) | skip)
        · have kN := fun u v => kN h5 u v hFb (by omega)
          clear kH
          repeat' (first
            | exact kN _ _
            | (show Rn _ _ 111 _ _ _; refine c_X4_areTwo (by assumption) (by assumption) (by first | omega | exact hI_R) (by first | omega | exact hI_R) (fun _ _ _ _ _ => ?_) (fun _ => ?_))
            | (show Rn _ _ 105 _ _ _; refine c_X4_isIn (by first | omega | exact hI_R) (by first | omega | exact hI_R) (by first | omega | exact hI_R) (fun _ _ => ?_) (fun _ => ?_))
            | (show Rn _ _ 114 _ _ _; refine c_X4_isHere (by assumption) (by assumption) (by omega) (by omega) (fun _ _ => ?_) (fun _ => ?_))
            | (show Rch _ _ _ _ _ 0 _ _ _; refine Rch.blk' (Rn_mono mt _) bl_X4_two_0 (i_aload_n rfl (i_iload_n rfl (i_iload_n rfl (t_cv3 (Rn_mono mt _) 6 rfl (Nat.le_of_ble_eq_true rfl) ?_)))))
            | (show Rch _ _ _ _ _ 6 _ _ _; refine Rch.blk' (Rn_mono mt _) bl_X4_two_6 (t_if_eq 19 9 rfl rfl (by first | exact hI_R | exact band_R | exact bor_R | exact bshr_R | exact lcm_R | omega) (fun hc => ?_) (fun hc => ?_)) <;> (first | (exfalso; omega) | skip))
            | (show Rch _ _ _ _ _ 9 _ _ _; refine Rch.blk' (Rn_mono mt _) bl_X4_two_9 (i_iload_n rfl (i_iconst k_1 (i_bipush k_30 (t_cs3 (Rn_mono mt _) 16 rfl (Nat.le_of_ble_eq_true rfl) ?_)))))
            | (show Rch _ _ _ _ _ 16 _ _ _; refine Rch.blk' (Rn_mono mt _) bl_X4_two_16 (t_if_ne 21 19 rfl rfl (by first | exact hI_R | exact band_R | exact bor_R | exact bshr_R | exact lcm_R | omega) (fun hc => ?_) (fun hc => ?_)) <;> (first | (exfalso; omega) | skip))
            | (show Rch _ _ _ _ _ 19 _ _ _; refine Rch.blk' (Rn_mono mt _) bl_X4_two_19 (i_iconst k_m1 (t_iret ?_)))
            | (show Rch _ _ _ _ _ 21 _ _ _; refine Rch.blk' (Rn_mono mt _) bl_X4_two_21 (i_aload_n rfl (i_gfs rfl (i_iload_n rfl (t_cs2 (Rn_mono mt _) 29 rfl (Nat.le_of_ble_eq_true rfl) ?_)))))
            | (show Rch _ _ _ _ _ 29 _ _ _; refine Rch.blk' (Rn_mono mt _) bl_X4_two_29 (t_if_eq 43 32 rfl rfl (by first | exact hI_R | exact band_R | exact bor_R | exact bshr_R | exact lcm_R | omega) (fun hc => ?_) (fun hc => ?_)) <;> (first | (exfalso; omega) | skip))
            | (show Rch _ _ _ _ _ 32 _ _ _; refine Rch.blk' (Rn_mono mt _) bl_X4_two_32 (i_aload_n rfl (i_gfs rfl (i_iload_n rfl (t_cs2 (Rn_mono mt _) 40 rfl (Nat.le_of_ble_eq_true rfl) ?_)))))
            | (show Rch _ _ _ _ _ 40 _ _ _; refine Rch.blk' (Rn_mono mt _) bl_X4_two_40 (t_if_ne 46 43 rfl rfl (by first | exact hI_R | exact band_R | exact bor_R | exact bshr_R | exact lcm_R | omega) (fun hc => ?_) (fun hc => ?_)) <;> (first | (exfalso; omega) | skip))
            | (show Rch _ _ _ _ _ 43 _ _ _; refine Rch.blk' (Rn_mono mt _) bl_X4_two_43 (i_bipush k_m3 (t_iret ?_)))
            | (show Rch _ _ _ _ _ 46 _ _ _; refine Rch.blk' (Rn_mono mt _) bl_X4_two_46 (i_iconst k_0 (i_istore4 trivial (t_none ?_))))
            | (show Rch _ _ _ _ _ 55 _ _ _; refine Rch.blk' (Rn_mono mt _) bl_X4_two_55 (i_iload rfl (i_iconst k_2 (i_idiv (by omega) (by omega) (by omega) (by omega) (i_istore5 trivial (i_iload rfl (i_iconst k_2 (i_irem (by omega) (by omega) (by omega) (by omega) (i_istore6 trivial (i_aload_n rfl (i_iload_n rfl (i_iload_n rfl (i_iconst k_1 (i_iload rfl (i_isub (i_iload_n rfl (i_iload rfl (i_iload_n rfl (t_cv7 (Rn_mono mt _) 81 rfl (Nat.le_of_ble_eq_true rfl) ?_)))))))))))))))))))
            | (show Rch _ _ _ _ _ 81 _ _ _; refine Rch.blk' (Rn_mono mt _) bl_X4_two_81 (i_aload_n rfl (i_iload_n rfl (i_iload_n rfl (i_iload rfl (i_iload_n rfl (i_iload rfl (i_iload_n rfl (t_cv7 (Rn_mono mt _) 93 rfl (Nat.le_of_ble_eq_true rfl) ?_)))))))))
            | (show Rch _ _ _ _ _ 93 _ _ _; refine Rch.blk' (Rn_mono mt _) bl_X4_two_93 (t_ic_gt 134 96 rfl rfl (by first | exact hI_R | exact band_R | exact bor_R | exact bshr_R | exact lcm_R | omega) (by first | exact hI_R | exact band_R | exact bor_R | exact bshr_R | exact lcm_R | omega) (fun hc => ?_) (fun hc => ?_)) <;> (first | (exfalso; omega) | skip))
            | (show Rch _ _ _ _ _ 96 _ _ _; refine Rch.blk' (Rn_mono mt _) bl_X4_two_96 (i_aload_n rfl (i_iload_n rfl (i_iload_n rfl (i_iload rfl (i_iload_n rfl (i_iconst k_1 (i_iload rfl (i_isub (i_iload_n rfl (t_cv7 (Rn_mono mt _) 110 rfl (Nat.le_of_ble_eq_true rfl) ?_)))))))))))
            | (show Rch _ _ _ _ _ 110 _ _ _; refine Rch.blk' (Rn_mono mt _) bl_X4_two_110 (i_aload_n rfl (i_iload_n rfl (i_iload_n rfl (i_iload rfl (i_iload_n rfl (i_iload rfl (i_iload_n rfl (t_cv7 (Rn_mono mt _) 122 rfl (Nat.le_of_ble_eq_true rfl) ?_)))))))))
            | (show Rch _ _ _ _ _ 122 _ _ _; refine Rch.blk' (Rn_mono mt _) bl_X4_two_122 (t_ic_gt 134 125 rfl rfl (by first | exact hI_R | exact band_R | exact bor_R | exact bshr_R | exact lcm_R | omega) (by first | exact hI_R | exact band_R | exact bor_R | exact bshr_R | exact lcm_R | omega) (fun hc => ?_) (fun hc => ?_)) <;> (first | (exfalso; omega) | skip))
            | (show Rch _ _ _ _ _ 125 _ _ _; refine Rch.blk' (Rn_mono mt _) bl_X4_two_125 (i_bipush k_10 (i_iload rfl (i_imul (i_iload rfl (i_iadd (t_iret ?_)))))))
            | (show Rch _ _ _ _ _ 134 _ _ _; refine Rch.blk' (Rn_mono mt _) bl_X4_two_134 (i_iinc4 trivial k_1 (t_goto 49 rfl ?_)))
            | (show Rch _ _ _ _ _ 140 _ _ _; refine Rch.blk' (Rn_mono mt _) bl_X4_two_140 (i_bipush k_m4 (t_iret ?_))))
        · have kH := kH h5 hFb (by omega) (by omega)
          clear kN
          repeat' (first
            | ((with_reducible refine kH _ ?_) <;> omega)
            | (show Rn _ _ 111 _ _ _; refine c_X4_areTwo (by assumption) (by assumption) (by first | omega | exact hI_R) (by first | omega | exact hI_R) (fun _ _ _ _ _ => ?_) (fun _ => ?_))
            | (show Rn _ _ 105 _ _ _; refine c_X4_isIn (by first | omega | exact hI_R) (by first | omega | exact hI_R) (by first | omega | exact hI_R) (fun _ _ => ?_) (fun _ => ?_))
            | (show Rn _ _ 114 _ _ _; refine c_X4_isHere (by assumption) (by assumption) (by omega) (by omega) (fun _ _ => ?_) (fun _ => ?_))
            | (show Rch _ _ _ _ _ 0 _ _ _; refine Rch.blk' (Rn_mono mt _) bl_X4_two_0 (i_aload_n rfl (i_iload_n rfl (i_iload_n rfl (t_cv3 (Rn_mono mt _) 6 rfl (Nat.le_of_ble_eq_true rfl) ?_)))))
            | (show Rch _ _ _ _ _ 6 _ _ _; refine Rch.blk' (Rn_mono mt _) bl_X4_two_6 (t_if_eq 19 9 rfl rfl (by first | exact hI_R | exact band_R | exact bor_R | exact bshr_R | exact lcm_R | omega) (fun hc => ?_) (fun hc => ?_)) <;> (first | (exfalso; omega) | skip))
            | (show Rch _ _ _ _ _ 9 _ _ _; refine Rch.blk' (Rn_mono mt _) bl_X4_two_9 (i_iload_n rfl (i_iconst k_1 (i_bipush k_30 (t_cs3 (Rn_mono mt _) 16 rfl (Nat.le_of_ble_eq_true rfl) ?_)))))
            | (show Rch _ _ _ _ _ 16 _ _ _; refine Rch.blk' (Rn_mono mt _) bl_X4_two_16 (t_if_ne 21 19 rfl rfl (by first | exact hI_R | exact band_R | exact bor_R | exact bshr_R | exact lcm_R | omega) (fun hc => ?_) (fun hc => ?_)) <;> (first | (exfalso; omega) | skip))
            | (show Rch _ _ _ _ _ 19 _ _ _; refine Rch.blk' (Rn_mono mt _) bl_X4_two_19 (i_iconst k_m1 (t_iret ?_)))
            | (show Rch _ _ _ _ _ 21 _ _ _; refine Rch.blk' (Rn_mono mt _) bl_X4_two_21 (i_aload_n rfl (i_gfs rfl (i_iload_n rfl (t_cs2 (Rn_mono mt _) 29 rfl (Nat.le_of_ble_eq_true rfl) ?_)))))
            | (show Rch _ _ _ _ _ 29 _ _ _; refine Rch.blk' (Rn_mono mt _) bl_X4_two_29 (t_if_eq 43 32 rfl rfl (by first | exact hI_R | exact band_R | exact bor_R | exact bshr_R | exact lcm_R | omega) (fun hc => ?_) (fun hc => ?_)) <;> (first | (exfalso; omega) | skip))
            | (show Rch _ _ _ _ _ 32 _ _ _; refine Rch.blk' (Rn_mono mt _) bl_X4_two_32 (i_aload_n rfl (i_gfs rfl (i_iload_n rfl (t_cs2 (Rn_mono mt _) 40 rfl (Nat.le_of_ble_eq_true rfl) ?_)))))
            | (show Rch _ _ _ _ _ 40 _ _ _; refine Rch.blk' (Rn_mono mt _) bl_X4_two_40 (t_if_ne 46 43 rfl rfl (by first | exact hI_R | exact band_R | exact bor_R | exact bshr_R | exact lcm_R | omega) (fun hc => ?_) (fun hc => ?_)) <;> (first | (exfalso; omega) | skip))
            | (show Rch _ _ _ _ _ 43 _ _ _; refine Rch.blk' (Rn_mono mt _) bl_X4_two_43 (i_bipush k_m3 (t_iret ?_)))
            | (show Rch _ _ _ _ _ 46 _ _ _; refine Rch.blk' (Rn_mono mt _) bl_X4_two_46 (i_iconst k_0 (i_istore4 trivial (t_none ?_))))
            | (show Rch _ _ _ _ _ 55 _ _ _; refine Rch.blk' (Rn_mono mt _) bl_X4_two_55 (i_iload rfl (i_iconst k_2 (i_idiv (by omega) (by omega) (by omega) (by omega) (i_istore5 trivial (i_iload rfl (i_iconst k_2 (i_irem (by omega) (by omega) (by omega) (by omega) (i_istore6 trivial (i_aload_n rfl (i_iload_n rfl (i_iload_n rfl (i_iconst k_1 (i_iload rfl (i_isub (i_iload_n rfl (i_iload rfl (i_iload_n rfl (t_cv7 (Rn_mono mt _) 81 rfl (Nat.le_of_ble_eq_true rfl) ?_)))))))))))))))))))
            | (show Rch _ _ _ _ _ 81 _ _ _; refine Rch.blk' (Rn_mono mt _) bl_X4_two_81 (i_aload_n rfl (i_iload_n rfl (i_iload_n rfl (i_iload rfl (i_iload_n rfl (i_iload rfl (i_iload_n rfl (t_cv7 (Rn_mono mt _) 93 rfl (Nat.le_of_ble_eq_true rfl) ?_)))))))))
            | (show Rch _ _ _ _ _ 93 _ _ _; refine Rch.blk' (Rn_mono mt _) bl_X4_two_93 (t_ic_gt 134 96 rfl rfl (by first | exact hI_R | exact band_R | exact bor_R | exact bshr_R | exact lcm_R | omega) (by first | exact hI_R | exact band_R | exact bor_R | exact bshr_R | exact lcm_R | omega) (fun hc => ?_) (fun hc => ?_)) <;> (first | (exfalso; omega) | skip))
            | (show Rch _ _ _ _ _ 96 _ _ _; refine Rch.blk' (Rn_mono mt _) bl_X4_two_96 (i_aload_n rfl (i_iload_n rfl (i_iload_n rfl (i_iload rfl (i_iload_n rfl (i_iconst k_1 (i_iload rfl (i_isub (i_iload_n rfl (t_cv7 (Rn_mono mt _) 110 rfl (Nat.le_of_ble_eq_true rfl) ?_)))))))))))
            | (show Rch _ _ _ _ _ 110 _ _ _; refine Rch.blk' (Rn_mono mt _) bl_X4_two_110 (i_aload_n rfl (i_iload_n rfl (i_iload_n rfl (i_iload rfl (i_iload_n rfl (i_iload rfl (i_iload_n rfl (t_cv7 (Rn_mono mt _) 122 rfl (Nat.le_of_ble_eq_true rfl) ?_)))))))))
            | (show Rch _ _ _ _ _ 122 _ _ _; refine Rch.blk' (Rn_mono mt _) bl_X4_two_122 (t_ic_gt 134 125 rfl rfl (by first | exact hI_R | exact band_R | exact bor_R | exact bshr_R | exact lcm_R | omega) (by first | exact hI_R | exact band_R | exact bor_R | exact bshr_R | exact lcm_R | omega) (fun hc => ?_) (fun hc => ?_)) <;> (first | (exfalso; omega) | skip))
            | (show Rch _ _ _ _ _ 125 _ _ _; refine Rch.blk' (Rn_mono mt _) bl_X4_two_125 (i_bipush k_10 (i_iload rfl (i_imul (i_iload rfl (i_iadd (t_iret ?_)))))))
            | (show Rch _ _ _ _ _ 134 _ _ _; refine Rch.blk' (Rn_mono mt _) bl_X4_two_134 (i_iinc4 trivial k_1 (t_goto 49 rfl ?_)))
            | (show Rch _ _ _ _ _ 140 _ _ _; refine Rch.blk' (Rn_mono mt _) bl_X4_two_140 (i_bipush k_m4 (t_iret ?_))))
    · obtain rfl : k = 4 := by omega
      have kk : ∀ w, w = -4 → Q (some (ai (I w))) h' := fun w e => hq _ _ (by
        unfold vTwo
        rw [if_pos ⟨⟨⟨a0, a1⟩, ⟨b0, b1⟩, hab⟩, n0, n1⟩, if_pos hf, e, vPair_no hno]) (hF.jy (by omega))
      clear ih hq k1 k2
      refine Rch.blk' (Rn_mono mt _) bl_X4_two_49 (i_iload rfl (i_iconst k_4 (t_ic_ge 140 55 rfl rfl (by first | exact hI_R | exact band_R | exact bor_R | exact bshr_R | exact lcm_R | omega) (by first | exact hI_R | exact band_R | exact bor_R | exact bshr_R | exact lcm_R | omega) (fun hc => ?_) (fun hc => ?_)))) <;> (first | (exfalso; omega) | skip)
      repeat' (first
        | ((with_reducible refine kk _ ?_) <;> omega)
        | (show Rn _ _ 111 _ _ _; refine c_X4_areTwo (by assumption) (by assumption) (by first | omega | exact hI_R) (by first | omega | exact hI_R) (fun _ _ _ _ _ => ?_) (fun _ => ?_))
        | (show Rn _ _ 105 _ _ _; refine c_X4_isIn (by first | omega | exact hI_R) (by first | omega | exact hI_R) (by first | omega | exact hI_R) (fun _ _ => ?_) (fun _ => ?_))
        | (show Rn _ _ 114 _ _ _; refine c_X4_isHere (by assumption) (by assumption) (by omega) (by omega) (fun _ _ => ?_) (fun _ => ?_))
        | (show Rch _ _ _ _ _ 0 _ _ _; refine Rch.blk' (Rn_mono mt _) bl_X4_two_0 (i_aload_n rfl (i_iload_n rfl (i_iload_n rfl (t_cv3 (Rn_mono mt _) 6 rfl (Nat.le_of_ble_eq_true rfl) ?_)))))
        | (show Rch _ _ _ _ _ 6 _ _ _; refine Rch.blk' (Rn_mono mt _) bl_X4_two_6 (t_if_eq 19 9 rfl rfl (by first | exact hI_R | exact band_R | exact bor_R | exact bshr_R | exact lcm_R | omega) (fun hc => ?_) (fun hc => ?_)) <;> (first | (exfalso; omega) | skip))
        | (show Rch _ _ _ _ _ 9 _ _ _; refine Rch.blk' (Rn_mono mt _) bl_X4_two_9 (i_iload_n rfl (i_iconst k_1 (i_bipush k_30 (t_cs3 (Rn_mono mt _) 16 rfl (Nat.le_of_ble_eq_true rfl) ?_)))))
        | (show Rch _ _ _ _ _ 16 _ _ _; refine Rch.blk' (Rn_mono mt _) bl_X4_two_16 (t_if_ne 21 19 rfl rfl (by first | exact hI_R | exact band_R | exact bor_R | exact bshr_R | exact lcm_R | omega) (fun hc => ?_) (fun hc => ?_)) <;> (first | (exfalso; omega) | skip))
        | (show Rch _ _ _ _ _ 19 _ _ _; refine Rch.blk' (Rn_mono mt _) bl_X4_two_19 (i_iconst k_m1 (t_iret ?_)))
        | (show Rch _ _ _ _ _ 21 _ _ _; refine Rch.blk' (Rn_mono mt _) bl_X4_two_21 (i_aload_n rfl (i_gfs rfl (i_iload_n rfl (t_cs2 (Rn_mono mt _) 29 rfl (Nat.le_of_ble_eq_true rfl) ?_)))))
        | (show Rch _ _ _ _ _ 29 _ _ _; refine Rch.blk' (Rn_mono mt _) bl_X4_two_29 (t_if_eq 43 32 rfl rfl (by first | exact hI_R | exact band_R | exact bor_R | exact bshr_R | exact lcm_R | omega) (fun hc => ?_) (fun hc => ?_)) <;> (first | (exfalso; omega) | skip))
        | (show Rch _ _ _ _ _ 32 _ _ _; refine Rch.blk' (Rn_mono mt _) bl_X4_two_32 (i_aload_n rfl (i_gfs rfl (i_iload_n rfl (t_cs2 (Rn_mono mt _) 40 rfl (Nat.le_of_ble_eq_true rfl) ?_)))))
        | (show Rch _ _ _ _ _ 40 _ _ _; refine Rch.blk' (Rn_mono mt _) bl_X4_two_40 (t_if_ne 46 43 rfl rfl (by first | exact hI_R | exact band_R | exact bor_R | exact bshr_R | exact lcm_R | omega) (fun hc => ?_) (fun hc => ?_)) <;> (first | (exfalso; omega) | skip))
        | (show Rch _ _ _ _ _ 43 _ _ _; refine Rch.blk' (Rn_mono mt _) bl_X4_two_43 (i_bipush k_m3 (t_iret ?_)))
        | (show Rch _ _ _ _ _ 46 _ _ _; refine Rch.blk' (Rn_mono mt _) bl_X4_two_46 (i_iconst k_0 (i_istore4 trivial (t_none ?_))))
        | (show Rch _ _ _ _ _ 55 _ _ _; refine Rch.blk' (Rn_mono mt _) bl_X4_two_55 (i_iload rfl (i_iconst k_2 (i_idiv (by omega) (by omega) (by omega) (by omega) (i_istore5 trivial (i_iload rfl (i_iconst k_2 (i_irem (by omega) (by omega) (by omega) (by omega) (i_istore6 trivial (i_aload_n rfl (i_iload_n rfl (i_iload_n rfl (i_iconst k_1 (i_iload rfl (i_isub (i_iload_n rfl (i_iload rfl (i_iload_n rfl (t_cv7 (Rn_mono mt _) 81 rfl (Nat.le_of_ble_eq_true rfl) ?_)))))))))))))))))))
        | (show Rch _ _ _ _ _ 81 _ _ _; refine Rch.blk' (Rn_mono mt _) bl_X4_two_81 (i_aload_n rfl (i_iload_n rfl (i_iload_n rfl (i_iload rfl (i_iload_n rfl (i_iload rfl (i_iload_n rfl (t_cv7 (Rn_mono mt _) 93 rfl (Nat.le_of_ble_eq_true rfl) ?_)))))))))
        | (show Rch _ _ _ _ _ 93 _ _ _; refine Rch.blk' (Rn_mono mt _) bl_X4_two_93 (t_ic_gt 134 96 rfl rfl (by first | exact hI_R | exact band_R | exact bor_R | exact bshr_R | exact lcm_R | omega) (by first | exact hI_R | exact band_R | exact bor_R | exact bshr_R | exact lcm_R | omega) (fun hc => ?_) (fun hc => ?_)) <;> (first | (exfalso; omega) | skip))
        | (show Rch _ _ _ _ _ 96 _ _ _; refine Rch.blk' (Rn_mono mt _) bl_X4_two_96 (i_aload_n rfl (i_iload_n rfl (i_iload_n rfl (i_iload rfl (i_iload_n rfl (i_iconst k_1 (i_iload rfl (i_isub (i_iload_n rfl (t_cv7 (Rn_mono mt _) 110 rfl (Nat.le_of_ble_eq_true rfl) ?_)))))))))))
        | (show Rch _ _ _ _ _ 110 _ _ _; refine Rch.blk' (Rn_mono mt _) bl_X4_two_110 (i_aload_n rfl (i_iload_n rfl (i_iload_n rfl (i_iload rfl (i_iload_n rfl (i_iload rfl (i_iload_n rfl (t_cv7 (Rn_mono mt _) 122 rfl (Nat.le_of_ble_eq_true rfl) ?_)))))))))
        | (show Rch _ _ _ _ _ 122 _ _ _; refine Rch.blk' (Rn_mono mt _) bl_X4_two_122 (t_ic_gt 134 125 rfl rfl (by first | exact hI_R | exact band_R | exact bor_R | exact bshr_R | exact lcm_R | omega) (by first | exact hI_R | exact band_R | exact bor_R | exact bshr_R | exact lcm_R | omega) (fun hc => ?_) (fun hc => ?_)) <;> (first | (exfalso; omega) | skip))
        | (show Rch _ _ _ _ _ 125 _ _ _; refine Rch.blk' (Rn_mono mt _) bl_X4_two_125 (i_bipush k_10 (i_iload rfl (i_imul (i_iload rfl (i_iadd (t_iret ?_)))))))
        | (show Rch _ _ _ _ _ 134 _ _ _; refine Rch.blk' (Rn_mono mt _) bl_X4_two_134 (i_iinc4 trivial k_1 (t_goto 49 rfl ?_)))
        | (show Rch _ _ _ _ _ 140 _ _ _; refine Rch.blk' (Rn_mono mt _) bl_X4_two_140 (i_bipush k_m4 (t_iret ?_))))
  have ky := fun a1 a2 => key a1 a2 0 (by omega) (by omega) h none none (fun j _ _ => by omega) FrR.rf
  clear key hq
  repeat' (first
    | exact ky (by omega) (by omega)
    | ((with_reducible refine k1 _ ?_ ?_) <;> omega)
    | ((with_reducible refine k2 _ ?_ ?_ ?_) <;> omega)
    | (show Rn _ _ 111 _ _ _; refine c_X4_areTwo (by assumption) (by assumption) (by first | omega | exact hI_R) (by first | omega | exact hI_R) (fun _ _ _ _ _ => ?_) (fun _ => ?_))
    | (show Rn _ _ 105 _ _ _; refine c_X4_isIn (by first | omega | exact hI_R) (by first | omega | exact hI_R) (by first | omega | exact hI_R) (fun _ _ => ?_) (fun _ => ?_))
    | (show Rn _ _ 114 _ _ _; refine c_X4_isHere (by assumption) (by assumption) (by omega) (by omega) (fun _ _ => ?_) (fun _ => ?_))
    | (show Rch _ _ _ _ _ 0 _ _ _; refine Rch.blk' (Rn_mono mt _) bl_X4_two_0 (i_aload_n rfl (i_iload_n rfl (i_iload_n rfl (t_cv3 (Rn_mono mt _) 6 rfl (Nat.le_of_ble_eq_true rfl) ?_)))))
    | (show Rch _ _ _ _ _ 6 _ _ _; refine Rch.blk' (Rn_mono mt _) bl_X4_two_6 (t_if_eq 19 9 rfl rfl (by first | exact hI_R | exact band_R | exact bor_R | exact bshr_R | exact lcm_R | omega) (fun hc => ?_) (fun hc => ?_)) <;> (first | (exfalso; omega) | skip))
    | (show Rch _ _ _ _ _ 9 _ _ _; refine Rch.blk' (Rn_mono mt _) bl_X4_two_9 (i_iload_n rfl (i_iconst k_1 (i_bipush k_30 (t_cs3 (Rn_mono mt _) 16 rfl (Nat.le_of_ble_eq_true rfl) ?_)))))
    | (show Rch _ _ _ _ _ 16 _ _ _; refine Rch.blk' (Rn_mono mt _) bl_X4_two_16 (t_if_ne 21 19 rfl rfl (by first | exact hI_R | exact band_R | exact bor_R | exact bshr_R | exact lcm_R | omega) (fun hc => ?_) (fun hc => ?_)) <;> (first | (exfalso; omega) | skip))
    | (show Rch _ _ _ _ _ 19 _ _ _; refine Rch.blk' (Rn_mono mt _) bl_X4_two_19 (i_iconst k_m1 (t_iret ?_)))
    | (show Rch _ _ _ _ _ 21 _ _ _; refine Rch.blk' (Rn_mono mt _) bl_X4_two_21 (i_aload_n rfl (i_gfs rfl (i_iload_n rfl (t_cs2 (Rn_mono mt _) 29 rfl (Nat.le_of_ble_eq_true rfl) ?_)))))
    | (show Rch _ _ _ _ _ 29 _ _ _; refine Rch.blk' (Rn_mono mt _) bl_X4_two_29 (t_if_eq 43 32 rfl rfl (by first | exact hI_R | exact band_R | exact bor_R | exact bshr_R | exact lcm_R | omega) (fun hc => ?_) (fun hc => ?_)) <;> (first | (exfalso; omega) | skip))
    | (show Rch _ _ _ _ _ 32 _ _ _; refine Rch.blk' (Rn_mono mt _) bl_X4_two_32 (i_aload_n rfl (i_gfs rfl (i_iload_n rfl (t_cs2 (Rn_mono mt _) 40 rfl (Nat.le_of_ble_eq_true rfl) ?_)))))
    | (show Rch _ _ _ _ _ 40 _ _ _; refine Rch.blk' (Rn_mono mt _) bl_X4_two_40 (t_if_ne 46 43 rfl rfl (by first | exact hI_R | exact band_R | exact bor_R | exact bshr_R | exact lcm_R | omega) (fun hc => ?_) (fun hc => ?_)) <;> (first | (exfalso; omega) | skip))
    | (show Rch _ _ _ _ _ 43 _ _ _; refine Rch.blk' (Rn_mono mt _) bl_X4_two_43 (i_bipush k_m3 (t_iret ?_)))
    | (show Rch _ _ _ _ _ 46 _ _ _; refine Rch.blk' (Rn_mono mt _) bl_X4_two_46 (i_iconst k_0 (i_istore4 trivial (t_none ?_))))
    | (show Rch _ _ _ _ _ 55 _ _ _; refine Rch.blk' (Rn_mono mt _) bl_X4_two_55 (i_iload rfl (i_iconst k_2 (i_idiv (by omega) (by omega) (by omega) (by omega) (i_istore5 trivial (i_iload rfl (i_iconst k_2 (i_irem (by omega) (by omega) (by omega) (by omega) (i_istore6 trivial (i_aload_n rfl (i_iload_n rfl (i_iload_n rfl (i_iconst k_1 (i_iload rfl (i_isub (i_iload_n rfl (i_iload rfl (i_iload_n rfl (t_cv7 (Rn_mono mt _) 81 rfl (Nat.le_of_ble_eq_true rfl) ?_)))))))))))))))))))
    | (show Rch _ _ _ _ _ 81 _ _ _; refine Rch.blk' (Rn_mono mt _) bl_X4_two_81 (i_aload_n rfl (i_iload_n rfl (i_iload_n rfl (i_iload rfl (i_iload_n rfl (i_iload rfl (i_iload_n rfl (t_cv7 (Rn_mono mt _) 93 rfl (Nat.le_of_ble_eq_true rfl) ?_)))))))))
    | (show Rch _ _ _ _ _ 93 _ _ _; refine Rch.blk' (Rn_mono mt _) bl_X4_two_93 (t_ic_gt 134 96 rfl rfl (by first | exact hI_R | exact band_R | exact bor_R | exact bshr_R | exact lcm_R | omega) (by first | exact hI_R | exact band_R | exact bor_R | exact bshr_R | exact lcm_R | omega) (fun hc => ?_) (fun hc => ?_)) <;> (first | (exfalso; omega) | skip))
    | (show Rch _ _ _ _ _ 96 _ _ _; refine Rch.blk' (Rn_mono mt _) bl_X4_two_96 (i_aload_n rfl (i_iload_n rfl (i_iload_n rfl (i_iload rfl (i_iload_n rfl (i_iconst k_1 (i_iload rfl (i_isub (i_iload_n rfl (t_cv7 (Rn_mono mt _) 110 rfl (Nat.le_of_ble_eq_true rfl) ?_)))))))))))
    | (show Rch _ _ _ _ _ 110 _ _ _; refine Rch.blk' (Rn_mono mt _) bl_X4_two_110 (i_aload_n rfl (i_iload_n rfl (i_iload_n rfl (i_iload rfl (i_iload_n rfl (i_iload rfl (i_iload_n rfl (t_cv7 (Rn_mono mt _) 122 rfl (Nat.le_of_ble_eq_true rfl) ?_)))))))))
    | (show Rch _ _ _ _ _ 122 _ _ _; refine Rch.blk' (Rn_mono mt _) bl_X4_two_122 (t_ic_gt 134 125 rfl rfl (by first | exact hI_R | exact band_R | exact bor_R | exact bshr_R | exact lcm_R | omega) (by first | exact hI_R | exact band_R | exact bor_R | exact bshr_R | exact lcm_R | omega) (fun hc => ?_) (fun hc => ?_)) <;> (first | (exfalso; omega) | skip))
    | (show Rch _ _ _ _ _ 125 _ _ _; refine Rch.blk' (Rn_mono mt _) bl_X4_two_125 (i_bipush k_10 (i_iload rfl (i_imul (i_iload rfl (i_iadd (t_iret ?_)))))))
    | (show Rch _ _ _ _ _ 134 _ _ _; refine Rch.blk' (Rn_mono mt _) bl_X4_two_134 (i_iinc4 trivial k_1 (t_goto 49 rfl ?_)))
    | (show Rch _ _ _ _ _ 140 _ _ _; refine Rch.blk' (Rn_mono mt _) bl_X4_two_140 (i_bipush k_m4 (t_iret ?_))))
end C33

