/-! RAIN: the reference -/
noncomputable def Fy (p t : Int) : Nat → Bd → Nat → Int
  | 0, V, _ => if sq V p = 36 then 0 else 1
  | m + 1, V, s => if s % 2 = 1 then Fy p t m (DAY V no0 1) (s / 2) else (t - 1) * Fy p t m (DAY V no0 0) (s / 2)
theorem Fy_taken {p t : Int} (p0 : 0 ≤ p) : ∀ (m : Nat) (V : Bd) (s : Nat), OKB V → p < nn V → sq V p = 36 → Fy p t m V s = 0
  | 0, V, _, _, _, h => if_pos h
  | m + 1, V, s, hO, p1, h => by
    have h1 := Fy_taken (t := t) p0 m (DAY V no0 1) (s / 2) (OKB_DAY hO) (by rw [(@DAY_f V no0 1).1]; exact p1) (DAY_taken hO p0 p1 h)
    have h0 := Fy_taken (t := t) p0 m (DAY V no0 0) (s / 2) (OKB_DAY hO) (by rw [(@DAY_f V no0 0).1]; exact p1) (DAY_taken hO p0 p1 h)
    show (if s % 2 = 1 then Fy p t m (DAY V no0 1) (s / 2) else (t - 1) * Fy p t m (DAY V no0 0) (s / 2)) = 0
    rw [h1, h0, Int.mul_zero]
    split <;> rfl
theorem sm_two (f : Int → Int) : ∀ K : Nat, sm f (2 * K) = sm (fun i => f (2 * i) + f (2 * i + 1)) K
  | 0 => rfl
  | K + 1 => by
    have ih := sm_two f K
    rw [show 2 * (K + 1) = 2 * K + 1 + 1 by omega]
    show sm f (2 * K) + f ((2 * K : Nat) : Int) + f ((2 * K + 1 : Nat) : Int) = sm (fun i => f (2 * i) + f (2 * i + 1)) K + (f (2 * (K : Int)) + f (2 * (K : Int) + 1))
    rw [ih, show ((2 * K : Nat) : Int) = 2 * (K : Int) by omega, show ((2 * K + 1 : Nat) : Int) = 2 * (K : Int) + 1 by omega, Int.add_assoc]
theorem sm_lin (c : Int) (f g e : Int → Int) (he : ∀ i : Int, 0 ≤ i → e i = c * f i + g i) : ∀ K : Nat, sm e K = c * sm f K + sm g K
  | 0 => by
    show (0 : Int) = c * 0 + 0
    rw [Int.mul_zero]; rfl
  | K + 1 => by
    have ih := sm_lin c f g e he K
    show sm e K + e (K : Int) = c * (sm f K + f (K : Int)) + (sm g K + g (K : Int))
    rw [ih, he (K : Int) (by omega), Int.mul_add]
    omega
theorem sm_zero {f : Int → Int} (hf : ∀ i : Int, 0 ≤ i → f i = 0) : ∀ K : Nat, sm f K = 0
  | 0 => rfl
  | K + 1 => by
    show sm f K + f (K : Int) = 0
    rw [sm_zero hf K, hf (K : Int) (by omega)]
    rfl
theorem Wy_sum {p t : Int} (p0 : 0 ≤ p) : ∀ (m : Nat) (V : Bd), OKB V → p < nn V → Wy p t m V = sm (fun i => Fy p t m V i.toNat) (2 ^ m)
  | 0, V, _, _ => by
    show (if sq V p = 36 then (0 : Int) else 1) = 0 + (if sq V p = 36 then (0 : Int) else 1)
    omega
  | m + 1, V, hO, p1 => by
    by_cases c : sq V p = 36
    · rw [sm_zero (fun i _ => Fy_taken p0 (m + 1) V i.toNat hO p1 c)]
      exact if_pos c
    · have e0 : Wy p t (m + 1) V = Wy p t m (DAY V no0 1) + (t - 1) * Wy p t m (DAY V no0 0) := if_neg c
      rw [e0, Wy_sum p0 m (DAY V no0 1) (OKB_DAY hO) (by rw [(@DAY_f V no0 1).1]; exact p1), Wy_sum p0 m (DAY V no0 0) (OKB_DAY hO) (by rw [(@DAY_f V no0 0).1]; exact p1), show 2 ^ (m + 1) = 2 * 2 ^ m by rw [Nat.pow_succ]; omega, sm_two]
      have eL := sm_lin (t - 1) (fun i => Fy p t m (DAY V no0 0) i.toNat) (fun i => Fy p t m (DAY V no0 1) i.toNat) (fun i => Fy p t (m + 1) V (2 * i).toNat + Fy p t (m + 1) V (2 * i + 1).toNat) (fun i i0 => by
        have a1 : (2 * i).toNat = 2 * i.toNat := by omega
        have a2 : (2 * i + 1).toNat = 2 * i.toNat + 1 := by omega
        show Fy p t (m + 1) V (2 * i).toNat + Fy p t (m + 1) V (2 * i + 1).toNat = _
        rw [a1, a2]
        show (if 2 * i.toNat % 2 = 1 then _ else (t - 1) * Fy p t m (DAY V no0 0) (2 * i.toNat / 2)) + (if (2 * i.toNat + 1) % 2 = 1 then Fy p t m (DAY V no0 1) ((2 * i.toNat + 1) / 2) else _) = _
        rw [if_neg (by omega), if_pos (by omega), show 2 * i.toNat / 2 = i.toNat by omega, show (2 * i.toNat + 1) / 2 = i.toNat by omega]) (2 ^ m)
      rw [eL]
      omega
section C36
variable {d : Nat} {h : Mem} {Q : Option AV → Mem → Prop} {G : Bd}
theorem c_X4_hasI {x z : Int} (x0 : 0 ≤ x) (x1 : x < 1024) (z0 : 0 ≤ z) (z1 : z < 10) (h1 : x.toNat / 2 ^ z.toNat % 2 = 1 → Q (some (ai (I 1))) h) (h0 : ¬ x.toNat / 2 ^ z.toNat % 2 = 1 → Q (some (ai (I 0))) h) : Rn mt (d + 1) 115 [ai (I x), ai (I z)] h Q := by
  refine Rn.intro iX4_has rfl rfl ?_
  show Rch bX4_has _ _ _ _ 0 [some (ai (I x)), some (ai (I z))] [] _
  have e := has_dec x.toNat (by omega) z.toNat (by omega)
  rw [show ((x.toNat : Nat) : Int) = x by omega, show ((z.toNat : Nat) : Int) = z by omega] at e
  have t := Nat.testBit_eq_decide_div_mod_eq (x := x.toNat) (i := z.toNat)
  by_cases c : x.toNat / 2 ^ z.toNat % 2 = 1
  · have h1 := h1 c
    rw [t, if_pos (decide_eq_true c)] at e
    clear h0 t
    repeat' (first
      | exact h1
      | (show Rch _ _ _ _ _ 0 _ _ _; refine Rch.blk' (Rn_mono mt _) bl_X4_has_0 (i_iload_n rfl (i_iload_n rfl (i_ishr (i_iconst k_1 (i_iand (i_iconst k_1 (t_ic_ne 13 9 rfl rfl (by first | with_reducible exact hI_R | with_reducible exact lcm_R | with_reducible exact band_R | with_reducible exact bor_R | with_reducible exact bshr_R | with_reducible exact bshl_R | omega | (simp (disch := omega) only [e]; omega)) (by first | with_reducible exact hI_R | with_reducible exact lcm_R | with_reducible exact band_R | with_reducible exact bor_R | with_reducible exact bshr_R | with_reducible exact bshl_R | omega | (simp (disch := omega) only [e]; omega)) (fun hc => ?_) (fun hc => ?_)))))))) <;> (first | (exfalso; omega) | skip))
      | (show Rch _ _ _ _ _ 9 _ _ _; refine Rch.blk' (Rn_mono mt _) bl_X4_has_9 (i_iconst k_1 (t_goto 14 rfl ?_)))
      | (show Rch _ _ _ _ _ 13 _ _ _; refine Rch.blk' (Rn_mono mt _) bl_X4_has_13 (i_iconst k_0 (t_none ?_)))
      | (show Rch _ _ _ _ _ 14 _ _ _; refine Rch.blk' (Rn_mono mt _) bl_X4_has_14 (t_zret (by omega) ?_)))
  · have h0 := h0 c
    rw [t, if_neg (by simp [c])] at e
    clear h1 t
    repeat' (first
      | exact h0
      | (show Rch _ _ _ _ _ 0 _ _ _; refine Rch.blk' (Rn_mono mt _) bl_X4_has_0 (i_iload_n rfl (i_iload_n rfl (i_ishr (i_iconst k_1 (i_iand (i_iconst k_1 (t_ic_ne 13 9 rfl rfl (by first | with_reducible exact hI_R | with_reducible exact lcm_R | with_reducible exact band_R | with_reducible exact bor_R | with_reducible exact bshr_R | with_reducible exact bshl_R | omega | (simp (disch := omega) only [e]; omega)) (by first | with_reducible exact hI_R | with_reducible exact lcm_R | with_reducible exact band_R | with_reducible exact bor_R | with_reducible exact bshr_R | with_reducible exact bshl_R | omega | (simp (disch := omega) only [e]; omega)) (fun hc => ?_) (fun hc => ?_)))))))) <;> (first | (exfalso; omega) | skip))
      | (show Rch _ _ _ _ _ 9 _ _ _; refine Rch.blk' (Rn_mono mt _) bl_X4_has_9 (i_iconst k_1 (t_goto 14 rfl ?_)))
      | (show Rch _ _ _ _ _ 13 _ _ _; refine Rch.blk' (Rn_mono mt _) bl_X4_has_13 (i_iconst k_0 (t_none ?_)))
      | (show Rch _ _ _ _ _ 14 _ _ _; refine Rch.blk' (Rn_mono mt _) bl_X4_has_14 (t_zret (by omega) ?_)))
theorem c_X4_rain (hG : RR h 0 G no0 0) (hO : OKB G) (hy : dy G ≤ 999) {p n t part : Int} (hp : inR p) (hn : inR n) (ht : inR t) (hpa : inR part) (hq : ∀ v h', v = vRain G p n t part → JY h h' → Q (some (al (L v))) h') : Rn mt (d + 20) 189 [ar 3 0, ai (I p), ai (I n), ai (I t), ai (I part)] h Q := by
  refine Rn.intro iX4_rain rfl rfl ?_
  show Rch bX4_rain _ _ _ _ 0 [some (ar 3 0), some (ai (I p)), some (ai (I n)), some (ai (I t)), some (ai (I part)), none, none, none, none, none, none, none, none] [] _
  have k1 : ¬ ((0 ≤ p ∧ p < nn G) ∧ (0 ≤ n ∧ n ≤ 7) ∧ (2 ≤ t ∧ t ≤ 20) ∧ 0 ≤ part ∧ part ≤ 1) → Q (some (al (lcst 1000000001))) h := fun a => by
    rw [l_n]; exact hq _ _ (by unfold vRain; rw [if_neg a]) JY.rf
  have key : ((0 ≤ p ∧ p < nn G) ∧ (0 ≤ n ∧ n ≤ 7) ∧ (2 ≤ t ∧ t ≤ 20) ∧ 0 ≤ part ∧ part ≤ 1) → ∀ i : Int, i ≤ bshl 1 n → 0 ≤ i → ∀ (u v w : Option AV) (h' : Mem), FrR h h' 1 → RH bX4_rain (d + 19) Q 73 [some (ar 3 0), some (ai (I p)), some (ai (I n)), some (ai (I t)), some (ai (I part)), some (al (L (SM (fun s => Fy p t n.toNat G s.toNat) i))), none, some (al (L (pwr t n.toNat))), none, some (ai (I i)), u, v, w] h' := by
    rintro ⟨⟨p0, p1⟩, ⟨n0, n1⟩, ⟨t0, t1⟩, hpart⟩
    have e_sh : bshl 1 n = ((2 ^ n.toNat : Nat) : Int) := by
      have := shl_dec n.toNat (by omega)
      rw [show ((n.toNat : Nat) : Int) = n by omega] at this
      exact this
    have g_sh : 1 ≤ bshl 1 n ∧ bshl 1 n ≤ 128 := by
      rw [e_sh]
      have h1 : 2 ^ n.toNat ≤ 2 ^ 7 := Nat.pow_le_pow_right (by omega) (by omega)
      have h2 := Nat.two_pow_pos n.toNat
      omega
    refine up_ind (fun i hi ih i0 u v w h' hF => ?_)
    have hR := hG.fr hF (by decide)
    by_cases hi1 : i < bshl 1 n
    · have ih := ih hi1 (by omega)
      rw [SM_up i0] at ih
      have inner : ∀ k : Int, k ≤ n → 0 ≤ k → ∀ (wt : Int) (V : Bd) (ra : Int) (h2 : Mem), RR h2 1 V no0 ra → OKB V → nn V = nn G → dy V = dy G + k → FrR h h2 1 → wt * Fy p t (n - k).toNat V (i.toNat / 2 ^ k.toNat) = Fy p t n.toNat G i.toNat → RH bX4_rain (d + 19) Q 98 [some (ar 3 0), some (ai (I p)), some (ai (I n)), some (ai (I t)), some (ai (I part)), some (al (L (SM (fun s => Fy p t n.toNat G s.toNat) i))), none, some (al (L (pwr t n.toNat))), none, some (ai (I i)), some (al (L wt)), none, some (ai (I k))] h2 := by
        refine up_ind (fun k hk jh k0 wt V ra h2 hV hOV hnV hdV hF2 hW => ?_)
        by_cases hk1 : k < n
        · have jh := jh hk1 (by omega)
          have hn9 : (n - k).toNat = (n - (k + 1)).toNat + 1 := by omega
          rw [hn9] at hW
          have hW : wt * (if i.toNat / 2 ^ k.toNat % 2 = 1 then Fy p t (n - (k + 1)).toNat (DAY V no0 1) (i.toNat / 2 ^ k.toNat / 2) else (t - 1) * Fy p t (n - (k + 1)).toNat (DAY V no0 0) (i.toNat / 2 ^ k.toNat / 2)) = Fy p t n.toNat G i.toNat := hW
          have hdd : i.toNat / 2 ^ k.toNat / 2 = i.toNat / 2 ^ (k + 1).toNat := by
            rw [Nat.div_div_eq_div_mul, show (k + 1).toNat = k.toNat + 1 by omega, Nat.pow_succ]
          rw [hdd] at hW
          clear ih hq k1
          by_cases c : i.toNat / 2 ^ k.toNat % 2 = 1
          · rw [if_pos c] at hW
            have f1 := @DAY_f V no0 1
            have kk := fun h4 a b => jh wt (DAY V no0 1) 1 h4 a (OKB_DAY hOV) (f1.1.trans hnV) (by rw [f1.2.1]; omega) b hW
            have e1 : L wt * lcst 1 = L wt := by rw [l_1, L_mul, Int.mul_one]
            rw [← e1] at kk
            clear jh
            refine Rch.blk' (Rn_mono mt _) bl_X4_rain_98 (i_iload rfl (i_iload_n rfl (t_ic_ge 161 104 rfl rfl (by first | with_reducible exact hI_R | with_reducible exact lcm_R | with_reducible exact band_R | with_reducible exact bor_R | with_reducible exact bshr_R | with_reducible exact bshl_R | omega) (by first | with_reducible exact hI_R | with_reducible exact lcm_R | with_reducible exact band_R | with_reducible exact bor_R | with_reducible exact bshr_R | with_reducible exact bshl_R | omega) (fun hc => ?_) (fun hc => ?_)))) <;> (first | (exfalso; omega) | skip)
            refine Rch.blk' (Rn_mono mt _) bl_X4_rain_104 (i_lload rfl (i_iload rfl (i_iload rfl (t_cs2 (Rn_mono mt _) 113 rfl (Nat.le_of_ble_eq_true rfl) ?_))))
            refine c_X4_hasI i0 (by omega) k0 (by omega) (fun _ => ?_) (fun z => absurd c z)
            refine Rch.blk' (Rn_mono mt _) bl_X4_rain_113 (t_if_eq 120 116 rfl rfl (by first | with_reducible exact hI_R | with_reducible exact lcm_R | with_reducible exact band_R | with_reducible exact bor_R | with_reducible exact bshr_R | with_reducible exact bshl_R | omega) (fun hc => ?_) (fun hc => ?_)) <;> (first | (exfalso; omega) | skip)
            refine Rch.blk' (Rn_mono mt _) bl_X4_rain_116 (i_lconst (t_goto 124 rfl ?_))
            refine Rch.blk' (Rn_mono mt _) bl_X4_rain_124 (i_lmul (i_lstore10 trivial (i_aload_n rfl (i_gfs rfl (i_iconst k_5 (i_iload rfl (i_iload rfl (t_cs2 (Rn_mono mt _) 139 rfl (Nat.le_of_ble_eq_true rfl) ?_))))))))
            refine c_X4_hasI i0 (by omega) k0 (by omega) (fun _ => ?_) (fun z => absurd c z)
            refine Rch.blk' (Rn_mono mt _) bl_X4_rain_139 (t_if_eq 146 142 rfl rfl (by first | with_reducible exact hI_R | with_reducible exact lcm_R | with_reducible exact band_R | with_reducible exact bor_R | with_reducible exact bshr_R | with_reducible exact bshl_R | omega) (fun hc => ?_) (fun hc => ?_)) <;> (first | (exfalso; omega) | skip)
            refine Rch.blk' (Rn_mono mt _) bl_X4_rain_142 (i_iconst k_1 (t_goto 147 rfl ?_))
            refine Rch.blk' (Rn_mono mt _) bl_X4_rain_147 (i_iast rfl rfl (by omega) (by simp only [aln]; omega) (by simp only [aln]; omega) (i_aload_n rfl (i_gfs rfl (t_cs1 (Rn_mono mt _) 155 rfl (Nat.le_of_ble_eq_true rfl) ?_))))
            refine c_X4_day (hV.set_r (z := 1) (j := Int.toNat 5) ⟨by omega, by omega⟩ rfl) hOV (Or.inr rfl) (by omega) (fun h4 hG4 hF4 => ?_)
            have kk := kk h4 hG4 ((FrR.ms hF2).tr hF4)
            repeat' (first
              | exact kk
              | (show Rn _ _ 110 _ _ _; refine c_X4_isPiece (by assumption) (by assumption) (by first | omega | exact hI_R) (fun _ _ => ?_) (fun _ => ?_))
              | (show Rn _ _ 105 _ _ _; refine c_X4_isIn (by first | omega | exact hI_R) (by first | omega | exact hI_R) (by first | omega | exact hI_R) (fun _ _ => ?_) (fun _ => ?_))
              | (show Rn _ _ 115 _ _ _; refine c_X4_has (by omega) (by omega) (fun _ => ?_) (fun _ => ?_))
              | (show Rn _ _ 114 _ _ _; refine c_X4_isHere (by assumption) (by assumption) (by omega) (by omega) (fun _ _ => ?_) (fun _ => ?_))
              | (show Rch _ _ _ _ _ 0 _ _ _; refine Rch.blk' (Rn_mono mt _) bl_X4_rain_0 (i_aload_n rfl (i_iload_n rfl (t_cv2 (Rn_mono mt _) 5 rfl (Nat.le_of_ble_eq_true rfl) ?_))))
              | (show Rch _ _ _ _ _ 5 _ _ _; refine Rch.blk' (Rn_mono mt _) bl_X4_rain_5 (t_if_eq 38 8 rfl rfl (by first | with_reducible exact hI_R | with_reducible exact lcm_R | with_reducible exact band_R | with_reducible exact bor_R | with_reducible exact bshr_R | with_reducible exact bshl_R | omega) (fun hc => ?_) (fun hc => ?_)) <;> (first | (exfalso; omega) | skip))
              | (show Rch _ _ _ _ _ 8 _ _ _; refine Rch.blk' (Rn_mono mt _) bl_X4_rain_8 (i_iload_n rfl (i_iconst k_0 (i_bipush k_7 (t_cs3 (Rn_mono mt _) 15 rfl (Nat.le_of_ble_eq_true rfl) ?_)))))
              | (show Rch _ _ _ _ _ 15 _ _ _; refine Rch.blk' (Rn_mono mt _) bl_X4_rain_15 (t_if_eq 38 18 rfl rfl (by first | with_reducible exact hI_R | with_reducible exact lcm_R | with_reducible exact band_R | with_reducible exact bor_R | with_reducible exact bshr_R | with_reducible exact bshl_R | omega) (fun hc => ?_) (fun hc => ?_)) <;> (first | (exfalso; omega) | skip))
              | (show Rch _ _ _ _ _ 18 _ _ _; refine Rch.blk' (Rn_mono mt _) bl_X4_rain_18 (i_iload_n rfl (i_iconst k_2 (i_bipush k_20 (t_cs3 (Rn_mono mt _) 25 rfl (Nat.le_of_ble_eq_true rfl) ?_)))))
              | (show Rch _ _ _ _ _ 25 _ _ _; refine Rch.blk' (Rn_mono mt _) bl_X4_rain_25 (t_if_eq 38 28 rfl rfl (by first | with_reducible exact hI_R | with_reducible exact lcm_R | with_reducible exact band_R | with_reducible exact bor_R | with_reducible exact bshr_R | with_reducible exact bshl_R | omega) (fun hc => ?_) (fun hc => ?_)) <;> (first | (exfalso; omega) | skip))
              | (show Rch _ _ _ _ _ 28 _ _ _; refine Rch.blk' (Rn_mono mt _) bl_X4_rain_28 (i_iload rfl (i_iconst k_0 (i_iconst k_1 (t_cs3 (Rn_mono mt _) 35 rfl (Nat.le_of_ble_eq_true rfl) ?_)))))
              | (show Rch _ _ _ _ _ 35 _ _ _; refine Rch.blk' (Rn_mono mt _) bl_X4_rain_35 (t_if_ne 42 38 rfl rfl (by first | with_reducible exact hI_R | with_reducible exact lcm_R | with_reducible exact band_R | with_reducible exact bor_R | with_reducible exact bshr_R | with_reducible exact bshl_R | omega) (fun hc => ?_) (fun hc => ?_)) <;> (first | (exfalso; omega) | skip))
              | (show Rch _ _ _ _ _ 38 _ _ _; refine Rch.blk' (Rn_mono mt _) bl_X4_rain_38 (i_ldc2 (t_lret ?_)))
              | (show Rch _ _ _ _ _ 42 _ _ _; refine Rch.blk' (Rn_mono mt _) bl_X4_rain_42 (i_lconst (i_lstore5 trivial (i_lconst (i_lstore7 trivial (i_iconst k_0 (i_istore9 trivial (t_none ?_))))))))
              | (show Rch _ _ _ _ _ 51 _ _ _; refine Rch.blk' (Rn_mono mt _) bl_X4_rain_51 (i_iload rfl (i_iload_n rfl (t_ic_ge 70 57 rfl rfl (by first | with_reducible exact hI_R | with_reducible exact lcm_R | with_reducible exact band_R | with_reducible exact bor_R | with_reducible exact bshr_R | with_reducible exact bshl_R | omega) (by first | with_reducible exact hI_R | with_reducible exact lcm_R | with_reducible exact band_R | with_reducible exact bor_R | with_reducible exact bshr_R | with_reducible exact bshl_R | omega) (fun hc => ?_) (fun hc => ?_)))) <;> (first | (exfalso; omega) | skip))
              | (show Rch _ _ _ _ _ 57 _ _ _; refine Rch.blk' (Rn_mono mt _) bl_X4_rain_57 (i_lload rfl (i_iload_n rfl (i_i2l (i_lmul (i_lstore7 trivial (i_iinc9 trivial k_1 (t_goto 51 rfl ?_))))))))
              | (show Rch _ _ _ _ _ 70 _ _ _; refine Rch.blk' (Rn_mono mt _) bl_X4_rain_70 (i_iconst k_0 (i_istore9 trivial (t_none ?_))))
              | (show Rch _ _ _ _ _ 73 _ _ _; refine Rch.blk' (Rn_mono mt _) bl_X4_rain_73 (i_iload rfl (i_iconst k_1 (i_iload_n rfl (i_ishl (t_ic_ge 189 81 rfl rfl (by first | with_reducible exact hI_R | with_reducible exact lcm_R | with_reducible exact band_R | with_reducible exact bor_R | with_reducible exact bshr_R | with_reducible exact bshl_R | omega) (by first | with_reducible exact hI_R | with_reducible exact lcm_R | with_reducible exact band_R | with_reducible exact bor_R | with_reducible exact bshr_R | with_reducible exact bshl_R | omega) (fun hc => ?_) (fun hc => ?_)))))) <;> (first | (exfalso; omega) | skip))
              | (show Rch _ _ _ _ _ 81 _ _ _; refine Rch.blk' (Rn_mono mt _) bl_X4_rain_81 (i_lconst (i_lstore10 trivial (i_aload_n rfl (i_gfs rfl (i_aload_n rfl (i_gfs rfl (t_cs2 (Rn_mono mt _) 95 rfl (Nat.le_of_ble_eq_true rfl) ?_))))))))
              | (show Rch _ _ _ _ _ 95 _ _ _; refine Rch.blk' (Rn_mono mt _) bl_X4_rain_95 (i_iconst k_0 (i_istore12 trivial (t_none ?_))))
              | (show Rch _ _ _ _ _ 104 _ _ _; refine Rch.blk' (Rn_mono mt _) bl_X4_rain_104 (i_lload rfl (i_iload rfl (i_iload rfl (t_cs2 (Rn_mono mt _) 113 rfl (Nat.le_of_ble_eq_true rfl) ?_)))))
              | (show Rch _ _ _ _ _ 113 _ _ _; refine Rch.blk' (Rn_mono mt _) bl_X4_rain_113 (t_if_eq 120 116 rfl rfl (by first | with_reducible exact hI_R | with_reducible exact lcm_R | with_reducible exact band_R | with_reducible exact bor_R | with_reducible exact bshr_R | with_reducible exact bshl_R | omega) (fun hc => ?_) (fun hc => ?_)) <;> (first | (exfalso; omega) | skip))
              | (show Rch _ _ _ _ _ 116 _ _ _; refine Rch.blk' (Rn_mono mt _) bl_X4_rain_116 (i_lconst (t_goto 124 rfl ?_)))
              | (show Rch _ _ _ _ _ 120 _ _ _; refine Rch.blk' (Rn_mono mt _) bl_X4_rain_120 (i_iload_n rfl (i_iconst k_1 (i_isub (i_i2l (t_none ?_))))))
              | (show Rch _ _ _ _ _ 124 _ _ _; refine Rch.blk' (Rn_mono mt _) bl_X4_rain_124 (i_lmul (i_lstore10 trivial (i_aload_n rfl (i_gfs rfl (i_iconst k_5 (i_iload rfl (i_iload rfl (t_cs2 (Rn_mono mt _) 139 rfl (Nat.le_of_ble_eq_true rfl) ?_)))))))))
              | (show Rch _ _ _ _ _ 139 _ _ _; refine Rch.blk' (Rn_mono mt _) bl_X4_rain_139 (t_if_eq 146 142 rfl rfl (by first | with_reducible exact hI_R | with_reducible exact lcm_R | with_reducible exact band_R | with_reducible exact bor_R | with_reducible exact bshr_R | with_reducible exact bshl_R | omega) (fun hc => ?_) (fun hc => ?_)) <;> (first | (exfalso; omega) | skip))
              | (show Rch _ _ _ _ _ 142 _ _ _; refine Rch.blk' (Rn_mono mt _) bl_X4_rain_142 (i_iconst k_1 (t_goto 147 rfl ?_)))
              | (show Rch _ _ _ _ _ 146 _ _ _; refine Rch.blk' (Rn_mono mt _) bl_X4_rain_146 (i_iconst k_0 (t_none ?_)))
              | (show Rch _ _ _ _ _ 147 _ _ _; refine Rch.blk' (Rn_mono mt _) bl_X4_rain_147 (i_iast rfl rfl (by omega) (by simp only [aln]; omega) (by simp only [aln]; omega) (i_aload_n rfl (i_gfs rfl (t_cs1 (Rn_mono mt _) 155 rfl (Nat.le_of_ble_eq_true rfl) ?_)))))
              | (show Rch _ _ _ _ _ 155 _ _ _; refine Rch.blk' (Rn_mono mt _) bl_X4_rain_155 (i_iinc12 trivial k_1 (t_goto 98 rfl ?_)))
              | (show Rch _ _ _ _ _ 161 _ _ _; refine Rch.blk' (Rn_mono mt _) bl_X4_rain_161 (i_lload rfl (i_aload_n rfl (i_gfs rfl (i_iload_n rfl (t_cs2 (Rn_mono mt _) 171 rfl (Nat.le_of_ble_eq_true rfl) ?_))))))
              | (show Rch _ _ _ _ _ 171 _ _ _; refine Rch.blk' (Rn_mono mt _) bl_X4_rain_171 (t_if_eq 179 174 rfl rfl (by first | with_reducible exact hI_R | with_reducible exact lcm_R | with_reducible exact band_R | with_reducible exact bor_R | with_reducible exact bshr_R | with_reducible exact bshl_R | omega) (fun hc => ?_) (fun hc => ?_)) <;> (first | (exfalso; omega) | skip))
              | (show Rch _ _ _ _ _ 174 _ _ _; refine Rch.blk' (Rn_mono mt _) bl_X4_rain_174 (i_lload rfl (t_goto 180 rfl ?_)))
              | (show Rch _ _ _ _ _ 179 _ _ _; refine Rch.blk' (Rn_mono mt _) bl_X4_rain_179 (i_lconst (t_none ?_)))
              | (show Rch _ _ _ _ _ 180 _ _ _; refine Rch.blk' (Rn_mono mt _) bl_X4_rain_180 (i_ladd (i_lstore5 trivial (i_iinc9 trivial k_1 (t_goto 73 rfl ?_)))))
              | (show Rch _ _ _ _ _ 189 _ _ _; refine Rch.blk' (Rn_mono mt _) bl_X4_rain_189 (i_lload rfl (i_lload rfl (i_iload rfl (t_cs3 (Rn_mono mt _) 198 rfl (Nat.le_of_ble_eq_true rfl) ?_)))))
              | (show Rch _ _ _ _ _ 198 _ _ _; refine Rch.blk' (Rn_mono mt _) bl_X4_rain_198 (t_lret ?_)))
          · rw [if_neg c, ← Int.mul_assoc] at hW
            have f1 := @DAY_f V no0 0
            have kk := fun h4 a b => jh (wt * (t - 1)) (DAY V no0 0) 0 h4 a (OKB_DAY hOV) (f1.1.trans hnV) (by rw [f1.2.1]; omega) b hW
            have e1 : L wt * (I (t - 1)).toInt64 = L (wt * (t - 1)) := by rw [L_i2l ⟨by omega, by omega⟩, L_mul]
            rw [← e1] at kk
            clear jh
            refine Rch.blk' (Rn_mono mt _) bl_X4_rain_98 (i_iload rfl (i_iload_n rfl (t_ic_ge 161 104 rfl rfl (by first | with_reducible exact hI_R | with_reducible exact lcm_R | with_reducible exact band_R | with_reducible exact bor_R | with_reducible exact bshr_R | with_reducible exact bshl_R | omega) (by first | with_reducible exact hI_R | with_reducible exact lcm_R | with_reducible exact band_R | with_reducible exact bor_R | with_reducible exact bshr_R | with_reducible exact bshl_R | omega) (fun hc => ?_) (fun hc => ?_)))) <;> (first | (exfalso; omega) | skip)
            refine Rch.blk' (Rn_mono mt _) bl_X4_rain_104 (i_lload rfl (i_iload rfl (i_iload rfl (t_cs2 (Rn_mono mt _) 113 rfl (Nat.le_of_ble_eq_true rfl) ?_))))
            refine c_X4_hasI i0 (by omega) k0 (by omega) (fun z => absurd z c) (fun _ => ?_)
            refine Rch.blk' (Rn_mono mt _) bl_X4_rain_113 (t_if_eq 120 116 rfl rfl (by first | with_reducible exact hI_R | with_reducible exact lcm_R | with_reducible exact band_R | with_reducible exact bor_R | with_reducible exact bshr_R | with_reducible exact bshl_R | omega) (fun hc => ?_) (fun hc => ?_)) <;> (first | (exfalso; omega) | skip)
            refine Rch.blk' (Rn_mono mt _) bl_X4_rain_120 (i_iload_n rfl (i_iconst k_1 (i_isub (i_i2l (t_none ?_)))))
            refine Rch.blk' (Rn_mono mt _) bl_X4_rain_124 (i_lmul (i_lstore10 trivial (i_aload_n rfl (i_gfs rfl (i_iconst k_5 (i_iload rfl (i_iload rfl (t_cs2 (Rn_mono mt _) 139 rfl (Nat.le_of_ble_eq_true rfl) ?_))))))))
            refine c_X4_hasI i0 (by omega) k0 (by omega) (fun z => absurd z c) (fun _ => ?_)
            refine Rch.blk' (Rn_mono mt _) bl_X4_rain_139 (t_if_eq 146 142 rfl rfl (by first | with_reducible exact hI_R | with_reducible exact lcm_R | with_reducible exact band_R | with_reducible exact bor_R | with_reducible exact bshr_R | with_reducible exact bshl_R | omega) (fun hc => ?_) (fun hc => ?_)) <;> (first | (exfalso; omega) | skip)
            refine Rch.blk' (Rn_mono mt _) bl_X4_rain_146 (i_iconst k_0 (t_none ?_))
            refine Rch.blk' (Rn_mono mt _) bl_X4_rain_147 (i_iast rfl rfl (by omega) (by simp only [aln]; omega) (by simp only [aln]; omega) (i_aload_n rfl (i_gfs rfl (t_cs1 (Rn_mono mt _) 155 rfl (Nat.le_of_ble_eq_true rfl) ?_))))
            refine c_X4_day (hV.set_r (z := 0) (j := Int.toNat 5) ⟨by omega, by omega⟩ rfl) hOV (Or.inl rfl) (by omega) (fun h4 hG4 hF4 => ?_)
            have kk := kk h4 hG4 ((FrR.ms hF2).tr hF4)
            repeat' (first
              | exact kk
              | (show Rn _ _ 110 _ _ _; refine c_X4_isPiece (by assumption) (by assumption) (by first | omega | exact hI_R) (fun _ _ => ?_) (fun _ => ?_))
              | (show Rn _ _ 105 _ _ _; refine c_X4_isIn (by first | omega | exact hI_R) (by first | omega | exact hI_R) (by first | omega | exact hI_R) (fun _ _ => ?_) (fun _ => ?_))
              | (show Rn _ _ 115 _ _ _; refine c_X4_has (by omega) (by omega) (fun _ => ?_) (fun _ => ?_))
              | (show Rn _ _ 114 _ _ _; refine c_X4_isHere (by assumption) (by assumption) (by omega) (by omega) (fun _ _ => ?_) (fun _ => ?_))
              | (show Rch _ _ _ _ _ 0 _ _ _; refine Rch.blk' (Rn_mono mt _) bl_X4_rain_0 (i_aload_n rfl (i_iload_n rfl (t_cv2 (Rn_mono mt _) 5 rfl (Nat.le_of_ble_eq_true rfl) ?_))))
              | (show Rch _ _ _ _ _ 5 _ _ _; refine Rch.blk' (Rn_mono mt _) bl_X4_rain_5 (t_if_eq 38 8 rfl rfl (by first | with_reducible exact hI_R | with_reducible exact lcm_R | with_reducible exact band_R | with_reducible exact bor_R | with_reducible exact bshr_R | with_reducible exact bshl_R | omega) (fun hc => ?_) (fun hc => ?_)) <;> (first | (exfalso; omega) | skip))
              | (show Rch _ _ _ _ _ 8 _ _ _; refine Rch.blk' (Rn_mono mt _) bl_X4_rain_8 (i_iload_n rfl (i_iconst k_0 (i_bipush k_7 (t_cs3 (Rn_mono mt _) 15 rfl (Nat.le_of_ble_eq_true rfl) ?_)))))
              | (show Rch _ _ _ _ _ 15 _ _ _; refine Rch.blk' (Rn_mono mt _) bl_X4_rain_15 (t_if_eq 38 18 rfl rfl (by first | with_reducible exact hI_R | with_reducible exact lcm_R | with_reducible exact band_R | with_reducible exact bor_R | with_reducible exact bshr_R | with_reducible exact bshl_R | omega) (fun hc => ?_) (fun hc => ?_)) <;> (first | (exfalso; omega) | skip))
              | (show Rch _ _ _ _ _ 18 _ _ _; refine Rch.blk' (Rn_mono mt _) bl_X4_rain_18 (i_iload_n rfl (i_iconst k_2 (i_bipush k_20 (t_cs3 (Rn_mono mt _) 25 rfl (Nat.le_of_ble_eq_true rfl) ?_)))))
              | (show Rch _ _ _ _ _ 25 _ _ _; refine Rch.blk' (Rn_mono mt _) bl_X4_rain_25 (t_if_eq 38 28 rfl rfl (by first | with_reducible exact hI_R | with_reducible exact lcm_R | with_reducible exact band_R | with_reducible exact bor_R | with_reducible exact bshr_R | with_reducible exact bshl_R | omega) (fun hc => ?_) (fun hc => ?_)) <;> (first | (exfalso; omega) | skip))
              | (show Rch _ _ _ _ _ 28 _ _ _; refine Rch.blk' (Rn_mono mt _) bl_X4_rain_28 (i_iload rfl (i_iconst k_0 (i_iconst k_1 (t_cs3 (Rn_mono mt _) 35 rfl (Nat.le_of_ble_eq_true rfl) ?_)))))
              | (show Rch _ _ _ _ _ 35 _ _ _; refine Rch.blk' (Rn_mono mt _) bl_X4_rain_35 (t_if_ne 42 38 rfl rfl (by first | with_reducible exact hI_R | with_reducible exact lcm_R | with_reducible exact band_R | with_reducible exact bor_R | with_reducible exact bshr_R | with_reducible exact bshl_R | omega) (fun hc => ?_) (fun hc => ?_)) <;> (first | (exfalso; omega) | skip))
              | (show Rch _ _ _ _ _ 38 _ _ _; refine Rch.blk' (Rn_mono mt _) bl_X4_rain_38 (i_ldc2 (t_lret ?_)))
              | (show Rch _ _ _ _ _ 42 _ _ _; refine Rch.blk' (Rn_mono mt _) bl_X4_rain_42 (i_lconst (i_lstore5 trivial (i_lconst (i_lstore7 trivial (i_iconst k_0 (i_istore9 trivial (t_none ?_))))))))
              | (show Rch _ _ _ _ _ 51 _ _ _; refine Rch.blk' (Rn_mono mt _) bl_X4_rain_51 (i_iload rfl (i_iload_n rfl (t_ic_ge 70 57 rfl rfl (by first | with_reducible exact hI_R | with_reducible exact lcm_R | with_reducible exact band_R | with_reducible exact bor_R | with_reducible exact bshr_R | with_reducible exact bshl_R | omega) (by first | with_reducible exact hI_R | with_reducible exact lcm_R | with_reducible exact band_R | with_reducible exact bor_R | with_reducible exact bshr_R | with_reducible exact bshl_R | omega) (fun hc => ?_) (fun hc => ?_)))) <;> (first | (exfalso; omega) | skip))
              | (show Rch _ _ _ _ _ 57 _ _ _; refine Rch.blk' (Rn_mono mt _) bl_X4_rain_57 (i_lload rfl (i_iload_n rfl (i_i2l (i_lmul (i_lstore7 trivial (i_iinc9 trivial k_1 (t_goto 51 rfl ?_))))))))
              | (show Rch _ _ _ _ _ 70 _ _ _; refine Rch.blk' (Rn_mono mt _) bl_X4_rain_70 (i_iconst k_0 (i_istore9 trivial (t_none ?_))))
              | (show Rch _ _ _ _ _ 73 _ _ _; refine Rch.blk' (Rn_mono mt _) bl_X4_rain_73 (i_iload rfl (i_iconst k_1 (i_iload_n rfl (i_ishl (t_ic_ge 189 81 rfl rfl (by first | with_reducible exact hI_R | with_reducible exact lcm_R | with_reducible exact band_R | with_reducible exact bor_R | with_reducible exact bshr_R | with_reducible exact bshl_R | omega) (by first | with_reducible exact hI_R | with_reducible exact lcm_R | with_reducible exact band_R | with_reducible exact bor_R | with_reducible exact bshr_R | with_reducible exact bshl_R | omega) (fun hc => ?_) (fun hc => ?_)))))) <;> (first | (exfalso; omega) | skip))
              | (show Rch _ _ _ _ _ 81 _ _ _; refine Rch.blk' (Rn_mono mt _) bl_X4_rain_81 (i_lconst (i_lstore10 trivial (i_aload_n rfl (i_gfs rfl (i_aload_n rfl (i_gfs rfl (t_cs2 (Rn_mono mt _) 95 rfl (Nat.le_of_ble_eq_true rfl) ?_))))))))
              | (show Rch _ _ _ _ _ 95 _ _ _; refine Rch.blk' (Rn_mono mt _) bl_X4_rain_95 (i_iconst k_0 (i_istore12 trivial (t_none ?_))))
              | (show Rch _ _ _ _ _ 104 _ _ _; refine Rch.blk' (Rn_mono mt _) bl_X4_rain_104 (i_lload rfl (i_iload rfl (i_iload rfl (t_cs2 (Rn_mono mt _) 113 rfl (Nat.le_of_ble_eq_true rfl) ?_)))))
              | (show Rch _ _ _ _ _ 113 _ _ _; refine Rch.blk' (Rn_mono mt _) bl_X4_rain_113 (t_if_eq 120 116 rfl rfl (by first | with_reducible exact hI_R | with_reducible exact lcm_R | with_reducible exact band_R | with_reducible exact bor_R | with_reducible exact bshr_R | with_reducible exact bshl_R | omega) (fun hc => ?_) (fun hc => ?_)) <;> (first | (exfalso; omega) | skip))
              | (show Rch _ _ _ _ _ 116 _ _ _; refine Rch.blk' (Rn_mono mt _) bl_X4_rain_116 (i_lconst (t_goto 124 rfl ?_)))
              | (show Rch _ _ _ _ _ 120 _ _ _; refine Rch.blk' (Rn_mono mt _) bl_X4_rain_120 (i_iload_n rfl (i_iconst k_1 (i_isub (i_i2l (t_none ?_))))))
              | (show Rch _ _ _ _ _ 124 _ _ _; refine Rch.blk' (Rn_mono mt _) bl_X4_rain_124 (i_lmul (i_lstore10 trivial (i_aload_n rfl (i_gfs rfl (i_iconst k_5 (i_iload rfl (i_iload rfl (t_cs2 (Rn_mono mt _) 139 rfl (Nat.le_of_ble_eq_true rfl) ?_)))))))))
              | (show Rch _ _ _ _ _ 139 _ _ _; refine Rch.blk' (Rn_mono mt _) bl_X4_rain_139 (t_if_eq 146 142 rfl rfl (by first | with_reducible exact hI_R | with_reducible exact lcm_R | with_reducible exact band_R | with_reducible exact bor_R | with_reducible exact bshr_R | with_reducible exact bshl_R | omega) (fun hc => ?_) (fun hc => ?_)) <;> (first | (exfalso; omega) | skip))
              | (show Rch _ _ _ _ _ 142 _ _ _; refine Rch.blk' (Rn_mono mt _) bl_X4_rain_142 (i_iconst k_1 (t_goto 147 rfl ?_)))
              | (show Rch _ _ _ _ _ 146 _ _ _; refine Rch.blk' (Rn_mono mt _) bl_X4_rain_146 (i_iconst k_0 (t_none ?_)))
              | (show Rch _ _ _ _ _ 147 _ _ _; refine Rch.blk' (Rn_mono mt _) bl_X4_rain_147 (i_iast rfl rfl (by omega) (by simp only [aln]; omega) (by simp only [aln]; omega) (i_aload_n rfl (i_gfs rfl (t_cs1 (Rn_mono mt _) 155 rfl (Nat.le_of_ble_eq_true rfl) ?_)))))
              | (show Rch _ _ _ _ _ 155 _ _ _; refine Rch.blk' (Rn_mono mt _) bl_X4_rain_155 (i_iinc12 trivial k_1 (t_goto 98 rfl ?_)))
              | (show Rch _ _ _ _ _ 161 _ _ _; refine Rch.blk' (Rn_mono mt _) bl_X4_rain_161 (i_lload rfl (i_aload_n rfl (i_gfs rfl (i_iload_n rfl (t_cs2 (Rn_mono mt _) 171 rfl (Nat.le_of_ble_eq_true rfl) ?_))))))
              | (show Rch _ _ _ _ _ 171 _ _ _; refine Rch.blk' (Rn_mono mt _) bl_X4_rain_171 (t_if_eq 179 174 rfl rfl (by first | with_reducible exact hI_R | with_reducible exact lcm_R | with_reducible exact band_R | with_reducible exact bor_R | with_reducible exact bshr_R | with_reducible exact bshl_R | omega) (fun hc => ?_) (fun hc => ?_)) <;> (first | (exfalso; omega) | skip))
              | (show Rch _ _ _ _ _ 174 _ _ _; refine Rch.blk' (Rn_mono mt _) bl_X4_rain_174 (i_lload rfl (t_goto 180 rfl ?_)))
              | (show Rch _ _ _ _ _ 179 _ _ _; refine Rch.blk' (Rn_mono mt _) bl_X4_rain_179 (i_lconst (t_none ?_)))
              | (show Rch _ _ _ _ _ 180 _ _ _; refine Rch.blk' (Rn_mono mt _) bl_X4_rain_180 (i_ladd (i_lstore5 trivial (i_iinc9 trivial k_1 (t_goto 73 rfl ?_)))))
              | (show Rch _ _ _ _ _ 189 _ _ _; refine Rch.blk' (Rn_mono mt _) bl_X4_rain_189 (i_lload rfl (i_lload rfl (i_iload rfl (t_cs3 (Rn_mono mt _) 198 rfl (Nat.le_of_ble_eq_true rfl) ?_)))))
              | (show Rch _ _ _ _ _ 198 _ _ _; refine Rch.blk' (Rn_mono mt _) bl_X4_rain_198 (t_lret ?_)))
        · obtain rfl : k = n := by omega
          rw [show (k - k).toNat = 0 by omega] at hW
          have hW : wt * (if sq V p = 36 then (0 : Int) else 1) = Fy p t k.toNat G i.toNat := hW
          have hih := ih (some (al (L wt))) none (some (ai (I k))) h2 hF2
          clear ih jh hq k1
          refine Rch.blk' (Rn_mono mt _) bl_X4_rain_98 (i_iload rfl (i_iload_n rfl (t_ic_ge 161 104 rfl rfl (by first | with_reducible exact hI_R | with_reducible exact lcm_R | with_reducible exact band_R | with_reducible exact bor_R | with_reducible exact bshr_R | with_reducible exact bshl_R | omega) (by first | with_reducible exact hI_R | with_reducible exact lcm_R | with_reducible exact band_R | with_reducible exact bor_R | with_reducible exact bshr_R | with_reducible exact bshl_R | omega) (fun hc => ?_) (fun hc => ?_)))) <;> (first | (exfalso; omega) | skip)
          refine Rch.blk' (Rn_mono mt _) bl_X4_rain_161 (i_lload rfl (i_aload_n rfl (i_gfs rfl (i_iload_n rfl (t_cs2 (Rn_mono mt _) 171 rfl (Nat.le_of_ble_eq_true rfl) ?_)))))
          refine c_X4_isHere hV hOV p0 (by omega) (fun _ c => ?_) (fun c => ?_)
          · rw [if_neg (by omega), Int.mul_one] at hW
            rw [← hW, ← L_add] at hih
            repeat' (first
              | exact hih
              | (show Rn _ _ 110 _ _ _; refine c_X4_isPiece (by assumption) (by assumption) (by first | omega | exact hI_R) (fun _ _ => ?_) (fun _ => ?_))
              | (show Rn _ _ 105 _ _ _; refine c_X4_isIn (by first | omega | exact hI_R) (by first | omega | exact hI_R) (by first | omega | exact hI_R) (fun _ _ => ?_) (fun _ => ?_))
              | (show Rn _ _ 115 _ _ _; refine c_X4_has (by omega) (by omega) (fun _ => ?_) (fun _ => ?_))
              | (show Rn _ _ 114 _ _ _; refine c_X4_isHere (by assumption) (by assumption) (by omega) (by omega) (fun _ _ => ?_) (fun _ => ?_))
              | (show Rch _ _ _ _ _ 0 _ _ _; refine Rch.blk' (Rn_mono mt _) bl_X4_rain_0 (i_aload_n rfl (i_iload_n rfl (t_cv2 (Rn_mono mt _) 5 rfl (Nat.le_of_ble_eq_true rfl) ?_))))
              | (show Rch _ _ _ _ _ 5 _ _ _; refine Rch.blk' (Rn_mono mt _) bl_X4_rain_5 (t_if_eq 38 8 rfl rfl (by first | with_reducible exact hI_R | with_reducible exact lcm_R | with_reducible exact band_R | with_reducible exact bor_R | with_reducible exact bshr_R | with_reducible exact bshl_R | omega) (fun hc => ?_) (fun hc => ?_)) <;> (first | (exfalso; omega) | skip))
              | (show Rch _ _ _ _ _ 8 _ _ _; refine Rch.blk' (Rn_mono mt _) bl_X4_rain_8 (i_iload_n rfl (i_iconst k_0 (i_bipush k_7 (t_cs3 (Rn_mono mt _) 15 rfl (Nat.le_of_ble_eq_true rfl) ?_)))))
              | (show Rch _ _ _ _ _ 15 _ _ _; refine Rch.blk' (Rn_mono mt _) bl_X4_rain_15 (t_if_eq 38 18 rfl rfl (by first | with_reducible exact hI_R | with_reducible exact lcm_R | with_reducible exact band_R | with_reducible exact bor_R | with_reducible exact bshr_R | with_reducible exact bshl_R | omega) (fun hc => ?_) (fun hc => ?_)) <;> (first | (exfalso; omega) | skip))
              | (show Rch _ _ _ _ _ 18 _ _ _; refine Rch.blk' (Rn_mono mt _) bl_X4_rain_18 (i_iload_n rfl (i_iconst k_2 (i_bipush k_20 (t_cs3 (Rn_mono mt _) 25 rfl (Nat.le_of_ble_eq_true rfl) ?_)))))
              | (show Rch _ _ _ _ _ 25 _ _ _; refine Rch.blk' (Rn_mono mt _) bl_X4_rain_25 (t_if_eq 38 28 rfl rfl (by first | with_reducible exact hI_R | with_reducible exact lcm_R | with_reducible exact band_R | with_reducible exact bor_R | with_reducible exact bshr_R | with_reducible exact bshl_R | omega) (fun hc => ?_) (fun hc => ?_)) <;> (first | (exfalso; omega) | skip))
              | (show Rch _ _ _ _ _ 28 _ _ _; refine Rch.blk' (Rn_mono mt _) bl_X4_rain_28 (i_iload rfl (i_iconst k_0 (i_iconst k_1 (t_cs3 (Rn_mono mt _) 35 rfl (Nat.le_of_ble_eq_true rfl) ?_)))))
              | (show Rch _ _ _ _ _ 35 _ _ _; refine Rch.blk' (Rn_mono mt _) bl_X4_rain_35 (t_if_ne 42 38 rfl rfl (by first | with_reducible exact hI_R | with_reducible exact lcm_R | with_reducible exact band_R | with_reducible exact bor_R | with_reducible exact bshr_R | with_reducible exact bshl_R | omega) (fun hc => ?_) (fun hc => ?_)) <;> (first | (exfalso; omega) | skip))
              | (show Rch _ _ _ _ _ 38 _ _ _; refine Rch.blk' (Rn_mono mt _) bl_X4_rain_38 (i_ldc2 (t_lret ?_)))
              | (show Rch _ _ _ _ _ 42 _ _ _; refine Rch.blk' (Rn_mono mt _) bl_X4_rain_42 (i_lconst (i_lstore5 trivial (i_lconst (i_lstore7 trivial (i_iconst k_0 (i_istore9 trivial (t_none ?_))))))))
              | (show Rch _ _ _ _ _ 51 _ _ _; refine Rch.blk' (Rn_mono mt _) bl_X4_rain_51 (i_iload rfl (i_iload_n rfl (t_ic_ge 70 57 rfl rfl (by first | with_reducible exact hI_R | with_reducible exact lcm_R | with_reducible exact band_R | with_reducible exact bor_R | with_reducible exact bshr_R | with_reducible exact bshl_R | omega) (by first | with_reducible exact hI_R | with_reducible exact lcm_R | with_reducible exact band_R | with_reducible exact bor_R | with_reducible exact bshr_R | with_reducible exact bshl_R | omega) (fun hc => ?_) (fun hc => ?_)))) <;> (first | (exfalso; omega) | skip))
              | (show Rch _ _ _ _ _ 57 _ _ _; refine Rch.blk' (Rn_mono mt _) bl_X4_rain_57 (i_lload rfl (i_iload_n rfl (i_i2l (i_lmul (i_lstore7 trivial (i_iinc9 trivial k_1 (t_goto 51 rfl ?_))))))))
              | (show Rch _ _ _ _ _ 70 _ _ _; refine Rch.blk' (Rn_mono mt _) bl_X4_rain_70 (i_iconst k_0 (i_istore9 trivial (t_none ?_))))
              | (show Rch _ _ _ _ _ 81 _ _ _; refine Rch.blk' (Rn_mono mt _) bl_X4_rain_81 (i_lconst (i_lstore10 trivial (i_aload_n rfl (i_gfs rfl (i_aload_n rfl (i_gfs rfl (t_cs2 (Rn_mono mt _) 95 rfl (Nat.le_of_ble_eq_true rfl) ?_))))))))
              | (show Rch _ _ _ _ _ 95 _ _ _; refine Rch.blk' (Rn_mono mt _) bl_X4_rain_95 (i_iconst k_0 (i_istore12 trivial (t_none ?_))))
              | (show Rch _ _ _ _ _ 104 _ _ _; refine Rch.blk' (Rn_mono mt _) bl_X4_rain_104 (i_lload rfl (i_iload rfl (i_iload rfl (t_cs2 (Rn_mono mt _) 113 rfl (Nat.le_of_ble_eq_true rfl) ?_)))))
              | (show Rch _ _ _ _ _ 113 _ _ _; refine Rch.blk' (Rn_mono mt _) bl_X4_rain_113 (t_if_eq 120 116 rfl rfl (by first | with_reducible exact hI_R | with_reducible exact lcm_R | with_reducible exact band_R | with_reducible exact bor_R | with_reducible exact bshr_R | with_reducible exact bshl_R | omega) (fun hc => ?_) (fun hc => ?_)) <;> (first | (exfalso; omega) | skip))
              | (show Rch _ _ _ _ _ 116 _ _ _; refine Rch.blk' (Rn_mono mt _) bl_X4_rain_116 (i_lconst (t_goto 124 rfl ?_)))
              | (show Rch _ _ _ _ _ 120 _ _ _; refine Rch.blk' (Rn_mono mt _) bl_X4_rain_120 (i_iload_n rfl (i_iconst k_1 (i_isub (i_i2l (t_none ?_))))))
              | (show Rch _ _ _ _ _ 124 _ _ _; refine Rch.blk' (Rn_mono mt _) bl_X4_rain_124 (i_lmul (i_lstore10 trivial (i_aload_n rfl (i_gfs rfl (i_iconst k_5 (i_iload rfl (i_iload rfl (t_cs2 (Rn_mono mt _) 139 rfl (Nat.le_of_ble_eq_true rfl) ?_)))))))))
              | (show Rch _ _ _ _ _ 139 _ _ _; refine Rch.blk' (Rn_mono mt _) bl_X4_rain_139 (t_if_eq 146 142 rfl rfl (by first | with_reducible exact hI_R | with_reducible exact lcm_R | with_reducible exact band_R | with_reducible exact bor_R | with_reducible exact bshr_R | with_reducible exact bshl_R | omega) (fun hc => ?_) (fun hc => ?_)) <;> (first | (exfalso; omega) | skip))
              | (show Rch _ _ _ _ _ 142 _ _ _; refine Rch.blk' (Rn_mono mt _) bl_X4_rain_142 (i_iconst k_1 (t_goto 147 rfl ?_)))
              | (show Rch _ _ _ _ _ 146 _ _ _; refine Rch.blk' (Rn_mono mt _) bl_X4_rain_146 (i_iconst k_0 (t_none ?_)))
              | (show Rch _ _ _ _ _ 147 _ _ _; refine Rch.blk' (Rn_mono mt _) bl_X4_rain_147 (i_iast rfl rfl (by omega) (by simp only [aln]; omega) (by simp only [aln]; omega) (i_aload_n rfl (i_gfs rfl (t_cs1 (Rn_mono mt _) 155 rfl (Nat.le_of_ble_eq_true rfl) ?_)))))
              | (show Rch _ _ _ _ _ 155 _ _ _; refine Rch.blk' (Rn_mono mt _) bl_X4_rain_155 (i_iinc12 trivial k_1 (t_goto 98 rfl ?_)))
              | (show Rch _ _ _ _ _ 161 _ _ _; refine Rch.blk' (Rn_mono mt _) bl_X4_rain_161 (i_lload rfl (i_aload_n rfl (i_gfs rfl (i_iload_n rfl (t_cs2 (Rn_mono mt _) 171 rfl (Nat.le_of_ble_eq_true rfl) ?_))))))
              | (show Rch _ _ _ _ _ 171 _ _ _; refine Rch.blk' (Rn_mono mt _) bl_X4_rain_171 (t_if_eq 179 174 rfl rfl (by first | with_reducible exact hI_R | with_reducible exact lcm_R | with_reducible exact band_R | with_reducible exact bor_R | with_reducible exact bshr_R | with_reducible exact bshl_R | omega) (fun hc => ?_) (fun hc => ?_)) <;> (first | (exfalso; omega) | skip))
              | (show Rch _ _ _ _ _ 174 _ _ _; refine Rch.blk' (Rn_mono mt _) bl_X4_rain_174 (i_lload rfl (t_goto 180 rfl ?_)))
              | (show Rch _ _ _ _ _ 179 _ _ _; refine Rch.blk' (Rn_mono mt _) bl_X4_rain_179 (i_lconst (t_none ?_)))
              | (show Rch _ _ _ _ _ 180 _ _ _; refine Rch.blk' (Rn_mono mt _) bl_X4_rain_180 (i_ladd (i_lstore5 trivial (i_iinc9 trivial k_1 (t_goto 73 rfl ?_)))))
              | (show Rch _ _ _ _ _ 189 _ _ _; refine Rch.blk' (Rn_mono mt _) bl_X4_rain_189 (i_lload rfl (i_lload rfl (i_iload rfl (t_cs3 (Rn_mono mt _) 198 rfl (Nat.le_of_ble_eq_true rfl) ?_)))))
              | (show Rch _ _ _ _ _ 198 _ _ _; refine Rch.blk' (Rn_mono mt _) bl_X4_rain_198 (t_lret ?_)))
          · rw [if_pos c, Int.mul_zero] at hW
            rw [← hW, ← L_add, ← l_0] at hih
            repeat' (first
              | exact hih
              | (show Rn _ _ 110 _ _ _; refine c_X4_isPiece (by assumption) (by assumption) (by first | omega | exact hI_R) (fun _ _ => ?_) (fun _ => ?_))
              | (show Rn _ _ 105 _ _ _; refine c_X4_isIn (by first | omega | exact hI_R) (by first | omega | exact hI_R) (by first | omega | exact hI_R) (fun _ _ => ?_) (fun _ => ?_))
              | (show Rn _ _ 115 _ _ _; refine c_X4_has (by omega) (by omega) (fun _ => ?_) (fun _ => ?_))
              | (show Rn _ _ 114 _ _ _; refine c_X4_isHere (by assumption) (by assumption) (by omega) (by omega) (fun _ _ => ?_) (fun _ => ?_))
              | (show Rch _ _ _ _ _ 0 _ _ _; refine Rch.blk' (Rn_mono mt _) bl_X4_rain_0 (i_aload_n rfl (i_iload_n rfl (t_cv2 (Rn_mono mt _) 5 rfl (Nat.le_of_ble_eq_true rfl) ?_))))
              | (show Rch _ _ _ _ _ 5 _ _ _; refine Rch.blk' (Rn_mono mt _) bl_X4_rain_5 (t_if_eq 38 8 rfl rfl (by first | with_reducible exact hI_R | with_reducible exact lcm_R | with_reducible exact band_R | with_reducible exact bor_R | with_reducible exact bshr_R | with_reducible exact bshl_R | omega) (fun hc => ?_) (fun hc => ?_)) <;> (first | (exfalso; omega) | skip))
              | (show Rch _ _ _ _ _ 8 _ _ _; refine Rch.blk' (Rn_mono mt _) bl_X4_rain_8 (i_iload_n rfl (i_iconst k_0 (i_bipush k_7 (t_cs3 (Rn_mono mt _) 15 rfl (Nat.le_of_ble_eq_true rfl) ?_)))))
              | (show Rch _ _ _ _ _ 15 _ _ _; refine Rch.blk' (Rn_mono mt _) bl_X4_rain_15 (t_if_eq 38 18 rfl rfl (by first | with_reducible exact hI_R | with_reducible exact lcm_R | with_reducible exact band_R | with_reducible exact bor_R | with_reducible exact bshr_R | with_reducible exact bshl_R | omega) (fun hc => ?_) (fun hc => ?_)) <;> (first | (exfalso; omega) | skip))
              | (show Rch _ _ _ _ _ 18 _ _ _; refine Rch.blk' (Rn_mono mt _) bl_X4_rain_18 (i_iload_n rfl (i_iconst k_2 (i_bipush k_20 (t_cs3 (Rn_mono mt _) 25 rfl (Nat.le_of_ble_eq_true rfl) ?_)))))
              | (show Rch _ _ _ _ _ 25 _ _ _; refine Rch.blk' (Rn_mono mt _) bl_X4_rain_25 (t_if_eq 38 28 rfl rfl (by first | with_reducible exact hI_R | with_reducible exact lcm_R | with_reducible exact band_R | with_reducible exact bor_R | with_reducible exact bshr_R | with_reducible exact bshl_R | omega) (fun hc => ?_) (fun hc => ?_)) <;> (first | (exfalso; omega) | skip))
              | (show Rch _ _ _ _ _ 28 _ _ _; refine Rch.blk' (Rn_mono mt _) bl_X4_rain_28 (i_iload rfl (i_iconst k_0 (i_iconst k_1 (t_cs3 (Rn_mono mt _) 35 rfl (Nat.le_of_ble_eq_true rfl) ?_)))))
              | (show Rch _ _ _ _ _ 35 _ _ _; refine Rch.blk' (Rn_mono mt _) bl_X4_rain_35 (t_if_ne 42 38 rfl rfl (by first | with_reducible exact hI_R | with_reducible exact lcm_R | with_reducible exact band_R | with_reducible exact bor_R | with_reducible exact bshr_R | with_reducible exact bshl_R | omega) (fun hc => ?_) (fun hc => ?_)) <;> (first | (exfalso; omega) | skip))
              | (show Rch _ _ _ _ _ 38 _ _ _; refine Rch.blk' (Rn_mono mt _) bl_X4_rain_38 (i_ldc2 (t_lret ?_)))
              | (show Rch _ _ _ _ _ 42 _ _ _; refine Rch.blk' (Rn_mono mt _) bl_X4_rain_42 (i_lconst (i_lstore5 trivial (i_lconst (i_lstore7 trivial (i_iconst k_0 (i_istore9 trivial (t_none ?_))))))))
              | (show Rch _ _ _ _ _ 51 _ _ _; refine Rch.blk' (Rn_mono mt _) bl_X4_rain_51 (i_iload rfl (i_iload_n rfl (t_ic_ge 70 57 rfl rfl (by first | with_reducible exact hI_R | with_reducible exact lcm_R | with_reducible exact band_R | with_reducible exact bor_R | with_reducible exact bshr_R | with_reducible exact bshl_R | omega) (by first | with_reducible exact hI_R | with_reducible exact lcm_R | with_reducible exact band_R | with_reducible exact bor_R | with_reducible exact bshr_R | with_reducible exact bshl_R | omega) (fun hc => ?_) (fun hc => ?_)))) <;> (first | (exfalso; omega) | skip))
              | (show Rch _ _ _ _ _ 57 _ _ _; refine Rch.blk' (Rn_mono mt _) bl_X4_rain_57 (i_lload rfl (i_iload_n rfl (i_i2l (i_lmul (i_lstore7 trivial (i_iinc9 trivial k_1 (t_goto 51 rfl ?_))))))))
              | (show Rch _ _ _ _ _ 70 _ _ _; refine Rch.blk' (Rn_mono mt _) bl_X4_rain_70 (i_iconst k_0 (i_istore9 trivial (t_none ?_))))
              | (show Rch _ _ _ _ _ 81 _ _ _; refine Rch.blk' (Rn_mono mt _) bl_X4_rain_81 (i_lconst (i_lstore10 trivial (i_aload_n rfl (i_gfs rfl (i_aload_n rfl (i_gfs rfl (t_cs2 (Rn_mono mt _) 95 rfl (Nat.le_of_ble_eq_true rfl) ?_))))))))
              | (show Rch _ _ _ _ _ 95 _ _ _; refine Rch.blk' (Rn_mono mt _) bl_X4_rain_95 (i_iconst k_0 (i_istore12 trivial (t_none ?_))))
              | (show Rch _ _ _ _ _ 104 _ _ _; refine Rch.blk' (Rn_mono mt _) bl_X4_rain_104 (i_lload rfl (i_iload rfl (i_iload rfl (t_cs2 (Rn_mono mt _) 113 rfl (Nat.le_of_ble_eq_true rfl) ?_)))))
              | (show Rch _ _ _ _ _ 113 _ _ _; refine Rch.blk' (Rn_mono mt _) bl_X4_rain_113 (t_if_eq 120 116 rfl rfl (by first | with_reducible exact hI_R | with_reducible exact lcm_R | with_reducible exact band_R | with_reducible exact bor_R | with_reducible exact bshr_R | with_reducible exact bshl_R | omega) (fun hc => ?_) (fun hc => ?_)) <;> (first | (exfalso; omega) | skip))
              | (show Rch _ _ _ _ _ 116 _ _ _; refine Rch.blk' (Rn_mono mt _) bl_X4_rain_116 (i_lconst (t_goto 124 rfl ?_)))
              | (show Rch _ _ _ _ _ 120 _ _ _; refine Rch.blk' (Rn_mono mt _) bl_X4_rain_120 (i_iload_n rfl (i_iconst k_1 (i_isub (i_i2l (t_none ?_))))))
              | (show Rch _ _ _ _ _ 124 _ _ _; refine Rch.blk' (Rn_mono mt _) bl_X4_rain_124 (i_lmul (i_lstore10 trivial (i_aload_n rfl (i_gfs rfl (i_iconst k_5 (i_iload rfl (i_iload rfl (t_cs2 (Rn_mono mt _) 139 rfl (Nat.le_of_ble_eq_true rfl) ?_)))))))))
              | (show Rch _ _ _ _ _ 139 _ _ _; refine Rch.blk' (Rn_mono mt _) bl_X4_rain_139 (t_if_eq 146 142 rfl rfl (by first | with_reducible exact hI_R | with_reducible exact lcm_R | with_reducible exact band_R | with_reducible exact bor_R | with_reducible exact bshr_R | with_reducible exact bshl_R | omega) (fun hc => ?_) (fun hc => ?_)) <;> (first | (exfalso; omega) | skip))
              | (show Rch _ _ _ _ _ 142 _ _ _; refine Rch.blk' (Rn_mono mt _) bl_X4_rain_142 (i_iconst k_1 (t_goto 147 rfl ?_)))
              | (show Rch _ _ _ _ _ 146 _ _ _; refine Rch.blk' (Rn_mono mt _) bl_X4_rain_146 (i_iconst k_0 (t_none ?_)))
              | (show Rch _ _ _ _ _ 147 _ _ _; refine Rch.blk' (Rn_mono mt _) bl_X4_rain_147 (i_iast rfl rfl (by omega) (by simp only [aln]; omega) (by simp only [aln]; omega) (i_aload_n rfl (i_gfs rfl (t_cs1 (Rn_mono mt _) 155 rfl (Nat.le_of_ble_eq_true rfl) ?_)))))
              | (show Rch _ _ _ _ _ 155 _ _ _; refine Rch.blk' (Rn_mono mt _) bl_X4_rain_155 (i_iinc12 trivial k_1 (t_goto 98 rfl ?_)))
              | (show Rch _ _ _ _ _ 161 _ _ _; refine Rch.blk' (Rn_mono mt _) bl_X4_rain_161 (i_lload rfl (i_aload_n rfl (i_gfs rfl (i_iload_n rfl (t_cs2 (Rn_mono mt _) 171 rfl (Nat.le_of_ble_eq_true rfl) ?_))))))
              | (show Rch _ _ _ _ _ 171 _ _ _; refine Rch.blk' (Rn_mono mt _) bl_X4_rain_171 (t_if_eq 179 174 rfl rfl (by first | with_reducible exact hI_R | with_reducible exact lcm_R | with_reducible exact band_R | with_reducible exact bor_R | with_reducible exact bshr_R | with_reducible exact bshl_R | omega) (fun hc => ?_) (fun hc => ?_)) <;> (first | (exfalso; omega) | skip))
              | (show Rch _ _ _ _ _ 174 _ _ _; refine Rch.blk' (Rn_mono mt _) bl_X4_rain_174 (i_lload rfl (t_goto 180 rfl ?_)))
              | (show Rch _ _ _ _ _ 179 _ _ _; refine Rch.blk' (Rn_mono mt _) bl_X4_rain_179 (i_lconst (t_none ?_)))
              | (show Rch _ _ _ _ _ 180 _ _ _; refine Rch.blk' (Rn_mono mt _) bl_X4_rain_180 (i_ladd (i_lstore5 trivial (i_iinc9 trivial k_1 (t_goto 73 rfl ?_)))))
              | (show Rch _ _ _ _ _ 189 _ _ _; refine Rch.blk' (Rn_mono mt _) bl_X4_rain_189 (i_lload rfl (i_lload rfl (i_iload rfl (t_cs3 (Rn_mono mt _) 198 rfl (Nat.le_of_ble_eq_true rfl) ?_)))))
              | (show Rch _ _ _ _ _ 198 _ _ _; refine Rch.blk' (Rn_mono mt _) bl_X4_rain_198 (t_lret ?_)))
      clear ih hq k1
      have i98 := fun h2 a b => inner 0 (by omega) (by omega) 1 G 0 h2 a hO rfl (by omega) b (by
        rw [Int.one_mul, show (n - 0).toNat = n.toNat by omega, show Int.toNat 0 = 0 from rfl, Nat.pow_zero, Nat.div_one])
      rw [← l_1] at i98
      clear inner
      refine Rch.blk' (Rn_mono mt _) bl_X4_rain_73 (i_iload rfl (i_iconst k_1 (i_iload_n rfl (i_ishl (t_ic_ge 189 81 rfl rfl (by first | with_reducible exact hI_R | with_reducible exact lcm_R | with_reducible exact band_R | with_reducible exact bor_R | with_reducible exact bshr_R | with_reducible exact bshl_R | omega) (by first | with_reducible exact hI_R | with_reducible exact lcm_R | with_reducible exact band_R | with_reducible exact bor_R | with_reducible exact bshr_R | with_reducible exact bshl_R | omega) (fun hc => ?_) (fun hc => ?_)))))) <;> (first | (exfalso; omega) | skip)
      refine Rch.blk' (Rn_mono mt _) bl_X4_rain_81 (i_lconst (i_lstore10 trivial (i_aload_n rfl (i_gfs rfl (i_aload_n rfl (i_gfs rfl (t_cs2 (Rn_mono mt _) 95 rfl (Nat.le_of_ble_eq_true rfl) ?_)))))))
      refine c_X4_copies hR hO (by decide) (fun h2 hG2 hF2 => ?_)
      have i98 := i98 h2 hG2 (hF.tr hF2)
      repeat' (first
        | exact i98
        | (show Rn _ _ 110 _ _ _; refine c_X4_isPiece (by assumption) (by assumption) (by first | omega | exact hI_R) (fun _ _ => ?_) (fun _ => ?_))
        | (show Rn _ _ 105 _ _ _; refine c_X4_isIn (by first | omega | exact hI_R) (by first | omega | exact hI_R) (by first | omega | exact hI_R) (fun _ _ => ?_) (fun _ => ?_))
        | (show Rn _ _ 115 _ _ _; refine c_X4_has (by omega) (by omega) (fun _ => ?_) (fun _ => ?_))
        | (show Rn _ _ 114 _ _ _; refine c_X4_isHere (by assumption) (by assumption) (by omega) (by omega) (fun _ _ => ?_) (fun _ => ?_))
        | (show Rch _ _ _ _ _ 0 _ _ _; refine Rch.blk' (Rn_mono mt _) bl_X4_rain_0 (i_aload_n rfl (i_iload_n rfl (t_cv2 (Rn_mono mt _) 5 rfl (Nat.le_of_ble_eq_true rfl) ?_))))
        | (show Rch _ _ _ _ _ 5 _ _ _; refine Rch.blk' (Rn_mono mt _) bl_X4_rain_5 (t_if_eq 38 8 rfl rfl (by first | with_reducible exact hI_R | with_reducible exact lcm_R | with_reducible exact band_R | with_reducible exact bor_R | with_reducible exact bshr_R | with_reducible exact bshl_R | omega) (fun hc => ?_) (fun hc => ?_)) <;> (first | (exfalso; omega) | skip))
        | (show Rch _ _ _ _ _ 8 _ _ _; refine Rch.blk' (Rn_mono mt _) bl_X4_rain_8 (i_iload_n rfl (i_iconst k_0 (i_bipush k_7 (t_cs3 (Rn_mono mt _) 15 rfl (Nat.le_of_ble_eq_true rfl) ?_)))))
        | (show Rch _ _ _ _ _ 15 _ _ _; refine Rch.blk' (Rn_mono mt _) bl_X4_rain_15 (t_if_eq 38 18 rfl rfl (by first | with_reducible exact hI_R | with_reducible exact lcm_R | with_reducible exact band_R | with_reducible exact bor_R | with_reducible exact bshr_R | with_reducible exact bshl_R | omega) (fun hc => ?_) (fun hc => ?_)) <;> (first | (exfalso; omega) | skip))
        | (show Rch _ _ _ _ _ 18 _ _ _; refine Rch.blk' (Rn_mono mt _) bl_X4_rain_18 (i_iload_n rfl (i_iconst k_2 (i_bipush k_20 (t_cs3 (Rn_mono mt _) 25 rfl (Nat.le_of_ble_eq_true rfl) ?_)))))
        | (show Rch _ _ _ _ _ 25 _ _ _; refine Rch.blk' (Rn_mono mt _) bl_X4_rain_25 (t_if_eq 38 28 rfl rfl (by first | with_reducible exact hI_R | with_reducible exact lcm_R | with_reducible exact band_R | with_reducible exact bor_R | with_reducible exact bshr_R | with_reducible exact bshl_R | omega) (fun hc => ?_) (fun hc => ?_)) <;> (first | (exfalso; omega) | skip))
        | (show Rch _ _ _ _ _ 28 _ _ _; refine Rch.blk' (Rn_mono mt _) bl_X4_rain_28 (i_iload rfl (i_iconst k_0 (i_iconst k_1 (t_cs3 (Rn_mono mt _) 35 rfl (Nat.le_of_ble_eq_true rfl) ?_)))))
        | (show Rch _ _ _ _ _ 35 _ _ _; refine Rch.blk' (Rn_mono mt _) bl_X4_rain_35 (t_if_ne 42 38 rfl rfl (by first | with_reducible exact hI_R | with_reducible exact lcm_R | with_reducible exact band_R | with_reducible exact bor_R | with_reducible exact bshr_R | with_reducible exact bshl_R | omega) (fun hc => ?_) (fun hc => ?_)) <;> (first | (exfalso; omega) | skip))
        | (show Rch _ _ _ _ _ 38 _ _ _; refine Rch.blk' (Rn_mono mt _) bl_X4_rain_38 (i_ldc2 (t_lret ?_)))
        | (show Rch _ _ _ _ _ 42 _ _ _; refine Rch.blk' (Rn_mono mt _) bl_X4_rain_42 (i_lconst (i_lstore5 trivial (i_lconst (i_lstore7 trivial (i_iconst k_0 (i_istore9 trivial (t_none ?_))))))))
        | (show Rch _ _ _ _ _ 51 _ _ _; refine Rch.blk' (Rn_mono mt _) bl_X4_rain_51 (i_iload rfl (i_iload_n rfl (t_ic_ge 70 57 rfl rfl (by first | with_reducible exact hI_R | with_reducible exact lcm_R | with_reducible exact band_R | with_reducible exact bor_R | with_reducible exact bshr_R | with_reducible exact bshl_R | omega) (by first | with_reducible exact hI_R | with_reducible exact lcm_R | with_reducible exact band_R | with_reducible exact bor_R | with_reducible exact bshr_R | with_reducible exact bshl_R | omega) (fun hc => ?_) (fun hc => ?_)))) <;> (first | (exfalso; omega) | skip))
        | (show Rch _ _ _ _ _ 57 _ _ _; refine Rch.blk' (Rn_mono mt _) bl_X4_rain_57 (i_lload rfl (i_iload_n rfl (i_i2l (i_lmul (i_lstore7 trivial (i_iinc9 trivial k_1 (t_goto 51 rfl ?_))))))))
        | (show Rch _ _ _ _ _ 70 _ _ _; refine Rch.blk' (Rn_mono mt _) bl_X4_rain_70 (i_iconst k_0 (i_istore9 trivial (t_none ?_))))
        | (show Rch _ _ _ _ _ 81 _ _ _; refine Rch.blk' (Rn_mono mt _) bl_X4_rain_81 (i_lconst (i_lstore10 trivial (i_aload_n rfl (i_gfs rfl (i_aload_n rfl (i_gfs rfl (t_cs2 (Rn_mono mt _) 95 rfl (Nat.le_of_ble_eq_true rfl) ?_))))))))
        | (show Rch _ _ _ _ _ 95 _ _ _; refine Rch.blk' (Rn_mono mt _) bl_X4_rain_95 (i_iconst k_0 (i_istore12 trivial (t_none ?_))))
        | (show Rch _ _ _ _ _ 104 _ _ _; refine Rch.blk' (Rn_mono mt _) bl_X4_rain_104 (i_lload rfl (i_iload rfl (i_iload rfl (t_cs2 (Rn_mono mt _) 113 rfl (Nat.le_of_ble_eq_true rfl) ?_)))))
        | (show Rch _ _ _ _ _ 113 _ _ _; refine Rch.blk' (Rn_mono mt _) bl_X4_rain_113 (t_if_eq 120 116 rfl rfl (by first | with_reducible exact hI_R | with_reducible exact lcm_R | with_reducible exact band_R | with_reducible exact bor_R | with_reducible exact bshr_R | with_reducible exact bshl_R | omega) (fun hc => ?_) (fun hc => ?_)) <;> (first | (exfalso; omega) | skip))
        | (show Rch _ _ _ _ _ 116 _ _ _; refine Rch.blk' (Rn_mono mt _) bl_X4_rain_116 (i_lconst (t_goto 124 rfl ?_)))
        | (show Rch _ _ _ _ _ 120 _ _ _; refine Rch.blk' (Rn_mono mt _) bl_X4_rain_120 (i_iload_n rfl (i_iconst k_1 (i_isub (i_i2l (t_none ?_))))))
        | (show Rch _ _ _ _ _ 124 _ _ _; refine Rch.blk' (Rn_mono mt _) bl_X4_rain_124 (i_lmul (i_lstore10 trivial (i_aload_n rfl (i_gfs rfl (i_iconst k_5 (i_iload rfl (i_iload rfl (t_cs2 (Rn_mono mt _) 139 rfl (Nat.le_of_ble_eq_true rfl) ?_)))))))))
        | (show Rch _ _ _ _ _ 139 _ _ _; refine Rch.blk' (Rn_mono mt _) bl_X4_rain_139 (t_if_eq 146 142 rfl rfl (by first | with_reducible exact hI_R | with_reducible exact lcm_R | with_reducible exact band_R | with_reducible exact bor_R | with_reducible exact bshr_R | with_reducible exact bshl_R | omega) (fun hc => ?_) (fun hc => ?_)) <;> (first | (exfalso; omega) | skip))
        | (show Rch _ _ _ _ _ 142 _ _ _; refine Rch.blk' (Rn_mono mt _) bl_X4_rain_142 (i_iconst k_1 (t_goto 147 rfl ?_)))
        | (show Rch _ _ _ _ _ 146 _ _ _; refine Rch.blk' (Rn_mono mt _) bl_X4_rain_146 (i_iconst k_0 (t_none ?_)))
        | (show Rch _ _ _ _ _ 147 _ _ _; refine Rch.blk' (Rn_mono mt _) bl_X4_rain_147 (i_iast rfl rfl (by omega) (by simp only [aln]; omega) (by simp only [aln]; omega) (i_aload_n rfl (i_gfs rfl (t_cs1 (Rn_mono mt _) 155 rfl (Nat.le_of_ble_eq_true rfl) ?_)))))
        | (show Rch _ _ _ _ _ 155 _ _ _; refine Rch.blk' (Rn_mono mt _) bl_X4_rain_155 (i_iinc12 trivial k_1 (t_goto 98 rfl ?_)))
        | (show Rch _ _ _ _ _ 161 _ _ _; refine Rch.blk' (Rn_mono mt _) bl_X4_rain_161 (i_lload rfl (i_aload_n rfl (i_gfs rfl (i_iload_n rfl (t_cs2 (Rn_mono mt _) 171 rfl (Nat.le_of_ble_eq_true rfl) ?_))))))
        | (show Rch _ _ _ _ _ 171 _ _ _; refine Rch.blk' (Rn_mono mt _) bl_X4_rain_171 (t_if_eq 179 174 rfl rfl (by first | with_reducible exact hI_R | with_reducible exact lcm_R | with_reducible exact band_R | with_reducible exact bor_R | with_reducible exact bshr_R | with_reducible exact bshl_R | omega) (fun hc => ?_) (fun hc => ?_)) <;> (first | (exfalso; omega) | skip))
        | (show Rch _ _ _ _ _ 174 _ _ _; refine Rch.blk' (Rn_mono mt _) bl_X4_rain_174 (i_lload rfl (t_goto 180 rfl ?_)))
        | (show Rch _ _ _ _ _ 179 _ _ _; refine Rch.blk' (Rn_mono mt _) bl_X4_rain_179 (i_lconst (t_none ?_)))
        | (show Rch _ _ _ _ _ 180 _ _ _; refine Rch.blk' (Rn_mono mt _) bl_X4_rain_180 (i_ladd (i_lstore5 trivial (i_iinc9 trivial k_1 (t_goto 73 rfl ?_)))))
        | (show Rch _ _ _ _ _ 189 _ _ _; refine Rch.blk' (Rn_mono mt _) bl_X4_rain_189 (i_lload rfl (i_lload rfl (i_iload rfl (t_cs3 (Rn_mono mt _) 198 rfl (Nat.le_of_ble_eq_true rfl) ?_)))))
        | (show Rch _ _ _ _ _ 198 _ _ _; refine Rch.blk' (Rn_mono mt _) bl_X4_rain_198 (t_lret ?_)))
    · obtain rfl : i = bshl 1 n := by omega
      obtain ⟨⟨wy0, wy1⟩, pw0, pw1⟩ := @rain_R p n t G n0 n1 t0 t1
      have eS : SM (fun s => Fy p t n.toNat G s.toNat) (bshl 1 n) = Wy p t n.toNat G := by
        rw [Wy_sum p0 n.toNat G hO p1, e_sh]
        unfold SM
        rw [show ((2 ^ n.toNat : Nat) : Int).toNat = 2 ^ n.toNat by omega]
      have kk := hq _ h' (by unfold vRain; rw [if_pos ⟨⟨p0, p1⟩, ⟨n0, n1⟩, ⟨t0, t1⟩, hpart⟩]) (hF.jy (by omega))
      rw [eS]
      clear ih hq k1
      refine Rch.blk' (Rn_mono mt _) bl_X4_rain_73 (i_iload rfl (i_iconst k_1 (i_iload_n rfl (i_ishl (t_ic_ge 189 81 rfl rfl (by first | with_reducible exact hI_R | with_reducible exact lcm_R | with_reducible exact band_R | with_reducible exact bor_R | with_reducible exact bshr_R | with_reducible exact bshl_R | omega) (by first | with_reducible exact hI_R | with_reducible exact lcm_R | with_reducible exact band_R | with_reducible exact bor_R | with_reducible exact bshr_R | with_reducible exact bshl_R | omega) (fun hc => ?_) (fun hc => ?_)))))) <;> (first | (exfalso; omega) | skip)
      repeat' (first
        | (show Rn _ _ 188 _ _ _; refine c_X4_partOf wy0 wy1 pw0 pw1 (by omega) ?_)
        | exact kk
        | (show Rn _ _ 110 _ _ _; refine c_X4_isPiece (by assumption) (by assumption) (by first | omega | exact hI_R) (fun _ _ => ?_) (fun _ => ?_))
        | (show Rn _ _ 105 _ _ _; refine c_X4_isIn (by first | omega | exact hI_R) (by first | omega | exact hI_R) (by first | omega | exact hI_R) (fun _ _ => ?_) (fun _ => ?_))
        | (show Rn _ _ 115 _ _ _; refine c_X4_has (by omega) (by omega) (fun _ => ?_) (fun _ => ?_))
        | (show Rn _ _ 114 _ _ _; refine c_X4_isHere (by assumption) (by assumption) (by omega) (by omega) (fun _ _ => ?_) (fun _ => ?_))
        | (show Rch _ _ _ _ _ 0 _ _ _; refine Rch.blk' (Rn_mono mt _) bl_X4_rain_0 (i_aload_n rfl (i_iload_n rfl (t_cv2 (Rn_mono mt _) 5 rfl (Nat.le_of_ble_eq_true rfl) ?_))))
        | (show Rch _ _ _ _ _ 5 _ _ _; refine Rch.blk' (Rn_mono mt _) bl_X4_rain_5 (t_if_eq 38 8 rfl rfl (by first | with_reducible exact hI_R | with_reducible exact lcm_R | with_reducible exact band_R | with_reducible exact bor_R | with_reducible exact bshr_R | with_reducible exact bshl_R | omega) (fun hc => ?_) (fun hc => ?_)) <;> (first | (exfalso; omega) | skip))
        | (show Rch _ _ _ _ _ 8 _ _ _; refine Rch.blk' (Rn_mono mt _) bl_X4_rain_8 (i_iload_n rfl (i_iconst k_0 (i_bipush k_7 (t_cs3 (Rn_mono mt _) 15 rfl (Nat.le_of_ble_eq_true rfl) ?_)))))
        | (show Rch _ _ _ _ _ 15 _ _ _; refine Rch.blk' (Rn_mono mt _) bl_X4_rain_15 (t_if_eq 38 18 rfl rfl (by first | with_reducible exact hI_R | with_reducible exact lcm_R | with_reducible exact band_R | with_reducible exact bor_R | with_reducible exact bshr_R | with_reducible exact bshl_R | omega) (fun hc => ?_) (fun hc => ?_)) <;> (first | (exfalso; omega) | skip))
        | (show Rch _ _ _ _ _ 18 _ _ _; refine Rch.blk' (Rn_mono mt _) bl_X4_rain_18 (i_iload_n rfl (i_iconst k_2 (i_bipush k_20 (t_cs3 (Rn_mono mt _) 25 rfl (Nat.le_of_ble_eq_true rfl) ?_)))))
        | (show Rch _ _ _ _ _ 25 _ _ _; refine Rch.blk' (Rn_mono mt _) bl_X4_rain_25 (t_if_eq 38 28 rfl rfl (by first | with_reducible exact hI_R | with_reducible exact lcm_R | with_reducible exact band_R | with_reducible exact bor_R | with_reducible exact bshr_R | with_reducible exact bshl_R | omega) (fun hc => ?_) (fun hc => ?_)) <;> (first | (exfalso; omega) | skip))
        | (show Rch _ _ _ _ _ 28 _ _ _; refine Rch.blk' (Rn_mono mt _) bl_X4_rain_28 (i_iload rfl (i_iconst k_0 (i_iconst k_1 (t_cs3 (Rn_mono mt _) 35 rfl (Nat.le_of_ble_eq_true rfl) ?_)))))
        | (show Rch _ _ _ _ _ 35 _ _ _; refine Rch.blk' (Rn_mono mt _) bl_X4_rain_35 (t_if_ne 42 38 rfl rfl (by first | with_reducible exact hI_R | with_reducible exact lcm_R | with_reducible exact band_R | with_reducible exact bor_R | with_reducible exact bshr_R | with_reducible exact bshl_R | omega) (fun hc => ?_) (fun hc => ?_)) <;> (first | (exfalso; omega) | skip))
        | (show Rch _ _ _ _ _ 38 _ _ _; refine Rch.blk' (Rn_mono mt _) bl_X4_rain_38 (i_ldc2 (t_lret ?_)))
        | (show Rch _ _ _ _ _ 42 _ _ _; refine Rch.blk' (Rn_mono mt _) bl_X4_rain_42 (i_lconst (i_lstore5 trivial (i_lconst (i_lstore7 trivial (i_iconst k_0 (i_istore9 trivial (t_none ?_))))))))
        | (show Rch _ _ _ _ _ 51 _ _ _; refine Rch.blk' (Rn_mono mt _) bl_X4_rain_51 (i_iload rfl (i_iload_n rfl (t_ic_ge 70 57 rfl rfl (by first | with_reducible exact hI_R | with_reducible exact lcm_R | with_reducible exact band_R | with_reducible exact bor_R | with_reducible exact bshr_R | with_reducible exact bshl_R | omega) (by first | with_reducible exact hI_R | with_reducible exact lcm_R | with_reducible exact band_R | with_reducible exact bor_R | with_reducible exact bshr_R | with_reducible exact bshl_R | omega) (fun hc => ?_) (fun hc => ?_)))) <;> (first | (exfalso; omega) | skip))
        | (show Rch _ _ _ _ _ 57 _ _ _; refine Rch.blk' (Rn_mono mt _) bl_X4_rain_57 (i_lload rfl (i_iload_n rfl (i_i2l (i_lmul (i_lstore7 trivial (i_iinc9 trivial k_1 (t_goto 51 rfl ?_))))))))
        | (show Rch _ _ _ _ _ 70 _ _ _; refine Rch.blk' (Rn_mono mt _) bl_X4_rain_70 (i_iconst k_0 (i_istore9 trivial (t_none ?_))))
        | (show Rch _ _ _ _ _ 81 _ _ _; refine Rch.blk' (Rn_mono mt _) bl_X4_rain_81 (i_lconst (i_lstore10 trivial (i_aload_n rfl (i_gfs rfl (i_aload_n rfl (i_gfs rfl (t_cs2 (Rn_mono mt _) 95 rfl (Nat.le_of_ble_eq_true rfl) ?_))))))))
        | (show Rch _ _ _ _ _ 95 _ _ _; refine Rch.blk' (Rn_mono mt _) bl_X4_rain_95 (i_iconst k_0 (i_istore12 trivial (t_none ?_))))
        | (show Rch _ _ _ _ _ 98 _ _ _; refine Rch.blk' (Rn_mono mt _) bl_X4_rain_98 (i_iload rfl (i_iload_n rfl (t_ic_ge 161 104 rfl rfl (by first | with_reducible exact hI_R | with_reducible exact lcm_R | with_reducible exact band_R | with_reducible exact bor_R | with_reducible exact bshr_R | with_reducible exact bshl_R | omega) (by first | with_reducible exact hI_R | with_reducible exact lcm_R | with_reducible exact band_R | with_reducible exact bor_R | with_reducible exact bshr_R | with_reducible exact bshl_R | omega) (fun hc => ?_) (fun hc => ?_)))) <;> (first | (exfalso; omega) | skip))
        | (show Rch _ _ _ _ _ 104 _ _ _; refine Rch.blk' (Rn_mono mt _) bl_X4_rain_104 (i_lload rfl (i_iload rfl (i_iload rfl (t_cs2 (Rn_mono mt _) 113 rfl (Nat.le_of_ble_eq_true rfl) ?_)))))
        | (show Rch _ _ _ _ _ 113 _ _ _; refine Rch.blk' (Rn_mono mt _) bl_X4_rain_113 (t_if_eq 120 116 rfl rfl (by first | with_reducible exact hI_R | with_reducible exact lcm_R | with_reducible exact band_R | with_reducible exact bor_R | with_reducible exact bshr_R | with_reducible exact bshl_R | omega) (fun hc => ?_) (fun hc => ?_)) <;> (first | (exfalso; omega) | skip))
        | (show Rch _ _ _ _ _ 116 _ _ _; refine Rch.blk' (Rn_mono mt _) bl_X4_rain_116 (i_lconst (t_goto 124 rfl ?_)))
        | (show Rch _ _ _ _ _ 120 _ _ _; refine Rch.blk' (Rn_mono mt _) bl_X4_rain_120 (i_iload_n rfl (i_iconst k_1 (i_isub (i_i2l (t_none ?_))))))
        | (show Rch _ _ _ _ _ 124 _ _ _; refine Rch.blk' (Rn_mono mt _) bl_X4_rain_124 (i_lmul (i_lstore10 trivial (i_aload_n rfl (i_gfs rfl (i_iconst k_5 (i_iload rfl (i_iload rfl (t_cs2 (Rn_mono mt _) 139 rfl (Nat.le_of_ble_eq_true rfl) ?_)))))))))
        | (show Rch _ _ _ _ _ 139 _ _ _; refine Rch.blk' (Rn_mono mt _) bl_X4_rain_139 (t_if_eq 146 142 rfl rfl (by first | with_reducible exact hI_R | with_reducible exact lcm_R | with_reducible exact band_R | with_reducible exact bor_R | with_reducible exact bshr_R | with_reducible exact bshl_R | omega) (fun hc => ?_) (fun hc => ?_)) <;> (first | (exfalso; omega) | skip))
        | (show Rch _ _ _ _ _ 142 _ _ _; refine Rch.blk' (Rn_mono mt _) bl_X4_rain_142 (i_iconst k_1 (t_goto 147 rfl ?_)))
        | (show Rch _ _ _ _ _ 146 _ _ _; refine Rch.blk' (Rn_mono mt _) bl_X4_rain_146 (i_iconst k_0 (t_none ?_)))
        | (show Rch _ _ _ _ _ 147 _ _ _; refine Rch.blk' (Rn_mono mt _) bl_X4_rain_147 (i_iast rfl rfl (by omega) (by simp only [aln]; omega) (by simp only [aln]; omega) (i_aload_n rfl (i_gfs rfl (t_cs1 (Rn_mono mt _) 155 rfl (Nat.le_of_ble_eq_true rfl) ?_)))))
        | (show Rch _ _ _ _ _ 155 _ _ _; refine Rch.blk' (Rn_mono mt _) bl_X4_rain_155 (i_iinc12 trivial k_1 (t_goto 98 rfl ?_)))
        | (show Rch _ _ _ _ _ 161 _ _ _; refine Rch.blk' (Rn_mono mt _) bl_X4_rain_161 (i_lload rfl (i_aload_n rfl (i_gfs rfl (i_iload_n rfl (t_cs2 (Rn_mono mt _) 171 rfl (Nat.le_of_ble_eq_true rfl) ?_))))))
        | (show Rch _ _ _ _ _ 171 _ _ _; refine Rch.blk' (Rn_mono mt _) bl_X4_rain_171 (t_if_eq 179 174 rfl rfl (by first | with_reducible exact hI_R | with_reducible exact lcm_R | with_reducible exact band_R | with_reducible exact bor_R | with_reducible exact bshr_R | with_reducible exact bshl_R | omega) (fun hc => ?_) (fun hc => ?_)) <;> (first | (exfalso; omega) | skip))
        | (show Rch _ _ _ _ _ 174 _ _ _; refine Rch.blk' (Rn_mono mt _) bl_X4_rain_174 (i_lload rfl (t_goto 180 rfl ?_)))
        | (show Rch _ _ _ _ _ 179 _ _ _; refine Rch.blk' (Rn_mono mt _) bl_X4_rain_179 (i_lconst (t_none ?_)))
        | (show Rch _ _ _ _ _ 180 _ _ _; refine Rch.blk' (Rn_mono mt _) bl_X4_rain_180 (i_ladd (i_lstore5 trivial (i_iinc9 trivial k_1 (t_goto 73 rfl ?_)))))
        | (show Rch _ _ _ _ _ 189 _ _ _; refine Rch.blk' (Rn_mono mt _) bl_X4_rain_189 (i_lload rfl (i_lload rfl (i_iload rfl (t_cs3 (Rn_mono mt _) 198 rfl (Nat.le_of_ble_eq_true rfl) ?_)))))
        | (show Rch _ _ _ _ _ 198 _ _ _; refine Rch.blk' (Rn_mono mt _) bl_X4_rain_198 (t_lret ?_)))
  have kp : ((0 ≤ p ∧ p < nn G) ∧ (0 ≤ n ∧ n ≤ 7) ∧ (2 ≤ t ∧ t ≤ 20) ∧ 0 ≤ part ∧ part ≤ 1) → ∀ k : Int, k ≤ n → 0 ≤ k → RH bX4_rain (d + 19) Q 51 [some (ar 3 0), some (ai (I p)), some (ai (I n)), some (ai (I t)), some (ai (I part)), some (al (lcst 0)), none, some (al (L (pwr t k.toNat))), none, some (ai (I k)), none, none, none] h := by
    intro ha
    refine up_ind (fun k hk ih hk0 => ?_)
    by_cases hk1 : k < n
    · have ih := ih hk1 (by omega)
      rw [pwr_up hk0] at ih
      have e : L (pwr t k.toNat) * (I t).toInt64 = L (pwr t k.toNat * t) := by rw [L_i2l ht, L_mul]
      rw [← e] at ih
      clear hq k1 key
      refine Rch.blk' (Rn_mono mt _) bl_X4_rain_51 (i_iload rfl (i_iload_n rfl (t_ic_ge 70 57 rfl rfl (by first | with_reducible exact hI_R | with_reducible exact lcm_R | with_reducible exact band_R | with_reducible exact bor_R | with_reducible exact bshr_R | with_reducible exact bshl_R | omega) (by first | with_reducible exact hI_R | with_reducible exact lcm_R | with_reducible exact band_R | with_reducible exact bor_R | with_reducible exact bshr_R | with_reducible exact bshl_R | omega) (fun hc => ?_) (fun hc => ?_)))) <;> (first | (exfalso; omega) | skip)
      repeat' (first
        | exact ih
        | (show Rn _ _ 110 _ _ _; refine c_X4_isPiece (by assumption) (by assumption) (by first | omega | exact hI_R) (fun _ _ => ?_) (fun _ => ?_))
        | (show Rn _ _ 105 _ _ _; refine c_X4_isIn (by first | omega | exact hI_R) (by first | omega | exact hI_R) (by first | omega | exact hI_R) (fun _ _ => ?_) (fun _ => ?_))
        | (show Rn _ _ 115 _ _ _; refine c_X4_has (by omega) (by omega) (fun _ => ?_) (fun _ => ?_))
        | (show Rn _ _ 114 _ _ _; refine c_X4_isHere (by assumption) (by assumption) (by omega) (by omega) (fun _ _ => ?_) (fun _ => ?_))
        | (show Rch _ _ _ _ _ 0 _ _ _; refine Rch.blk' (Rn_mono mt _) bl_X4_rain_0 (i_aload_n rfl (i_iload_n rfl (t_cv2 (Rn_mono mt _) 5 rfl (Nat.le_of_ble_eq_true rfl) ?_))))
        | (show Rch _ _ _ _ _ 5 _ _ _; refine Rch.blk' (Rn_mono mt _) bl_X4_rain_5 (t_if_eq 38 8 rfl rfl (by first | with_reducible exact hI_R | with_reducible exact lcm_R | with_reducible exact band_R | with_reducible exact bor_R | with_reducible exact bshr_R | with_reducible exact bshl_R | omega) (fun hc => ?_) (fun hc => ?_)) <;> (first | (exfalso; omega) | skip))
        | (show Rch _ _ _ _ _ 8 _ _ _; refine Rch.blk' (Rn_mono mt _) bl_X4_rain_8 (i_iload_n rfl (i_iconst k_0 (i_bipush k_7 (t_cs3 (Rn_mono mt _) 15 rfl (Nat.le_of_ble_eq_true rfl) ?_)))))
        | (show Rch _ _ _ _ _ 15 _ _ _; refine Rch.blk' (Rn_mono mt _) bl_X4_rain_15 (t_if_eq 38 18 rfl rfl (by first | with_reducible exact hI_R | with_reducible exact lcm_R | with_reducible exact band_R | with_reducible exact bor_R | with_reducible exact bshr_R | with_reducible exact bshl_R | omega) (fun hc => ?_) (fun hc => ?_)) <;> (first | (exfalso; omega) | skip))
        | (show Rch _ _ _ _ _ 18 _ _ _; refine Rch.blk' (Rn_mono mt _) bl_X4_rain_18 (i_iload_n rfl (i_iconst k_2 (i_bipush k_20 (t_cs3 (Rn_mono mt _) 25 rfl (Nat.le_of_ble_eq_true rfl) ?_)))))
        | (show Rch _ _ _ _ _ 25 _ _ _; refine Rch.blk' (Rn_mono mt _) bl_X4_rain_25 (t_if_eq 38 28 rfl rfl (by first | with_reducible exact hI_R | with_reducible exact lcm_R | with_reducible exact band_R | with_reducible exact bor_R | with_reducible exact bshr_R | with_reducible exact bshl_R | omega) (fun hc => ?_) (fun hc => ?_)) <;> (first | (exfalso; omega) | skip))
        | (show Rch _ _ _ _ _ 28 _ _ _; refine Rch.blk' (Rn_mono mt _) bl_X4_rain_28 (i_iload rfl (i_iconst k_0 (i_iconst k_1 (t_cs3 (Rn_mono mt _) 35 rfl (Nat.le_of_ble_eq_true rfl) ?_)))))
        | (show Rch _ _ _ _ _ 35 _ _ _; refine Rch.blk' (Rn_mono mt _) bl_X4_rain_35 (t_if_ne 42 38 rfl rfl (by first | with_reducible exact hI_R | with_reducible exact lcm_R | with_reducible exact band_R | with_reducible exact bor_R | with_reducible exact bshr_R | with_reducible exact bshl_R | omega) (fun hc => ?_) (fun hc => ?_)) <;> (first | (exfalso; omega) | skip))
        | (show Rch _ _ _ _ _ 38 _ _ _; refine Rch.blk' (Rn_mono mt _) bl_X4_rain_38 (i_ldc2 (t_lret ?_)))
        | (show Rch _ _ _ _ _ 42 _ _ _; refine Rch.blk' (Rn_mono mt _) bl_X4_rain_42 (i_lconst (i_lstore5 trivial (i_lconst (i_lstore7 trivial (i_iconst k_0 (i_istore9 trivial (t_none ?_))))))))
        | (show Rch _ _ _ _ _ 57 _ _ _; refine Rch.blk' (Rn_mono mt _) bl_X4_rain_57 (i_lload rfl (i_iload_n rfl (i_i2l (i_lmul (i_lstore7 trivial (i_iinc9 trivial k_1 (t_goto 51 rfl ?_))))))))
        | (show Rch _ _ _ _ _ 70 _ _ _; refine Rch.blk' (Rn_mono mt _) bl_X4_rain_70 (i_iconst k_0 (i_istore9 trivial (t_none ?_))))
        | (show Rch _ _ _ _ _ 73 _ _ _; refine Rch.blk' (Rn_mono mt _) bl_X4_rain_73 (i_iload rfl (i_iconst k_1 (i_iload_n rfl (i_ishl (t_ic_ge 189 81 rfl rfl (by first | with_reducible exact hI_R | with_reducible exact lcm_R | with_reducible exact band_R | with_reducible exact bor_R | with_reducible exact bshr_R | with_reducible exact bshl_R | omega) (by first | with_reducible exact hI_R | with_reducible exact lcm_R | with_reducible exact band_R | with_reducible exact bor_R | with_reducible exact bshr_R | with_reducible exact bshl_R | omega) (fun hc => ?_) (fun hc => ?_)))))) <;> (first | (exfalso; omega) | skip))
        | (show Rch _ _ _ _ _ 81 _ _ _; refine Rch.blk' (Rn_mono mt _) bl_X4_rain_81 (i_lconst (i_lstore10 trivial (i_aload_n rfl (i_gfs rfl (i_aload_n rfl (i_gfs rfl (t_cs2 (Rn_mono mt _) 95 rfl (Nat.le_of_ble_eq_true rfl) ?_))))))))
        | (show Rch _ _ _ _ _ 95 _ _ _; refine Rch.blk' (Rn_mono mt _) bl_X4_rain_95 (i_iconst k_0 (i_istore12 trivial (t_none ?_))))
        | (show Rch _ _ _ _ _ 98 _ _ _; refine Rch.blk' (Rn_mono mt _) bl_X4_rain_98 (i_iload rfl (i_iload_n rfl (t_ic_ge 161 104 rfl rfl (by first | with_reducible exact hI_R | with_reducible exact lcm_R | with_reducible exact band_R | with_reducible exact bor_R | with_reducible exact bshr_R | with_reducible exact bshl_R | omega) (by first | with_reducible exact hI_R | with_reducible exact lcm_R | with_reducible exact band_R | with_reducible exact bor_R | with_reducible exact bshr_R | with_reducible exact bshl_R | omega) (fun hc => ?_) (fun hc => ?_)))) <;> (first | (exfalso; omega) | skip))
        | (show Rch _ _ _ _ _ 104 _ _ _; refine Rch.blk' (Rn_mono mt _) bl_X4_rain_104 (i_lload rfl (i_iload rfl (i_iload rfl (t_cs2 (Rn_mono mt _) 113 rfl (Nat.le_of_ble_eq_true rfl) ?_)))))
        | (show Rch _ _ _ _ _ 113 _ _ _; refine Rch.blk' (Rn_mono mt _) bl_X4_rain_113 (t_if_eq 120 116 rfl rfl (by first | with_reducible exact hI_R | with_reducible exact lcm_R | with_reducible exact band_R | with_reducible exact bor_R | with_reducible exact bshr_R | with_reducible exact bshl_R | omega) (fun hc => ?_) (fun hc => ?_)) <;> (first | (exfalso; omega) | skip))
        | (show Rch _ _ _ _ _ 116 _ _ _; refine Rch.blk' (Rn_mono mt _) bl_X4_rain_116 (i_lconst (t_goto 124 rfl ?_)))
        | (show Rch _ _ _ _ _ 120 _ _ _; refine Rch.blk' (Rn_mono mt _) bl_X4_rain_120 (i_iload_n rfl (i_iconst k_1 (i_isub (i_i2l (t_none ?_))))))
        | (show Rch _ _ _ _ _ 124 _ _ _; refine Rch.blk' (Rn_mono mt _) bl_X4_rain_124 (i_lmul (i_lstore10 trivial (i_aload_n rfl (i_gfs rfl (i_iconst k_5 (i_iload rfl (i_iload rfl (t_cs2 (Rn_mono mt _) 139 rfl (Nat.le_of_ble_eq_true rfl) ?_)))))))))
        | (show Rch _ _ _ _ _ 139 _ _ _; refine Rch.blk' (Rn_mono mt _) bl_X4_rain_139 (t_if_eq 146 142 rfl rfl (by first | with_reducible exact hI_R | with_reducible exact lcm_R | with_reducible exact band_R | with_reducible exact bor_R | with_reducible exact bshr_R | with_reducible exact bshl_R | omega) (fun hc => ?_) (fun hc => ?_)) <;> (first | (exfalso; omega) | skip))
        | (show Rch _ _ _ _ _ 142 _ _ _; refine Rch.blk' (Rn_mono mt _) bl_X4_rain_142 (i_iconst k_1 (t_goto 147 rfl ?_)))
        | (show Rch _ _ _ _ _ 146 _ _ _; refine Rch.blk' (Rn_mono mt _) bl_X4_rain_146 (i_iconst k_0 (t_none ?_)))
        | (show Rch _ _ _ _ _ 147 _ _ _; refine Rch.blk' (Rn_mono mt _) bl_X4_rain_147 (i_iast rfl rfl (by omega) (by simp only [aln]; omega) (by simp only [aln]; omega) (i_aload_n rfl (i_gfs rfl (t_cs1 (Rn_mono mt _) 155 rfl (Nat.le_of_ble_eq_true rfl) ?_)))))
        | (show Rch _ _ _ _ _ 155 _ _ _; refine Rch.blk' (Rn_mono mt _) bl_X4_rain_155 (i_iinc12 trivial k_1 (t_goto 98 rfl ?_)))
        | (show Rch _ _ _ _ _ 161 _ _ _; refine Rch.blk' (Rn_mono mt _) bl_X4_rain_161 (i_lload rfl (i_aload_n rfl (i_gfs rfl (i_iload_n rfl (t_cs2 (Rn_mono mt _) 171 rfl (Nat.le_of_ble_eq_true rfl) ?_))))))
        | (show Rch _ _ _ _ _ 171 _ _ _; refine Rch.blk' (Rn_mono mt _) bl_X4_rain_171 (t_if_eq 179 174 rfl rfl (by first | with_reducible exact hI_R | with_reducible exact lcm_R | with_reducible exact band_R | with_reducible exact bor_R | with_reducible exact bshr_R | with_reducible exact bshl_R | omega) (fun hc => ?_) (fun hc => ?_)) <;> (first | (exfalso; omega) | skip))
        | (show Rch _ _ _ _ _ 174 _ _ _; refine Rch.blk' (Rn_mono mt _) bl_X4_rain_174 (i_lload rfl (t_goto 180 rfl ?_)))
        | (show Rch _ _ _ _ _ 179 _ _ _; refine Rch.blk' (Rn_mono mt _) bl_X4_rain_179 (i_lconst (t_none ?_)))
        | (show Rch _ _ _ _ _ 180 _ _ _; refine Rch.blk' (Rn_mono mt _) bl_X4_rain_180 (i_ladd (i_lstore5 trivial (i_iinc9 trivial k_1 (t_goto 73 rfl ?_)))))
        | (show Rch _ _ _ _ _ 189 _ _ _; refine Rch.blk' (Rn_mono mt _) bl_X4_rain_189 (i_lload rfl (i_lload rfl (i_iload rfl (t_cs3 (Rn_mono mt _) 198 rfl (Nat.le_of_ble_eq_true rfl) ?_)))))
        | (show Rch _ _ _ _ _ 198 _ _ _; refine Rch.blk' (Rn_mono mt _) bl_X4_rain_198 (t_lret ?_)))
    · obtain rfl : k = n := by omega
      have e_sh := shl_dec k.toNat (by omega)
      rw [show ((k.toNat : Nat) : Int) = k by omega] at e_sh
      have g_p := Nat.two_pow_pos k.toNat
      have kz := key ha 0 (by rw [e_sh]; omega) (by omega) none none none h FrR.rf
      rw [SM_0, ← l_0] at kz
      clear ih hq k1 key
      refine Rch.blk' (Rn_mono mt _) bl_X4_rain_51 (i_iload rfl (i_iload_n rfl (t_ic_ge 70 57 rfl rfl (by first | with_reducible exact hI_R | with_reducible exact lcm_R | with_reducible exact band_R | with_reducible exact bor_R | with_reducible exact bshr_R | with_reducible exact bshl_R | omega) (by first | with_reducible exact hI_R | with_reducible exact lcm_R | with_reducible exact band_R | with_reducible exact bor_R | with_reducible exact bshr_R | with_reducible exact bshl_R | omega) (fun hc => ?_) (fun hc => ?_)))) <;> (first | (exfalso; omega) | skip)
      repeat' (first
        | exact kz
        | (show Rn _ _ 110 _ _ _; refine c_X4_isPiece (by assumption) (by assumption) (by first | omega | exact hI_R) (fun _ _ => ?_) (fun _ => ?_))
        | (show Rn _ _ 105 _ _ _; refine c_X4_isIn (by first | omega | exact hI_R) (by first | omega | exact hI_R) (by first | omega | exact hI_R) (fun _ _ => ?_) (fun _ => ?_))
        | (show Rn _ _ 115 _ _ _; refine c_X4_has (by omega) (by omega) (fun _ => ?_) (fun _ => ?_))
        | (show Rn _ _ 114 _ _ _; refine c_X4_isHere (by assumption) (by assumption) (by omega) (by omega) (fun _ _ => ?_) (fun _ => ?_))
        | (show Rch _ _ _ _ _ 0 _ _ _; refine Rch.blk' (Rn_mono mt _) bl_X4_rain_0 (i_aload_n rfl (i_iload_n rfl (t_cv2 (Rn_mono mt _) 5 rfl (Nat.le_of_ble_eq_true rfl) ?_))))
        | (show Rch _ _ _ _ _ 5 _ _ _; refine Rch.blk' (Rn_mono mt _) bl_X4_rain_5 (t_if_eq 38 8 rfl rfl (by first | with_reducible exact hI_R | with_reducible exact lcm_R | with_reducible exact band_R | with_reducible exact bor_R | with_reducible exact bshr_R | with_reducible exact bshl_R | omega) (fun hc => ?_) (fun hc => ?_)) <;> (first | (exfalso; omega) | skip))
        | (show Rch _ _ _ _ _ 8 _ _ _; refine Rch.blk' (Rn_mono mt _) bl_X4_rain_8 (i_iload_n rfl (i_iconst k_0 (i_bipush k_7 (t_cs3 (Rn_mono mt _) 15 rfl (Nat.le_of_ble_eq_true rfl) ?_)))))
        | (show Rch _ _ _ _ _ 15 _ _ _; refine Rch.blk' (Rn_mono mt _) bl_X4_rain_15 (t_if_eq 38 18 rfl rfl (by first | with_reducible exact hI_R | with_reducible exact lcm_R | with_reducible exact band_R | with_reducible exact bor_R | with_reducible exact bshr_R | with_reducible exact bshl_R | omega) (fun hc => ?_) (fun hc => ?_)) <;> (first | (exfalso; omega) | skip))
        | (show Rch _ _ _ _ _ 18 _ _ _; refine Rch.blk' (Rn_mono mt _) bl_X4_rain_18 (i_iload_n rfl (i_iconst k_2 (i_bipush k_20 (t_cs3 (Rn_mono mt _) 25 rfl (Nat.le_of_ble_eq_true rfl) ?_)))))
        | (show Rch _ _ _ _ _ 25 _ _ _; refine Rch.blk' (Rn_mono mt _) bl_X4_rain_25 (t_if_eq 38 28 rfl rfl (by first | with_reducible exact hI_R | with_reducible exact lcm_R | with_reducible exact band_R | with_reducible exact bor_R | with_reducible exact bshr_R | with_reducible exact bshl_R | omega) (fun hc => ?_) (fun hc => ?_)) <;> (first | (exfalso; omega) | skip))
        | (show Rch _ _ _ _ _ 28 _ _ _; refine Rch.blk' (Rn_mono mt _) bl_X4_rain_28 (i_iload rfl (i_iconst k_0 (i_iconst k_1 (t_cs3 (Rn_mono mt _) 35 rfl (Nat.le_of_ble_eq_true rfl) ?_)))))
        | (show Rch _ _ _ _ _ 35 _ _ _; refine Rch.blk' (Rn_mono mt _) bl_X4_rain_35 (t_if_ne 42 38 rfl rfl (by first | with_reducible exact hI_R | with_reducible exact lcm_R | with_reducible exact band_R | with_reducible exact bor_R | with_reducible exact bshr_R | with_reducible exact bshl_R | omega) (fun hc => ?_) (fun hc => ?_)) <;> (first | (exfalso; omega) | skip))
        | (show Rch _ _ _ _ _ 38 _ _ _; refine Rch.blk' (Rn_mono mt _) bl_X4_rain_38 (i_ldc2 (t_lret ?_)))
        | (show Rch _ _ _ _ _ 42 _ _ _; refine Rch.blk' (Rn_mono mt _) bl_X4_rain_42 (i_lconst (i_lstore5 trivial (i_lconst (i_lstore7 trivial (i_iconst k_0 (i_istore9 trivial (t_none ?_))))))))
        | (show Rch _ _ _ _ _ 57 _ _ _; refine Rch.blk' (Rn_mono mt _) bl_X4_rain_57 (i_lload rfl (i_iload_n rfl (i_i2l (i_lmul (i_lstore7 trivial (i_iinc9 trivial k_1 (t_goto 51 rfl ?_))))))))
        | (show Rch _ _ _ _ _ 70 _ _ _; refine Rch.blk' (Rn_mono mt _) bl_X4_rain_70 (i_iconst k_0 (i_istore9 trivial (t_none ?_))))
        | (show Rch _ _ _ _ _ 81 _ _ _; refine Rch.blk' (Rn_mono mt _) bl_X4_rain_81 (i_lconst (i_lstore10 trivial (i_aload_n rfl (i_gfs rfl (i_aload_n rfl (i_gfs rfl (t_cs2 (Rn_mono mt _) 95 rfl (Nat.le_of_ble_eq_true rfl) ?_))))))))
        | (show Rch _ _ _ _ _ 95 _ _ _; refine Rch.blk' (Rn_mono mt _) bl_X4_rain_95 (i_iconst k_0 (i_istore12 trivial (t_none ?_))))
        | (show Rch _ _ _ _ _ 98 _ _ _; refine Rch.blk' (Rn_mono mt _) bl_X4_rain_98 (i_iload rfl (i_iload_n rfl (t_ic_ge 161 104 rfl rfl (by first | with_reducible exact hI_R | with_reducible exact lcm_R | with_reducible exact band_R | with_reducible exact bor_R | with_reducible exact bshr_R | with_reducible exact bshl_R | omega) (by first | with_reducible exact hI_R | with_reducible exact lcm_R | with_reducible exact band_R | with_reducible exact bor_R | with_reducible exact bshr_R | with_reducible exact bshl_R | omega) (fun hc => ?_) (fun hc => ?_)))) <;> (first | (exfalso; omega) | skip))
        | (show Rch _ _ _ _ _ 104 _ _ _; refine Rch.blk' (Rn_mono mt _) bl_X4_rain_104 (i_lload rfl (i_iload rfl (i_iload rfl (t_cs2 (Rn_mono mt _) 113 rfl (Nat.le_of_ble_eq_true rfl) ?_)))))
        | (show Rch _ _ _ _ _ 113 _ _ _; refine Rch.blk' (Rn_mono mt _) bl_X4_rain_113 (t_if_eq 120 116 rfl rfl (by first | with_reducible exact hI_R | with_reducible exact lcm_R | with_reducible exact band_R | with_reducible exact bor_R | with_reducible exact bshr_R | with_reducible exact bshl_R | omega) (fun hc => ?_) (fun hc => ?_)) <;> (first | (exfalso; omega) | skip))
        | (show Rch _ _ _ _ _ 116 _ _ _; refine Rch.blk' (Rn_mono mt _) bl_X4_rain_116 (i_lconst (t_goto 124 rfl ?_)))
        | (show Rch _ _ _ _ _ 120 _ _ _; refine Rch.blk' (Rn_mono mt _) bl_X4_rain_120 (i_iload_n rfl (i_iconst k_1 (i_isub (i_i2l (t_none ?_))))))
        | (show Rch _ _ _ _ _ 124 _ _ _; refine Rch.blk' (Rn_mono mt _) bl_X4_rain_124 (i_lmul (i_lstore10 trivial (i_aload_n rfl (i_gfs rfl (i_iconst k_5 (i_iload rfl (i_iload rfl (t_cs2 (Rn_mono mt _) 139 rfl (Nat.le_of_ble_eq_true rfl) ?_)))))))))
        | (show Rch _ _ _ _ _ 139 _ _ _; refine Rch.blk' (Rn_mono mt _) bl_X4_rain_139 (t_if_eq 146 142 rfl rfl (by first | with_reducible exact hI_R | with_reducible exact lcm_R | with_reducible exact band_R | with_reducible exact bor_R | with_reducible exact bshr_R | with_reducible exact bshl_R | omega) (fun hc => ?_) (fun hc => ?_)) <;> (first | (exfalso; omega) | skip))
        | (show Rch _ _ _ _ _ 142 _ _ _; refine Rch.blk' (Rn_mono mt _) bl_X4_rain_142 (i_iconst k_1 (t_goto 147 rfl ?_)))
        | (show Rch _ _ _ _ _ 146 _ _ _; refine Rch.blk' (Rn_mono mt _) bl_X4_rain_146 (i_iconst k_0 (t_none ?_)))
        | (show Rch _ _ _ _ _ 147 _ _ _; refine Rch.blk' (Rn_mono mt _) bl_X4_rain_147 (i_iast rfl rfl (by omega) (by simp only [aln]; omega) (by simp only [aln]; omega) (i_aload_n rfl (i_gfs rfl (t_cs1 (Rn_mono mt _) 155 rfl (Nat.le_of_ble_eq_true rfl) ?_)))))
        | (show Rch _ _ _ _ _ 155 _ _ _; refine Rch.blk' (Rn_mono mt _) bl_X4_rain_155 (i_iinc12 trivial k_1 (t_goto 98 rfl ?_)))
        | (show Rch _ _ _ _ _ 161 _ _ _; refine Rch.blk' (Rn_mono mt _) bl_X4_rain_161 (i_lload rfl (i_aload_n rfl (i_gfs rfl (i_iload_n rfl (t_cs2 (Rn_mono mt _) 171 rfl (Nat.le_of_ble_eq_true rfl) ?_))))))
        | (show Rch _ _ _ _ _ 171 _ _ _; refine Rch.blk' (Rn_mono mt _) bl_X4_rain_171 (t_if_eq 179 174 rfl rfl (by first | with_reducible exact hI_R | with_reducible exact lcm_R | with_reducible exact band_R | with_reducible exact bor_R | with_reducible exact bshr_R | with_reducible exact bshl_R | omega) (fun hc => ?_) (fun hc => ?_)) <;> (first | (exfalso; omega) | skip))
        | (show Rch _ _ _ _ _ 174 _ _ _; refine Rch.blk' (Rn_mono mt _) bl_X4_rain_174 (i_lload rfl (t_goto 180 rfl ?_)))
        | (show Rch _ _ _ _ _ 179 _ _ _; refine Rch.blk' (Rn_mono mt _) bl_X4_rain_179 (i_lconst (t_none ?_)))
        | (show Rch _ _ _ _ _ 180 _ _ _; refine Rch.blk' (Rn_mono mt _) bl_X4_rain_180 (i_ladd (i_lstore5 trivial (i_iinc9 trivial k_1 (t_goto 73 rfl ?_)))))
        | (show Rch _ _ _ _ _ 189 _ _ _; refine Rch.blk' (Rn_mono mt _) bl_X4_rain_189 (i_lload rfl (i_lload rfl (i_iload rfl (t_cs3 (Rn_mono mt _) 198 rfl (Nat.le_of_ble_eq_true rfl) ?_)))))
        | (show Rch _ _ _ _ _ 198 _ _ _; refine Rch.blk' (Rn_mono mt _) bl_X4_rain_198 (t_lret ?_)))
  have ky : ((0 ≤ p ∧ p < nn G) ∧ (0 ≤ n ∧ n ≤ 7) ∧ (2 ≤ t ∧ t ≤ 20) ∧ 0 ≤ part ∧ part ≤ 1) → RH bX4_rain (d + 19) Q 51 [some (ar 3 0), some (ai (I p)), some (ai (I n)), some (ai (I t)), some (ai (I part)), some (al (lcst 0)), none, some (al (lcst 1)), none, some (ai (I 0)), none, none, none] h := fun a => by
    rw [l_1]; exact kp a 0 (by omega) (by omega)
  clear key hq kp
  repeat' (first
    | exact ky (by omega)
    | exact k1 (by omega)
    | (show Rn _ _ 110 _ _ _; refine c_X4_isPiece (by assumption) (by assumption) (by first | omega | exact hI_R) (fun _ _ => ?_) (fun _ => ?_))
    | (show Rn _ _ 105 _ _ _; refine c_X4_isIn (by first | omega | exact hI_R) (by first | omega | exact hI_R) (by first | omega | exact hI_R) (fun _ _ => ?_) (fun _ => ?_))
    | (show Rn _ _ 115 _ _ _; refine c_X4_has (by omega) (by omega) (fun _ => ?_) (fun _ => ?_))
    | (show Rn _ _ 114 _ _ _; refine c_X4_isHere (by assumption) (by assumption) (by omega) (by omega) (fun _ _ => ?_) (fun _ => ?_))
    | (show Rch _ _ _ _ _ 0 _ _ _; refine Rch.blk' (Rn_mono mt _) bl_X4_rain_0 (i_aload_n rfl (i_iload_n rfl (t_cv2 (Rn_mono mt _) 5 rfl (Nat.le_of_ble_eq_true rfl) ?_))))
    | (show Rch _ _ _ _ _ 5 _ _ _; refine Rch.blk' (Rn_mono mt _) bl_X4_rain_5 (t_if_eq 38 8 rfl rfl (by first | with_reducible exact hI_R | with_reducible exact lcm_R | with_reducible exact band_R | with_reducible exact bor_R | with_reducible exact bshr_R | with_reducible exact bshl_R | omega) (fun hc => ?_) (fun hc => ?_)) <;> (first | (exfalso; omega) | skip))
    | (show Rch _ _ _ _ _ 8 _ _ _; refine Rch.blk' (Rn_mono mt _) bl_X4_rain_8 (i_iload_n rfl (i_iconst k_0 (i_bipush k_7 (t_cs3 (Rn_mono mt _) 15 rfl (Nat.le_of_ble_eq_true rfl) ?_)))))
    | (show Rch _ _ _ _ _ 15 _ _ _; refine Rch.blk' (Rn_mono mt _) bl_X4_rain_15 (t_if_eq 38 18 rfl rfl (by first | with_reducible exact hI_R | with_reducible exact lcm_R | with_reducible exact band_R | with_reducible exact bor_R | with_reducible exact bshr_R | with_reducible exact bshl_R | omega) (fun hc => ?_) (fun hc => ?_)) <;> (first | (exfalso; omega) | skip))
    | (show Rch _ _ _ _ _ 18 _ _ _; refine Rch.blk' (Rn_mono mt _) bl_X4_rain_18 (i_iload_n rfl (i_iconst k_2 (i_bipush k_20 (t_cs3 (Rn_mono mt _) 25 rfl (Nat.le_of_ble_eq_true rfl) ?_)))))
    | (show Rch _ _ _ _ _ 25 _ _ _; refine Rch.blk' (Rn_mono mt _) bl_X4_rain_25 (t_if_eq 38 28 rfl rfl (by first | with_reducible exact hI_R | with_reducible exact lcm_R | with_reducible exact band_R | with_reducible exact bor_R | with_reducible exact bshr_R | with_reducible exact bshl_R | omega) (fun hc => ?_) (fun hc => ?_)) <;> (first | (exfalso; omega) | skip))
    | (show Rch _ _ _ _ _ 28 _ _ _; refine Rch.blk' (Rn_mono mt _) bl_X4_rain_28 (i_iload rfl (i_iconst k_0 (i_iconst k_1 (t_cs3 (Rn_mono mt _) 35 rfl (Nat.le_of_ble_eq_true rfl) ?_)))))
    | (show Rch _ _ _ _ _ 35 _ _ _; refine Rch.blk' (Rn_mono mt _) bl_X4_rain_35 (t_if_ne 42 38 rfl rfl (by first | with_reducible exact hI_R | with_reducible exact lcm_R | with_reducible exact band_R | with_reducible exact bor_R | with_reducible exact bshr_R | with_reducible exact bshl_R | omega) (fun hc => ?_) (fun hc => ?_)) <;> (first | (exfalso; omega) | skip))
    | (show Rch _ _ _ _ _ 38 _ _ _; refine Rch.blk' (Rn_mono mt _) bl_X4_rain_38 (i_ldc2 (t_lret ?_)))
    | (show Rch _ _ _ _ _ 42 _ _ _; refine Rch.blk' (Rn_mono mt _) bl_X4_rain_42 (i_lconst (i_lstore5 trivial (i_lconst (i_lstore7 trivial (i_iconst k_0 (i_istore9 trivial (t_none ?_))))))))
    | (show Rch _ _ _ _ _ 57 _ _ _; refine Rch.blk' (Rn_mono mt _) bl_X4_rain_57 (i_lload rfl (i_iload_n rfl (i_i2l (i_lmul (i_lstore7 trivial (i_iinc9 trivial k_1 (t_goto 51 rfl ?_))))))))
    | (show Rch _ _ _ _ _ 70 _ _ _; refine Rch.blk' (Rn_mono mt _) bl_X4_rain_70 (i_iconst k_0 (i_istore9 trivial (t_none ?_))))
    | (show Rch _ _ _ _ _ 73 _ _ _; refine Rch.blk' (Rn_mono mt _) bl_X4_rain_73 (i_iload rfl (i_iconst k_1 (i_iload_n rfl (i_ishl (t_ic_ge 189 81 rfl rfl (by first | with_reducible exact hI_R | with_reducible exact lcm_R | with_reducible exact band_R | with_reducible exact bor_R | with_reducible exact bshr_R | with_reducible exact bshl_R | omega) (by first | with_reducible exact hI_R | with_reducible exact lcm_R | with_reducible exact band_R | with_reducible exact bor_R | with_reducible exact bshr_R | with_reducible exact bshl_R | omega) (fun hc => ?_) (fun hc => ?_)))))) <;> (first | (exfalso; omega) | skip))
    | (show Rch _ _ _ _ _ 81 _ _ _; refine Rch.blk' (Rn_mono mt _) bl_X4_rain_81 (i_lconst (i_lstore10 trivial (i_aload_n rfl (i_gfs rfl (i_aload_n rfl (i_gfs rfl (t_cs2 (Rn_mono mt _) 95 rfl (Nat.le_of_ble_eq_true rfl) ?_))))))))
    | (show Rch _ _ _ _ _ 95 _ _ _; refine Rch.blk' (Rn_mono mt _) bl_X4_rain_95 (i_iconst k_0 (i_istore12 trivial (t_none ?_))))
    | (show Rch _ _ _ _ _ 98 _ _ _; refine Rch.blk' (Rn_mono mt _) bl_X4_rain_98 (i_iload rfl (i_iload_n rfl (t_ic_ge 161 104 rfl rfl (by first | with_reducible exact hI_R | with_reducible exact lcm_R | with_reducible exact band_R | with_reducible exact bor_R | with_reducible exact bshr_R | with_reducible exact bshl_R | omega) (by first | with_reducible exact hI_R | with_reducible exact lcm_R | with_reducible exact band_R | with_reducible exact bor_R | with_reducible exact bshr_R | with_reducible exact bshl_R | omega) (fun hc => ?_) (fun hc => ?_)))) <;> (first | (exfalso; omega) | skip))
    | (show Rch _ _ _ _ _ 104 _ _ _; refine Rch.blk' (Rn_mono mt _) bl_X4_rain_104 (i_lload rfl (i_iload rfl (i_iload rfl (t_cs2 (Rn_mono mt _) 113 rfl (Nat.le_of_ble_eq_true rfl) ?_)))))
    | (show Rch _ _ _ _ _ 113 _ _ _; refine Rch.blk' (Rn_mono mt _) bl_X4_rain_113 (t_if_eq 120 116 rfl rfl (by first | with_reducible exact hI_R | with_reducible exact lcm_R | with_reducible exact band_R | with_reducible exact bor_R | with_reducible exact bshr_R | with_reducible exact bshl_R | omega) (fun hc => ?_) (fun hc => ?_)) <;> (first | (exfalso; omega) | skip))
    | (show Rch _ _ _ _ _ 116 _ _ _; refine Rch.blk' (Rn_mono mt _) bl_X4_rain_116 (i_lconst (t_goto 124 rfl ?_)))
    | (show Rch _ _ _ _ _ 120 _ _ _; refine Rch.blk' (Rn_mono mt _) bl_X4_rain_120 (i_iload_n rfl (i_iconst k_1 (i_isub (i_i2l (t_none ?_))))))
    | (show Rch _ _ _ _ _ 124 _ _ _; refine Rch.blk' (Rn_mono mt _) bl_X4_rain_124 (i_lmul (i_lstore10 trivial (i_aload_n rfl (i_gfs rfl (i_iconst k_5 (i_iload rfl (i_iload rfl (t_cs2 (Rn_mono mt _) 139 rfl (Nat.le_of_ble_eq_true rfl) ?_)))))))))
    | (show Rch _ _ _ _ _ 139 _ _ _; refine Rch.blk' (Rn_mono mt _) bl_X4_rain_139 (t_if_eq 146 142 rfl rfl (by first | with_reducible exact hI_R | with_reducible exact lcm_R | with_reducible exact band_R | with_reducible exact bor_R | with_reducible exact bshr_R | with_reducible exact bshl_R | omega) (fun hc => ?_) (fun hc => ?_)) <;> (first | (exfalso; omega) | skip))
    | (show Rch _ _ _ _ _ 142 _ _ _; refine Rch.blk' (Rn_mono mt _) bl_X4_rain_142 (i_iconst k_1 (t_goto 147 rfl ?_)))
    | (show Rch _ _ _ _ _ 146 _ _ _; refine Rch.blk' (Rn_mono mt _) bl_X4_rain_146 (i_iconst k_0 (t_none ?_)))
    | (show Rch _ _ _ _ _ 147 _ _ _; refine Rch.blk' (Rn_mono mt _) bl_X4_rain_147 (i_iast rfl rfl (by omega) (by simp only [aln]; omega) (by simp only [aln]; omega) (i_aload_n rfl (i_gfs rfl (t_cs1 (Rn_mono mt _) 155 rfl (Nat.le_of_ble_eq_true rfl) ?_)))))
    | (show Rch _ _ _ _ _ 155 _ _ _; refine Rch.blk' (Rn_mono mt _) bl_X4_rain_155 (i_iinc12 trivial k_1 (t_goto 98 rfl ?_)))
    | (show Rch _ _ _ _ _ 161 _ _ _; refine Rch.blk' (Rn_mono mt _) bl_X4_rain_161 (i_lload rfl (i_aload_n rfl (i_gfs rfl (i_iload_n rfl (t_cs2 (Rn_mono mt _) 171 rfl (Nat.le_of_ble_eq_true rfl) ?_))))))
    | (show Rch _ _ _ _ _ 171 _ _ _; refine Rch.blk' (Rn_mono mt _) bl_X4_rain_171 (t_if_eq 179 174 rfl rfl (by first | with_reducible exact hI_R | with_reducible exact lcm_R | with_reducible exact band_R | with_reducible exact bor_R | with_reducible exact bshr_R | with_reducible exact bshl_R | omega) (fun hc => ?_) (fun hc => ?_)) <;> (first | (exfalso; omega) | skip))
    | (show Rch _ _ _ _ _ 174 _ _ _; refine Rch.blk' (Rn_mono mt _) bl_X4_rain_174 (i_lload rfl (t_goto 180 rfl ?_)))
    | (show Rch _ _ _ _ _ 179 _ _ _; refine Rch.blk' (Rn_mono mt _) bl_X4_rain_179 (i_lconst (t_none ?_)))
    | (show Rch _ _ _ _ _ 180 _ _ _; refine Rch.blk' (Rn_mono mt _) bl_X4_rain_180 (i_ladd (i_lstore5 trivial (i_iinc9 trivial k_1 (t_goto 73 rfl ?_)))))
    | (show Rch _ _ _ _ _ 189 _ _ _; refine Rch.blk' (Rn_mono mt _) bl_X4_rain_189 (i_lload rfl (i_lload rfl (i_iload rfl (t_cs3 (Rn_mono mt _) 198 rfl (Nat.le_of_ble_eq_true rfl) ?_)))))
    | (show Rch _ _ _ _ _ 198 _ _ _; refine Rch.blk' (Rn_mono mt _) bl_X4_rain_198 (t_lret ?_)))
end C36

