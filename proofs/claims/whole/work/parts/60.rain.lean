/-! RAIN: the value, the class -/
noncomputable def Wy (p t : Int) : Nat → Bd → Int
  | 0, V => if sq V p = 36 then 0 else 1
  | m + 1, V => if sq V p = 36 then 0 else Wy p t m (DAY V no0 1) + (t - 1) * Wy p t m (DAY V no0 0)
def pwr (t : Int) : Nat → Int
  | 0 => 1
  | n + 1 => pwr t n * t
theorem pwr_R {t : Int} (t0 : 2 ≤ t) (t1 : t ≤ 20) : ∀ n : Nat, 1 ≤ pwr t n ∧ pwr t n ≤ (20 : Int) ^ n
  | 0 => ⟨by show (1 : Int) ≤ 1; omega, by show (1 : Int) ≤ (20 : Int) ^ 0; rw [Int.pow_zero]; omega⟩
  | n + 1 => by
    have ih := pwr_R t0 t1 n
    show 1 ≤ pwr t n * t ∧ pwr t n * t ≤ (20 : Int) ^ (n + 1)
    have h1 : 1 * t ≤ pwr t n * t := Int.mul_le_mul_of_nonneg_right ih.1 (by omega)
    have h2 : pwr t n * t ≤ pwr t n * 20 := Int.mul_le_mul_of_nonneg_left t1 (by omega)
    rw [Int.pow_succ]
    omega
theorem Wy_R {p t : Int} (t0 : 2 ≤ t) (t1 : t ≤ 20) : ∀ (m : Nat) (V : Bd), 0 ≤ Wy p t m V ∧ Wy p t m V ≤ pwr t m
  | 0, V => by
    show 0 ≤ (if sq V p = 36 then (0 : Int) else 1) ∧ (if sq V p = 36 then (0 : Int) else 1) ≤ 1
    omega
  | m + 1, V => by
    have i1 := Wy_R (p := p) t0 t1 m (DAY V no0 1)
    have i0 := Wy_R (p := p) t0 t1 m (DAY V no0 0)
    have g := pwr_R t0 t1 m
    show 0 ≤ (if sq V p = 36 then (0 : Int) else Wy p t m (DAY V no0 1) + (t - 1) * Wy p t m (DAY V no0 0)) ∧ (if sq V p = 36 then (0 : Int) else Wy p t m (DAY V no0 1) + (t - 1) * Wy p t m (DAY V no0 0)) ≤ pwr t m * t
    have h1 : 0 ≤ (t - 1) * Wy p t m (DAY V no0 0) := Int.mul_nonneg (by omega) i0.1
    have h2 : (t - 1) * Wy p t m (DAY V no0 0) ≤ (t - 1) * pwr t m := Int.mul_le_mul_of_nonneg_left i0.2 (by omega)
    have h3 : (t - 1) * pwr t m = pwr t m * t - pwr t m := by rw [Int.sub_mul, Int.one_mul, Int.mul_comm]
    have h4 : 1 * t ≤ pwr t m * t := Int.mul_le_mul_of_nonneg_right g.1 (by omega)
    omega
noncomputable def vRain (G : Bd) (p n t part : Int) : Int := if (0 ≤ p ∧ p < nn G) ∧ (0 ≤ n ∧ n ≤ 7) ∧ (2 ≤ t ∧ t ≤ 20) ∧ 0 ≤ part ∧ part ≤ 1 then vPart (Wy p t n.toNat G) (pwr t n.toNat) part else 1000000001
theorem rain_R {p n t : Int} {G : Bd} (n0 : 0 ≤ n) (n1 : n ≤ 7) (t0 : 2 ≤ t) (t1 : t ≤ 20) : (0 ≤ Wy p t n.toNat G ∧ Wy p t n.toNat G < 100000000000) ∧ 0 ≤ pwr t n.toNat ∧ pwr t n.toNat < 100000000000 := by
  have h1 := @Wy_R p t t0 t1 n.toNat G
  have h2 := pwr_R t0 t1 n.toNat
  have h3 : (20 : Int) ^ n.toNat ≤ 1280000000 := by
    have e : n.toNat ≤ 7 := by omega
    generalize n.toNat = k at e
    have : ∀ k : Nat, k ≤ 7 → (20 : Int) ^ k ≤ 1280000000 := by decide +kernel
    exact this k e
  omega
theorem pwr_up {t k : Int} (k0 : 0 ≤ k) : pwr t (k + 1).toNat = pwr t k.toNat * t := by
  rw [show (k + 1).toNat = k.toNat + 1 by omega]
  rfl
/-- above a level -/
def FrW (l : Int) (h h' : Mem) : Prop := ∀ (t b k : Nat), ¬ ((t = 0 ∨ (4 ≤ t ∧ t ≤ 8)) ∧ 4 + l.toNat < b) → hI h' t b k = hI h t b k
section C35
variable {d : Nat} {h : Mem} {Q : Option AV → Mem → Prop} {G : Bd}
theorem c_ways {p t n : Int} (n1 : n ≤ 7) (p0 : 0 ≤ p) (t0 : 2 ≤ t) (t1 : t ≤ 20) : ∀ (m q : Nat), m ≤ q → ∀ (l : Int) (V : Bd) (h : Mem) (Q : Option AV → Mem → Prop), 0 ≤ l → l + (m : Int) = n → RC h (4 + l.toNat) V → OKB V → p < nn V → dy V + (m : Int) < 800000 → (∀ h', FrW l h h' → Q (some (al (L (Wy p t m V)))) h') → Rn mt (q + 6) 88 [ar 21 0, ai (I l), ai (I n), ai (I p), ai (I t)] h Q := by
  intro m
  induction m with
  | zero =>
    intro q hq l V h Q l0 hl hV hO p1 hd hQ
    have g_n := hO.n
    refine Rn.intro iX3_waysToBeThere rfl rfl ?_
    show Rch bX3_waysToBeThere _ _ _ _ 0 [some (ar 21 0), some (ai (I l)), some (ai (I n)), some (ai (I p)), some (ai (I t)), none, none, none, none, none] [] _
    have hQ := hQ h (fun _ _ _ _ => rfl)
    have k0 : ¬ sq V p < 36 → Q (some (al (lcst 0))) h := fun c => by
      have e : Wy p t 0 V = 0 := if_pos (by have := (hO.pc p p0 p1).2.2.2; omega)
      rw [e] at hQ
      rw [l_0]; exact hQ
    have k1 : sq V p < 36 → Q (some (al (lcst 1))) h := fun c => by
      have e : Wy p t 0 V = 1 := if_neg (by omega)
      rw [e] at hQ
      rw [l_1]; exact hQ
    clear hQ
    repeat' (first
      | exact k1 (by omega)
      | exact k0 (by omega)
      | (show Rn _ _ 2 _ _ _; refine c_X0_isThere (by assumption) (by assumption) (by first | omega | exact hI_R) (fun _ _ _ _ => ?_) (fun _ => ?_))
      | (show Rch _ _ _ _ _ 0 _ _ _; refine Rch.blk' (Rn_mono mt _) bl_X3_waysToBeThere_0 (i_iload_n rfl (t_if_lt 10 4 rfl rfl (by first | with_reducible exact hI_R | with_reducible exact lcm_R | with_reducible exact band_R | with_reducible exact bor_R | with_reducible exact bshr_R | with_reducible exact bshl_R | omega) (fun hc => ?_) (fun hc => ?_))) <;> (first | (exfalso; omega) | skip))
      | (show Rch _ _ _ _ _ 4 _ _ _; refine Rch.blk' (Rn_mono mt _) bl_X3_waysToBeThere_4 (i_iload_n rfl (i_aload_n rfl (i_alen rfl (I_nn rfl) (t_ic_lt 12 10 rfl rfl (by first | with_reducible exact hI_R | with_reducible exact lcm_R | with_reducible exact band_R | with_reducible exact bor_R | with_reducible exact bshr_R | with_reducible exact bshl_R | omega) (by first | with_reducible exact hI_R | with_reducible exact lcm_R | with_reducible exact band_R | with_reducible exact bor_R | with_reducible exact bshr_R | with_reducible exact bshl_R | omega) (fun hc => ?_) (fun hc => ?_))))) <;> (first | (exfalso; omega) | skip))
      | (show Rch _ _ _ _ _ 10 _ _ _; refine Rch.blk' (Rn_mono mt _) bl_X3_waysToBeThere_10 (i_lconst (t_lret ?_)))
      | (show Rch _ _ _ _ _ 12 _ _ _; refine Rch.blk' (Rn_mono mt _) bl_X3_waysToBeThere_12 (i_aload_n rfl (i_iload_n rfl (i_aald21 (by omega) (by omega) (i_astore5 trivial (i_aload rfl (t_ifnull_n 31 rfl ?_)))))))
      | (show Rch _ _ _ _ _ 12 _ _ _; refine Rch.blk' (Rn_mono mt _) bl_X3_waysToBeThere_12 (i_aload_n rfl (i_iload_n rfl (i_aald21 (by omega) (by omega) (i_astore5 trivial (i_aload rfl (t_ifnull_s 22 rfl ?_)))))))
      | (show Rch _ _ _ _ _ 22 _ _ _; refine Rch.blk' (Rn_mono mt _) bl_X3_waysToBeThere_22 (i_aload rfl (i_iload_n rfl (t_cv2 (Rn_mono mt _) 28 rfl (Nat.le_of_ble_eq_true rfl) ?_))))
      | (show Rch _ _ _ _ _ 28 _ _ _; refine Rch.blk' (Rn_mono mt _) bl_X3_waysToBeThere_28 (t_if_ne 33 31 rfl rfl (by first | with_reducible exact hI_R | with_reducible exact lcm_R | with_reducible exact band_R | with_reducible exact bor_R | with_reducible exact bshr_R | with_reducible exact bshl_R | omega) (fun hc => ?_) (fun hc => ?_)) <;> (first | (exfalso; omega) | skip))
      | (show Rch _ _ _ _ _ 31 _ _ _; refine Rch.blk' (Rn_mono mt _) bl_X3_waysToBeThere_31 (i_lconst (t_lret ?_)))
      | (show Rch _ _ _ _ _ 33 _ _ _; refine Rch.blk' (Rn_mono mt _) bl_X3_waysToBeThere_33 (i_iload_n rfl (i_iconst k_1 (i_iadd (i_istore6 trivial (i_iload_n rfl (i_iload_n rfl (t_ic_ge 50 43 rfl rfl (by first | with_reducible exact hI_R | with_reducible exact lcm_R | with_reducible exact band_R | with_reducible exact bor_R | with_reducible exact bshr_R | with_reducible exact bshl_R | omega) (by first | with_reducible exact hI_R | with_reducible exact lcm_R | with_reducible exact band_R | with_reducible exact bor_R | with_reducible exact bshr_R | with_reducible exact bshl_R | omega) (fun hc => ?_) (fun hc => ?_)))))))) <;> (first | (exfalso; omega) | skip))
      | (show Rch _ _ _ _ _ 43 _ _ _; refine Rch.blk' (Rn_mono mt _) bl_X3_waysToBeThere_43 (i_iload rfl (i_aload_n rfl (i_alen rfl (I_nn rfl) (t_ic_lt 52 50 rfl rfl (by first | with_reducible exact hI_R | with_reducible exact lcm_R | with_reducible exact band_R | with_reducible exact bor_R | with_reducible exact bshr_R | with_reducible exact bshl_R | omega) (by first | with_reducible exact hI_R | with_reducible exact lcm_R | with_reducible exact band_R | with_reducible exact bor_R | with_reducible exact bshr_R | with_reducible exact bshl_R | omega) (fun hc => ?_) (fun hc => ?_))))) <;> (first | (exfalso; omega) | skip))
      | (show Rch _ _ _ _ _ 50 _ _ _; refine Rch.blk' (Rn_mono mt _) bl_X3_waysToBeThere_50 (i_lconst (t_lret ?_)))
      | (show Rch _ _ _ _ _ 52 _ _ _; refine Rch.blk' (Rn_mono mt _) bl_X3_waysToBeThere_52 (i_aload_n rfl (i_iload rfl (i_aald21 (by omega) (by omega) (i_astore7 trivial (i_aload rfl (t_ifnonnull_n 63 rfl ?_)))))))
      | (show Rch _ _ _ _ _ 52 _ _ _; refine Rch.blk' (Rn_mono mt _) bl_X3_waysToBeThere_52 (i_aload_n rfl (i_iload rfl (i_aald21 (by omega) (by omega) (i_astore7 trivial (i_aload rfl (t_ifnonnull_s 65 rfl ?_)))))))
      | (show Rch _ _ _ _ _ 63 _ _ _; refine Rch.blk' (Rn_mono mt _) bl_X3_waysToBeThere_63 (i_lconst (t_lret ?_)))
      | (show Rch _ _ _ _ _ 72 _ _ _; refine Rch.blk' (Rn_mono mt _) bl_X3_waysToBeThere_72 (i_aload rfl (i_iconst k_0 (i_iconst k_1 (t_cv3 (Rn_mono mt _) 79 rfl (Nat.le_of_ble_eq_true rfl) ?_)))))
      | (show Rch _ _ _ _ _ 79 _ _ _; refine Rch.blk' (Rn_mono mt _) bl_X3_waysToBeThere_79 (i_pop rfl (i_aload_n rfl (i_iload rfl (i_iload_n rfl (i_iload_n rfl (i_iload rfl (t_cs5 (Rn_mono mt _) 90 rfl (Nat.le_of_ble_eq_true rfl) ?_))))))))
      | (show Rch _ _ _ _ _ 90 _ _ _; refine Rch.blk' (Rn_mono mt _) bl_X3_waysToBeThere_90 (i_lstore8 trivial (i_aload rfl (i_aload rfl (t_cv2 (Rn_mono mt _) 99 rfl (Nat.le_of_ble_eq_true rfl) ?_)))))
      | (show Rch _ _ _ _ _ 99 _ _ _; refine Rch.blk' (Rn_mono mt _) bl_X3_waysToBeThere_99 (i_aload rfl (i_iconst k_0 (i_iconst k_0 (t_cv3 (Rn_mono mt _) 106 rfl (Nat.le_of_ble_eq_true rfl) ?_)))))
      | (show Rch _ _ _ _ _ 106 _ _ _; refine Rch.blk' (Rn_mono mt _) bl_X3_waysToBeThere_106 (i_pop rfl (i_lload rfl (i_iload rfl (i_iconst k_1 (i_isub (i_i2l (i_aload_n rfl (i_iload rfl (i_iload_n rfl (i_iload_n rfl (i_iload rfl (t_cs5 (Rn_mono mt _) 124 rfl (Nat.le_of_ble_eq_true rfl) ?_)))))))))))))
      | (show Rch _ _ _ _ _ 124 _ _ _; refine Rch.blk' (Rn_mono mt _) bl_X3_waysToBeThere_124 (i_lmul (i_ladd (t_lret ?_)))))
  | succ m ih =>
    intro q hq l V h Q l0 hl hV hO p1 hd hQ
    have g_n := hO.n
    obtain ⟨q', rfl⟩ : ∃ q', q = q' + 1 := ⟨q - 1, by omega⟩
    refine Rn.intro iX3_waysToBeThere rfl rfl ?_
    show Rch bX3_waysToBeThere _ _ _ _ 0 [some (ar 21 0), some (ai (I l)), some (ai (I n)), some (ai (I p)), some (ai (I t)), none, none, none, none, none] [] _
    have k0 : ¬ sq V p < 36 → Q (some (al (lcst 0))) h := fun c => by
      have e : Wy p t (m + 1) V = 0 := if_pos (by have := (hO.pc p p0 p1).2.2.2; omega)
      have := hQ h (fun _ _ _ _ => rfl)
      rw [e] at this
      rw [l_0]; exact this
    have h65 : sq V p < 36 → Rch bX3_waysToBeThere (Rn mt (q' + 1 + 5)) 0 (fun _ _ _ _ => False) Q 65 [some (ar 21 0), some (ai (I l)), some (ai (I n)), some (ai (I p)), some (ai (I t)), some (ar 0 (4 + l.toNat)), some (ai (I (l + 1))), some (ar 0 (4 + (l + 1).toNat)), none, none] [] h := by
      intro c
      have f1 := @DAY_f V no0 1
      have f0 := @DAY_f V no0 0
      have hO1 : OKB (DAY V no0 1) := OKB_DAY hO
      have hO0 : OKB (DAY V no0 0) := OKB_DAY hO
      refine Rch.blk' (Rn_mono mt _) bl_X3_waysToBeThere_65 (i_aload rfl (i_aload rfl (t_cv2 (Rn_mono mt _) 72 rfl (Nat.le_of_ble_eq_true rfl) ?_)))
      refine c_X0_becomes hV hO (by omega) (fun h1 hG1 hF1 => ?_)
      refine Rch.blk' (Rn_mono mt _) bl_X3_waysToBeThere_72 (i_aload rfl (i_iconst k_0 (i_iconst k_1 (t_cv3 (Rn_mono mt _) 79 rfl (Nat.le_of_ble_eq_true rfl) ?_))))
      refine c_X0_passDay0 (ra := 1) hG1 hO (Or.inr rfl) (by omega) (fun h2 hG2 hF2 v _ => ?_)
      refine Rch.blk' (Rn_mono mt _) bl_X3_waysToBeThere_79 (i_pop rfl (i_aload_n rfl (i_iload rfl (i_iload_n rfl (i_iload_n rfl (i_iload rfl (t_cs5 (Rn_mono mt _) 90 rfl (Nat.le_of_ble_eq_true rfl) ?_)))))))
      refine ih q' (by omega) (l + 1) (DAY V no0 1) h2 _ (by omega) (by omega) hG2 hO1 (by rw [f1.1]; exact p1) (by rw [f1.2.1]; omega) (fun h3 hF3 => ?_)
      have hV3 : RC h3 (4 + l.toNat) V := ((hV.fr hF1 (by omega)).fr hF2 (by omega)).eqs (fun t j ht => hF3 t _ j (by omega))
      refine Rch.blk' (Rn_mono mt _) bl_X3_waysToBeThere_90 (i_lstore8 trivial (i_aload rfl (i_aload rfl (t_cv2 (Rn_mono mt _) 99 rfl (Nat.le_of_ble_eq_true rfl) ?_))))
      refine c_X0_becomes hV3 hO (by omega) (fun h4 hG4 hF4 => ?_)
      refine Rch.blk' (Rn_mono mt _) bl_X3_waysToBeThere_99 (i_aload rfl (i_iconst k_0 (i_iconst k_0 (t_cv3 (Rn_mono mt _) 106 rfl (Nat.le_of_ble_eq_true rfl) ?_))))
      refine c_X0_passDay0 (ra := 0) hG4 hO (Or.inl rfl) (by omega) (fun h5 hG5 hF5 v2 _ => ?_)
      refine Rch.blk' (Rn_mono mt _) bl_X3_waysToBeThere_106 (i_pop rfl (i_lload rfl (i_iload rfl (i_iconst k_1 (i_isub (i_i2l (i_aload_n rfl (i_iload rfl (i_iload_n rfl (i_iload_n rfl (i_iload rfl (t_cs5 (Rn_mono mt _) 124 rfl (Nat.le_of_ble_eq_true rfl) ?_))))))))))))
      refine ih q' (by omega) (l + 1) (DAY V no0 0) h5 _ (by omega) (by omega) hG5 hO0 (by rw [f0.1]; exact p1) (by rw [f0.2.1]; omega) (fun h6 hF6 => ?_)
      have e : L (Wy p t m (DAY V no0 1)) + (I (t - 1)).toInt64 * L (Wy p t m (DAY V no0 0)) = L (Wy p t (m + 1) V) := by
        rw [L_i2l ⟨by omega, by omega⟩, L_mul, L_add]
        congr 1
        exact (if_neg (show ¬ sq V p = 36 by omega)).symm
      have kk := hQ h6 (fun t b j hn => by
        rw [hF6 t b j (by omega), hF5 t b j (by omega), hF4 t b j (by omega), hF3 t b j (by omega), hF2 t b j (by omega), hF1 t b j (by omega)])
      rw [← e] at kk
      clear hQ ih
      repeat' (first
        | exact kk
        | (show Rn _ _ 2 _ _ _; refine c_X0_isThere (by assumption) (by assumption) (by first | omega | exact hI_R) (fun _ _ _ _ => ?_) (fun _ => ?_))
        | (show Rch _ _ _ _ _ 0 _ _ _; refine Rch.blk' (Rn_mono mt _) bl_X3_waysToBeThere_0 (i_iload_n rfl (t_if_lt 10 4 rfl rfl (by first | with_reducible exact hI_R | with_reducible exact lcm_R | with_reducible exact band_R | with_reducible exact bor_R | with_reducible exact bshr_R | with_reducible exact bshl_R | omega) (fun hc => ?_) (fun hc => ?_))) <;> (first | (exfalso; omega) | skip))
        | (show Rch _ _ _ _ _ 4 _ _ _; refine Rch.blk' (Rn_mono mt _) bl_X3_waysToBeThere_4 (i_iload_n rfl (i_aload_n rfl (i_alen rfl (I_nn rfl) (t_ic_lt 12 10 rfl rfl (by first | with_reducible exact hI_R | with_reducible exact lcm_R | with_reducible exact band_R | with_reducible exact bor_R | with_reducible exact bshr_R | with_reducible exact bshl_R | omega) (by first | with_reducible exact hI_R | with_reducible exact lcm_R | with_reducible exact band_R | with_reducible exact bor_R | with_reducible exact bshr_R | with_reducible exact bshl_R | omega) (fun hc => ?_) (fun hc => ?_))))) <;> (first | (exfalso; omega) | skip))
        | (show Rch _ _ _ _ _ 10 _ _ _; refine Rch.blk' (Rn_mono mt _) bl_X3_waysToBeThere_10 (i_lconst (t_lret ?_)))
        | (show Rch _ _ _ _ _ 12 _ _ _; refine Rch.blk' (Rn_mono mt _) bl_X3_waysToBeThere_12 (i_aload_n rfl (i_iload_n rfl (i_aald21 (by omega) (by omega) (i_astore5 trivial (i_aload rfl (t_ifnull_n 31 rfl ?_)))))))
        | (show Rch _ _ _ _ _ 12 _ _ _; refine Rch.blk' (Rn_mono mt _) bl_X3_waysToBeThere_12 (i_aload_n rfl (i_iload_n rfl (i_aald21 (by omega) (by omega) (i_astore5 trivial (i_aload rfl (t_ifnull_s 22 rfl ?_)))))))
        | (show Rch _ _ _ _ _ 22 _ _ _; refine Rch.blk' (Rn_mono mt _) bl_X3_waysToBeThere_22 (i_aload rfl (i_iload_n rfl (t_cv2 (Rn_mono mt _) 28 rfl (Nat.le_of_ble_eq_true rfl) ?_))))
        | (show Rch _ _ _ _ _ 28 _ _ _; refine Rch.blk' (Rn_mono mt _) bl_X3_waysToBeThere_28 (t_if_ne 33 31 rfl rfl (by first | with_reducible exact hI_R | with_reducible exact lcm_R | with_reducible exact band_R | with_reducible exact bor_R | with_reducible exact bshr_R | with_reducible exact bshl_R | omega) (fun hc => ?_) (fun hc => ?_)) <;> (first | (exfalso; omega) | skip))
        | (show Rch _ _ _ _ _ 31 _ _ _; refine Rch.blk' (Rn_mono mt _) bl_X3_waysToBeThere_31 (i_lconst (t_lret ?_)))
        | (show Rch _ _ _ _ _ 33 _ _ _; refine Rch.blk' (Rn_mono mt _) bl_X3_waysToBeThere_33 (i_iload_n rfl (i_iconst k_1 (i_iadd (i_istore6 trivial (i_iload_n rfl (i_iload_n rfl (t_ic_ge 50 43 rfl rfl (by first | with_reducible exact hI_R | with_reducible exact lcm_R | with_reducible exact band_R | with_reducible exact bor_R | with_reducible exact bshr_R | with_reducible exact bshl_R | omega) (by first | with_reducible exact hI_R | with_reducible exact lcm_R | with_reducible exact band_R | with_reducible exact bor_R | with_reducible exact bshr_R | with_reducible exact bshl_R | omega) (fun hc => ?_) (fun hc => ?_)))))))) <;> (first | (exfalso; omega) | skip))
        | (show Rch _ _ _ _ _ 43 _ _ _; refine Rch.blk' (Rn_mono mt _) bl_X3_waysToBeThere_43 (i_iload rfl (i_aload_n rfl (i_alen rfl (I_nn rfl) (t_ic_lt 52 50 rfl rfl (by first | with_reducible exact hI_R | with_reducible exact lcm_R | with_reducible exact band_R | with_reducible exact bor_R | with_reducible exact bshr_R | with_reducible exact bshl_R | omega) (by first | with_reducible exact hI_R | with_reducible exact lcm_R | with_reducible exact band_R | with_reducible exact bor_R | with_reducible exact bshr_R | with_reducible exact bshl_R | omega) (fun hc => ?_) (fun hc => ?_))))) <;> (first | (exfalso; omega) | skip))
        | (show Rch _ _ _ _ _ 50 _ _ _; refine Rch.blk' (Rn_mono mt _) bl_X3_waysToBeThere_50 (i_lconst (t_lret ?_)))
        | (show Rch _ _ _ _ _ 52 _ _ _; refine Rch.blk' (Rn_mono mt _) bl_X3_waysToBeThere_52 (i_aload_n rfl (i_iload rfl (i_aald21 (by omega) (by omega) (i_astore7 trivial (i_aload rfl (t_ifnonnull_n 63 rfl ?_)))))))
        | (show Rch _ _ _ _ _ 52 _ _ _; refine Rch.blk' (Rn_mono mt _) bl_X3_waysToBeThere_52 (i_aload_n rfl (i_iload rfl (i_aald21 (by omega) (by omega) (i_astore7 trivial (i_aload rfl (t_ifnonnull_s 65 rfl ?_)))))))
        | (show Rch _ _ _ _ _ 63 _ _ _; refine Rch.blk' (Rn_mono mt _) bl_X3_waysToBeThere_63 (i_lconst (t_lret ?_)))
        | (show Rch _ _ _ _ _ 72 _ _ _; refine Rch.blk' (Rn_mono mt _) bl_X3_waysToBeThere_72 (i_aload rfl (i_iconst k_0 (i_iconst k_1 (t_cv3 (Rn_mono mt _) 79 rfl (Nat.le_of_ble_eq_true rfl) ?_)))))
        | (show Rch _ _ _ _ _ 79 _ _ _; refine Rch.blk' (Rn_mono mt _) bl_X3_waysToBeThere_79 (i_pop rfl (i_aload_n rfl (i_iload rfl (i_iload_n rfl (i_iload_n rfl (i_iload rfl (t_cs5 (Rn_mono mt _) 90 rfl (Nat.le_of_ble_eq_true rfl) ?_))))))))
        | (show Rch _ _ _ _ _ 90 _ _ _; refine Rch.blk' (Rn_mono mt _) bl_X3_waysToBeThere_90 (i_lstore8 trivial (i_aload rfl (i_aload rfl (t_cv2 (Rn_mono mt _) 99 rfl (Nat.le_of_ble_eq_true rfl) ?_)))))
        | (show Rch _ _ _ _ _ 99 _ _ _; refine Rch.blk' (Rn_mono mt _) bl_X3_waysToBeThere_99 (i_aload rfl (i_iconst k_0 (i_iconst k_0 (t_cv3 (Rn_mono mt _) 106 rfl (Nat.le_of_ble_eq_true rfl) ?_)))))
        | (show Rch _ _ _ _ _ 106 _ _ _; refine Rch.blk' (Rn_mono mt _) bl_X3_waysToBeThere_106 (i_pop rfl (i_lload rfl (i_iload rfl (i_iconst k_1 (i_isub (i_i2l (i_aload_n rfl (i_iload rfl (i_iload_n rfl (i_iload_n rfl (i_iload rfl (t_cs5 (Rn_mono mt _) 124 rfl (Nat.le_of_ble_eq_true rfl) ?_)))))))))))))
        | (show Rch _ _ _ _ _ 124 _ _ _; refine Rch.blk' (Rn_mono mt _) bl_X3_waysToBeThere_124 (i_lmul (i_ladd (t_lret ?_)))))
    clear ih hQ
    repeat' (first
      | exact h65 (by omega)
      | exact k0 (by omega)
      | (show Rn _ _ 2 _ _ _; refine c_X0_isThere (by assumption) (by assumption) (by first | omega | exact hI_R) (fun _ _ _ _ => ?_) (fun _ => ?_))
      | (show Rch _ _ _ _ _ 0 _ _ _; refine Rch.blk' (Rn_mono mt _) bl_X3_waysToBeThere_0 (i_iload_n rfl (t_if_lt 10 4 rfl rfl (by first | with_reducible exact hI_R | with_reducible exact lcm_R | with_reducible exact band_R | with_reducible exact bor_R | with_reducible exact bshr_R | with_reducible exact bshl_R | omega) (fun hc => ?_) (fun hc => ?_))) <;> (first | (exfalso; omega) | skip))
      | (show Rch _ _ _ _ _ 4 _ _ _; refine Rch.blk' (Rn_mono mt _) bl_X3_waysToBeThere_4 (i_iload_n rfl (i_aload_n rfl (i_alen rfl (I_nn rfl) (t_ic_lt 12 10 rfl rfl (by first | with_reducible exact hI_R | with_reducible exact lcm_R | with_reducible exact band_R | with_reducible exact bor_R | with_reducible exact bshr_R | with_reducible exact bshl_R | omega) (by first | with_reducible exact hI_R | with_reducible exact lcm_R | with_reducible exact band_R | with_reducible exact bor_R | with_reducible exact bshr_R | with_reducible exact bshl_R | omega) (fun hc => ?_) (fun hc => ?_))))) <;> (first | (exfalso; omega) | skip))
      | (show Rch _ _ _ _ _ 10 _ _ _; refine Rch.blk' (Rn_mono mt _) bl_X3_waysToBeThere_10 (i_lconst (t_lret ?_)))
      | (show Rch _ _ _ _ _ 12 _ _ _; refine Rch.blk' (Rn_mono mt _) bl_X3_waysToBeThere_12 (i_aload_n rfl (i_iload_n rfl (i_aald21 (by omega) (by omega) (i_astore5 trivial (i_aload rfl (t_ifnull_n 31 rfl ?_)))))))
      | (show Rch _ _ _ _ _ 12 _ _ _; refine Rch.blk' (Rn_mono mt _) bl_X3_waysToBeThere_12 (i_aload_n rfl (i_iload_n rfl (i_aald21 (by omega) (by omega) (i_astore5 trivial (i_aload rfl (t_ifnull_s 22 rfl ?_)))))))
      | (show Rch _ _ _ _ _ 22 _ _ _; refine Rch.blk' (Rn_mono mt _) bl_X3_waysToBeThere_22 (i_aload rfl (i_iload_n rfl (t_cv2 (Rn_mono mt _) 28 rfl (Nat.le_of_ble_eq_true rfl) ?_))))
      | (show Rch _ _ _ _ _ 28 _ _ _; refine Rch.blk' (Rn_mono mt _) bl_X3_waysToBeThere_28 (t_if_ne 33 31 rfl rfl (by first | with_reducible exact hI_R | with_reducible exact lcm_R | with_reducible exact band_R | with_reducible exact bor_R | with_reducible exact bshr_R | with_reducible exact bshl_R | omega) (fun hc => ?_) (fun hc => ?_)) <;> (first | (exfalso; omega) | skip))
      | (show Rch _ _ _ _ _ 31 _ _ _; refine Rch.blk' (Rn_mono mt _) bl_X3_waysToBeThere_31 (i_lconst (t_lret ?_)))
      | (show Rch _ _ _ _ _ 33 _ _ _; refine Rch.blk' (Rn_mono mt _) bl_X3_waysToBeThere_33 (i_iload_n rfl (i_iconst k_1 (i_iadd (i_istore6 trivial (i_iload_n rfl (i_iload_n rfl (t_ic_ge 50 43 rfl rfl (by first | with_reducible exact hI_R | with_reducible exact lcm_R | with_reducible exact band_R | with_reducible exact bor_R | with_reducible exact bshr_R | with_reducible exact bshl_R | omega) (by first | with_reducible exact hI_R | with_reducible exact lcm_R | with_reducible exact band_R | with_reducible exact bor_R | with_reducible exact bshr_R | with_reducible exact bshl_R | omega) (fun hc => ?_) (fun hc => ?_)))))))) <;> (first | (exfalso; omega) | skip))
      | (show Rch _ _ _ _ _ 43 _ _ _; refine Rch.blk' (Rn_mono mt _) bl_X3_waysToBeThere_43 (i_iload rfl (i_aload_n rfl (i_alen rfl (I_nn rfl) (t_ic_lt 52 50 rfl rfl (by first | with_reducible exact hI_R | with_reducible exact lcm_R | with_reducible exact band_R | with_reducible exact bor_R | with_reducible exact bshr_R | with_reducible exact bshl_R | omega) (by first | with_reducible exact hI_R | with_reducible exact lcm_R | with_reducible exact band_R | with_reducible exact bor_R | with_reducible exact bshr_R | with_reducible exact bshl_R | omega) (fun hc => ?_) (fun hc => ?_))))) <;> (first | (exfalso; omega) | skip))
      | (show Rch _ _ _ _ _ 50 _ _ _; refine Rch.blk' (Rn_mono mt _) bl_X3_waysToBeThere_50 (i_lconst (t_lret ?_)))
      | (show Rch _ _ _ _ _ 52 _ _ _; refine Rch.blk' (Rn_mono mt _) bl_X3_waysToBeThere_52 (i_aload_n rfl (i_iload rfl (i_aald21 (by omega) (by omega) (i_astore7 trivial (i_aload rfl (t_ifnonnull_n 63 rfl ?_)))))))
      | (show Rch _ _ _ _ _ 52 _ _ _; refine Rch.blk' (Rn_mono mt _) bl_X3_waysToBeThere_52 (i_aload_n rfl (i_iload rfl (i_aald21 (by omega) (by omega) (i_astore7 trivial (i_aload rfl (t_ifnonnull_s 65 rfl ?_)))))))
      | (show Rch _ _ _ _ _ 63 _ _ _; refine Rch.blk' (Rn_mono mt _) bl_X3_waysToBeThere_63 (i_lconst (t_lret ?_)))
      | (show Rch _ _ _ _ _ 72 _ _ _; refine Rch.blk' (Rn_mono mt _) bl_X3_waysToBeThere_72 (i_aload rfl (i_iconst k_0 (i_iconst k_1 (t_cv3 (Rn_mono mt _) 79 rfl (Nat.le_of_ble_eq_true rfl) ?_)))))
      | (show Rch _ _ _ _ _ 79 _ _ _; refine Rch.blk' (Rn_mono mt _) bl_X3_waysToBeThere_79 (i_pop rfl (i_aload_n rfl (i_iload rfl (i_iload_n rfl (i_iload_n rfl (i_iload rfl (t_cs5 (Rn_mono mt _) 90 rfl (Nat.le_of_ble_eq_true rfl) ?_))))))))
      | (show Rch _ _ _ _ _ 90 _ _ _; refine Rch.blk' (Rn_mono mt _) bl_X3_waysToBeThere_90 (i_lstore8 trivial (i_aload rfl (i_aload rfl (t_cv2 (Rn_mono mt _) 99 rfl (Nat.le_of_ble_eq_true rfl) ?_)))))
      | (show Rch _ _ _ _ _ 99 _ _ _; refine Rch.blk' (Rn_mono mt _) bl_X3_waysToBeThere_99 (i_aload rfl (i_iconst k_0 (i_iconst k_0 (t_cv3 (Rn_mono mt _) 106 rfl (Nat.le_of_ble_eq_true rfl) ?_)))))
      | (show Rch _ _ _ _ _ 106 _ _ _; refine Rch.blk' (Rn_mono mt _) bl_X3_waysToBeThere_106 (i_pop rfl (i_lload rfl (i_iload rfl (i_iconst k_1 (i_isub (i_i2l (i_aload_n rfl (i_iload rfl (i_iload_n rfl (i_iload_n rfl (i_iload rfl (t_cs5 (Rn_mono mt _) 124 rfl (Nat.le_of_ble_eq_true rfl) ?_)))))))))))))
      | (show Rch _ _ _ _ _ 124 _ _ _; refine Rch.blk' (Rn_mono mt _) bl_X3_waysToBeThere_124 (i_lmul (i_ladd (t_lret ?_)))))
theorem c_X3_rain (hG : RC h 0 G) (hO : OKB G) (hy : dy G ≤ 999) {p n t part : Int} (hp : inR p) (hn : inR n) (ht : inR t) (hpa : inR part) (hq : ∀ v h', v = vRain G p n t part → JX h h' → Q (some (al (L v))) h') : Rn mt (d + 20) 90 [ar 2 0, ai (I p), ai (I n), ai (I t), ai (I part)] h Q := by
  refine Rn.intro iX3_rain rfl rfl ?_
  show Rch bX3_rain _ _ _ _ 0 [some (ar 2 0), some (ai (I p)), some (ai (I n)), some (ai (I t)), some (ai (I part)), none, none, none, none] [] _
  have k1 : ¬ ((0 ≤ p ∧ p < nn G) ∧ (0 ≤ n ∧ n ≤ 7) ∧ (2 ≤ t ∧ t ≤ 20) ∧ 0 ≤ part ∧ part ≤ 1) → Q (some (al (lcst 1000000001))) h := fun a => by
    rw [l_n]; exact hq _ _ (by unfold vRain; rw [if_neg a]) JX.rf
  have key : ((0 ≤ p ∧ p < nn G) ∧ (0 ≤ n ∧ n ≤ 7) ∧ (2 ≤ t ∧ t ≤ 20) ∧ 0 ≤ part ∧ part ≤ 1) → ∀ h', RC h' (4 + Int.toNat 0) G → FrC h h' (4 + Int.toNat 0) → ∀ k : Int, k ≤ n → 0 ≤ k → RH bX3_rain (d + 19) Q 79 [some (ar 2 0), some (ai (I p)), some (ai (I n)), some (ai (I t)), some (ai (I part)), some (ar 0 (4 + Int.toNat 0)), some (al (L (pwr t k.toNat))), none, some (ai (I k))] h' := by
    rintro ⟨⟨p0, p1⟩, ⟨n0, n1⟩, ⟨t0, t1⟩, hpart⟩ h' hR hF
    refine up_ind (fun k hk ih hk0 => ?_)
    by_cases hk1 : k < n
    · have ih := ih hk1 (by omega)
      rw [pwr_up hk0] at ih
      have e : L (pwr t k.toNat) * (I t).toInt64 = L (pwr t k.toNat * t) := by rw [L_i2l ht, L_mul]
      rw [← e] at ih
      clear hq k1
      refine Rch.blk' (Rn_mono mt _) bl_X3_rain_79 (i_iload rfl (i_iload_n rfl (t_ic_ge 98 85 rfl rfl (by first | with_reducible exact hI_R | with_reducible exact lcm_R | with_reducible exact band_R | with_reducible exact bor_R | with_reducible exact bshr_R | with_reducible exact bshl_R | omega) (by first | with_reducible exact hI_R | with_reducible exact lcm_R | with_reducible exact band_R | with_reducible exact bor_R | with_reducible exact bshr_R | with_reducible exact bshl_R | omega) (fun hc => ?_) (fun hc => ?_)))) <;> (first | (exfalso; omega) | skip)
      repeat' (first
        | exact ih
        | (show Rn _ _ 1 _ _ _; refine c_X0_has (by assumption) (by assumption) (by first | omega | exact hI_R) (fun _ _ => ?_) (fun _ => ?_))
        | (show Rch _ _ _ _ _ 0 _ _ _; refine Rch.blk' (Rn_mono mt _) bl_X3_rain_0 (i_aload_n rfl (i_gfs rfl (i_iload_n rfl (t_cv2 (Rn_mono mt _) 8 rfl (Nat.le_of_ble_eq_true rfl) ?_)))))
        | (show Rch _ _ _ _ _ 8 _ _ _; refine Rch.blk' (Rn_mono mt _) bl_X3_rain_8 (t_if_eq 43 11 rfl rfl (by first | with_reducible exact hI_R | with_reducible exact lcm_R | with_reducible exact band_R | with_reducible exact bor_R | with_reducible exact bshr_R | with_reducible exact bshl_R | omega) (fun hc => ?_) (fun hc => ?_)) <;> (first | (exfalso; omega) | skip))
        | (show Rch _ _ _ _ _ 11 _ _ _; refine Rch.blk' (Rn_mono mt _) bl_X3_rain_11 (i_iload_n rfl (t_if_lt 43 15 rfl rfl (by first | with_reducible exact hI_R | with_reducible exact lcm_R | with_reducible exact band_R | with_reducible exact bor_R | with_reducible exact bshr_R | with_reducible exact bshl_R | omega) (fun hc => ?_) (fun hc => ?_))) <;> (first | (exfalso; omega) | skip))
        | (show Rch _ _ _ _ _ 15 _ _ _; refine Rch.blk' (Rn_mono mt _) bl_X3_rain_15 (i_iload_n rfl (i_bipush k_7 (t_ic_gt 43 21 rfl rfl (by first | with_reducible exact hI_R | with_reducible exact lcm_R | with_reducible exact band_R | with_reducible exact bor_R | with_reducible exact bshr_R | with_reducible exact bshl_R | omega) (by first | with_reducible exact hI_R | with_reducible exact lcm_R | with_reducible exact band_R | with_reducible exact bor_R | with_reducible exact bshr_R | with_reducible exact bshl_R | omega) (fun hc => ?_) (fun hc => ?_)))) <;> (first | (exfalso; omega) | skip))
        | (show Rch _ _ _ _ _ 21 _ _ _; refine Rch.blk' (Rn_mono mt _) bl_X3_rain_21 (i_iload_n rfl (i_iconst k_2 (t_ic_lt 43 26 rfl rfl (by first | with_reducible exact hI_R | with_reducible exact lcm_R | with_reducible exact band_R | with_reducible exact bor_R | with_reducible exact bshr_R | with_reducible exact bshl_R | omega) (by first | with_reducible exact hI_R | with_reducible exact lcm_R | with_reducible exact band_R | with_reducible exact bor_R | with_reducible exact bshr_R | with_reducible exact bshl_R | omega) (fun hc => ?_) (fun hc => ?_)))) <;> (first | (exfalso; omega) | skip))
        | (show Rch _ _ _ _ _ 26 _ _ _; refine Rch.blk' (Rn_mono mt _) bl_X3_rain_26 (i_iload_n rfl (i_bipush k_20 (t_ic_gt 43 32 rfl rfl (by first | with_reducible exact hI_R | with_reducible exact lcm_R | with_reducible exact band_R | with_reducible exact bor_R | with_reducible exact bshr_R | with_reducible exact bshl_R | omega) (by first | with_reducible exact hI_R | with_reducible exact lcm_R | with_reducible exact band_R | with_reducible exact bor_R | with_reducible exact bshr_R | with_reducible exact bshl_R | omega) (fun hc => ?_) (fun hc => ?_)))) <;> (first | (exfalso; omega) | skip))
        | (show Rch _ _ _ _ _ 32 _ _ _; refine Rch.blk' (Rn_mono mt _) bl_X3_rain_32 (i_iload rfl (t_if_lt 43 37 rfl rfl (by first | with_reducible exact hI_R | with_reducible exact lcm_R | with_reducible exact band_R | with_reducible exact bor_R | with_reducible exact bshr_R | with_reducible exact bshl_R | omega) (fun hc => ?_) (fun hc => ?_))) <;> (first | (exfalso; omega) | skip))
        | (show Rch _ _ _ _ _ 37 _ _ _; refine Rch.blk' (Rn_mono mt _) bl_X3_rain_37 (i_iload rfl (i_iconst k_1 (t_ic_le 47 43 rfl rfl (by first | with_reducible exact hI_R | with_reducible exact lcm_R | with_reducible exact band_R | with_reducible exact bor_R | with_reducible exact bshr_R | with_reducible exact bshl_R | omega) (by first | with_reducible exact hI_R | with_reducible exact lcm_R | with_reducible exact band_R | with_reducible exact bor_R | with_reducible exact bshr_R | with_reducible exact bshl_R | omega) (fun hc => ?_) (fun hc => ?_)))) <;> (first | (exfalso; omega) | skip))
        | (show Rch _ _ _ _ _ 43 _ _ _; refine Rch.blk' (Rn_mono mt _) bl_X3_rain_43 (i_ldc2 (t_lret ?_)))
        | (show Rch _ _ _ _ _ 47 _ _ _; refine Rch.blk' (Rn_mono mt _) bl_X3_rain_47 (i_aload_n rfl (i_gfs rfl (i_iconst k_0 (i_aald21 (by omega) (by omega) (i_astore5 trivial (i_aload rfl (t_ifnonnull_n 60 rfl ?_))))))))
        | (show Rch _ _ _ _ _ 47 _ _ _; refine Rch.blk' (Rn_mono mt _) bl_X3_rain_47 (i_aload_n rfl (i_gfs rfl (i_iconst k_0 (i_aald21 (by omega) (by omega) (i_astore5 trivial (i_aload rfl (t_ifnonnull_s 64 rfl ?_))))))))
        | (show Rch _ _ _ _ _ 60 _ _ _; refine Rch.blk' (Rn_mono mt _) bl_X3_rain_60 (i_ldc2 (t_lret ?_)))
        | (show Rch _ _ _ _ _ 64 _ _ _; refine Rch.blk' (Rn_mono mt _) bl_X3_rain_64 (i_aload rfl (i_aload_n rfl (i_gfs rfl (t_cv2 (Rn_mono mt _) 73 rfl (Nat.le_of_ble_eq_true rfl) ?_)))))
        | (show Rch _ _ _ _ _ 73 _ _ _; refine Rch.blk' (Rn_mono mt _) bl_X3_rain_73 (i_lconst (i_lstore6 trivial (i_iconst k_0 (i_istore8 trivial (t_none ?_))))))
        | (show Rch _ _ _ _ _ 85 _ _ _; refine Rch.blk' (Rn_mono mt _) bl_X3_rain_85 (i_lload rfl (i_iload_n rfl (i_i2l (i_lmul (i_lstore6 trivial (i_iinc8 trivial k_1 (t_goto 79 rfl ?_))))))))
        | (show Rch _ _ _ _ _ 98 _ _ _; refine Rch.blk' (Rn_mono mt _) bl_X3_rain_98 (i_aload_n rfl (i_gfs rfl (i_iconst k_0 (i_iload_n rfl (i_iload_n rfl (i_iload_n rfl (t_cs5 (Rn_mono mt _) 109 rfl (Nat.le_of_ble_eq_true rfl) ?_))))))))
        | (show Rch _ _ _ _ _ 109 _ _ _; refine Rch.blk' (Rn_mono mt _) bl_X3_rain_109 (i_lload rfl (i_iload rfl (t_cs3 (Rn_mono mt _) 116 rfl (Nat.le_of_ble_eq_true rfl) ?_))))
        | (show Rch _ _ _ _ _ 116 _ _ _; refine Rch.blk' (Rn_mono mt _) bl_X3_rain_116 (t_lret ?_)))
    · obtain rfl : k = n := by omega
      obtain ⟨⟨wy0, wy1⟩, pw0, pw1⟩ := @rain_R p k t G n0 n1 t0 t1
      have hf : ∀ h2, FrW 0 h' h2 → Q (some (al (L (vPart (Wy p t k.toNat G) (pwr t k.toNat) part)))) h2 := fun h2 hF2 => hq _ _ (by unfold vRain; rw [if_pos ⟨⟨p0, p1⟩, ⟨n0, n1⟩, ⟨t0, t1⟩, hpart⟩]) (fun t b j hn2 => by
        rw [hF2 t b j (by omega), hF t b j (by omega)])
      clear ih hq k1
      refine Rch.blk' (Rn_mono mt _) bl_X3_rain_79 (i_iload rfl (i_iload_n rfl (t_ic_ge 98 85 rfl rfl (by first | with_reducible exact hI_R | with_reducible exact lcm_R | with_reducible exact band_R | with_reducible exact bor_R | with_reducible exact bshr_R | with_reducible exact bshl_R | omega) (by first | with_reducible exact hI_R | with_reducible exact lcm_R | with_reducible exact band_R | with_reducible exact bor_R | with_reducible exact bshr_R | with_reducible exact bshl_R | omega) (fun hc => ?_) (fun hc => ?_)))) <;> (first | (exfalso; omega) | skip)
      refine Rch.blk' (Rn_mono mt _) bl_X3_rain_98 (i_aload_n rfl (i_gfs rfl (i_iconst k_0 (i_iload_n rfl (i_iload_n rfl (i_iload_n rfl (t_cs5 (Rn_mono mt _) 109 rfl (Nat.le_of_ble_eq_true rfl) ?_)))))))
      refine c_ways n1 p0 t0 t1 k.toNat (d + 13) (by omega) 0 G h' _ (by omega) (by omega) hR hO p1 (by omega) (fun h2 hF2 => ?_)
      have kk := hf h2 hF2
      clear hf
      repeat' (first
        | (show Rn _ _ 89 _ _ _; refine c_X3_partInLeastTerms wy0 wy1 pw0 pw1 (by omega) ?_)
        | exact kk
        | (show Rn _ _ 1 _ _ _; refine c_X0_has (by assumption) (by assumption) (by first | omega | exact hI_R) (fun _ _ => ?_) (fun _ => ?_))
        | (show Rch _ _ _ _ _ 0 _ _ _; refine Rch.blk' (Rn_mono mt _) bl_X3_rain_0 (i_aload_n rfl (i_gfs rfl (i_iload_n rfl (t_cv2 (Rn_mono mt _) 8 rfl (Nat.le_of_ble_eq_true rfl) ?_)))))
        | (show Rch _ _ _ _ _ 8 _ _ _; refine Rch.blk' (Rn_mono mt _) bl_X3_rain_8 (t_if_eq 43 11 rfl rfl (by first | with_reducible exact hI_R | with_reducible exact lcm_R | with_reducible exact band_R | with_reducible exact bor_R | with_reducible exact bshr_R | with_reducible exact bshl_R | omega) (fun hc => ?_) (fun hc => ?_)) <;> (first | (exfalso; omega) | skip))
        | (show Rch _ _ _ _ _ 11 _ _ _; refine Rch.blk' (Rn_mono mt _) bl_X3_rain_11 (i_iload_n rfl (t_if_lt 43 15 rfl rfl (by first | with_reducible exact hI_R | with_reducible exact lcm_R | with_reducible exact band_R | with_reducible exact bor_R | with_reducible exact bshr_R | with_reducible exact bshl_R | omega) (fun hc => ?_) (fun hc => ?_))) <;> (first | (exfalso; omega) | skip))
        | (show Rch _ _ _ _ _ 15 _ _ _; refine Rch.blk' (Rn_mono mt _) bl_X3_rain_15 (i_iload_n rfl (i_bipush k_7 (t_ic_gt 43 21 rfl rfl (by first | with_reducible exact hI_R | with_reducible exact lcm_R | with_reducible exact band_R | with_reducible exact bor_R | with_reducible exact bshr_R | with_reducible exact bshl_R | omega) (by first | with_reducible exact hI_R | with_reducible exact lcm_R | with_reducible exact band_R | with_reducible exact bor_R | with_reducible exact bshr_R | with_reducible exact bshl_R | omega) (fun hc => ?_) (fun hc => ?_)))) <;> (first | (exfalso; omega) | skip))
        | (show Rch _ _ _ _ _ 21 _ _ _; refine Rch.blk' (Rn_mono mt _) bl_X3_rain_21 (i_iload_n rfl (i_iconst k_2 (t_ic_lt 43 26 rfl rfl (by first | with_reducible exact hI_R | with_reducible exact lcm_R | with_reducible exact band_R | with_reducible exact bor_R | with_reducible exact bshr_R | with_reducible exact bshl_R | omega) (by first | with_reducible exact hI_R | with_reducible exact lcm_R | with_reducible exact band_R | with_reducible exact bor_R | with_reducible exact bshr_R | with_reducible exact bshl_R | omega) (fun hc => ?_) (fun hc => ?_)))) <;> (first | (exfalso; omega) | skip))
        | (show Rch _ _ _ _ _ 26 _ _ _; refine Rch.blk' (Rn_mono mt _) bl_X3_rain_26 (i_iload_n rfl (i_bipush k_20 (t_ic_gt 43 32 rfl rfl (by first | with_reducible exact hI_R | with_reducible exact lcm_R | with_reducible exact band_R | with_reducible exact bor_R | with_reducible exact bshr_R | with_reducible exact bshl_R | omega) (by first | with_reducible exact hI_R | with_reducible exact lcm_R | with_reducible exact band_R | with_reducible exact bor_R | with_reducible exact bshr_R | with_reducible exact bshl_R | omega) (fun hc => ?_) (fun hc => ?_)))) <;> (first | (exfalso; omega) | skip))
        | (show Rch _ _ _ _ _ 32 _ _ _; refine Rch.blk' (Rn_mono mt _) bl_X3_rain_32 (i_iload rfl (t_if_lt 43 37 rfl rfl (by first | with_reducible exact hI_R | with_reducible exact lcm_R | with_reducible exact band_R | with_reducible exact bor_R | with_reducible exact bshr_R | with_reducible exact bshl_R | omega) (fun hc => ?_) (fun hc => ?_))) <;> (first | (exfalso; omega) | skip))
        | (show Rch _ _ _ _ _ 37 _ _ _; refine Rch.blk' (Rn_mono mt _) bl_X3_rain_37 (i_iload rfl (i_iconst k_1 (t_ic_le 47 43 rfl rfl (by first | with_reducible exact hI_R | with_reducible exact lcm_R | with_reducible exact band_R | with_reducible exact bor_R | with_reducible exact bshr_R | with_reducible exact bshl_R | omega) (by first | with_reducible exact hI_R | with_reducible exact lcm_R | with_reducible exact band_R | with_reducible exact bor_R | with_reducible exact bshr_R | with_reducible exact bshl_R | omega) (fun hc => ?_) (fun hc => ?_)))) <;> (first | (exfalso; omega) | skip))
        | (show Rch _ _ _ _ _ 43 _ _ _; refine Rch.blk' (Rn_mono mt _) bl_X3_rain_43 (i_ldc2 (t_lret ?_)))
        | (show Rch _ _ _ _ _ 47 _ _ _; refine Rch.blk' (Rn_mono mt _) bl_X3_rain_47 (i_aload_n rfl (i_gfs rfl (i_iconst k_0 (i_aald21 (by omega) (by omega) (i_astore5 trivial (i_aload rfl (t_ifnonnull_n 60 rfl ?_))))))))
        | (show Rch _ _ _ _ _ 47 _ _ _; refine Rch.blk' (Rn_mono mt _) bl_X3_rain_47 (i_aload_n rfl (i_gfs rfl (i_iconst k_0 (i_aald21 (by omega) (by omega) (i_astore5 trivial (i_aload rfl (t_ifnonnull_s 64 rfl ?_))))))))
        | (show Rch _ _ _ _ _ 60 _ _ _; refine Rch.blk' (Rn_mono mt _) bl_X3_rain_60 (i_ldc2 (t_lret ?_)))
        | (show Rch _ _ _ _ _ 64 _ _ _; refine Rch.blk' (Rn_mono mt _) bl_X3_rain_64 (i_aload rfl (i_aload_n rfl (i_gfs rfl (t_cv2 (Rn_mono mt _) 73 rfl (Nat.le_of_ble_eq_true rfl) ?_)))))
        | (show Rch _ _ _ _ _ 73 _ _ _; refine Rch.blk' (Rn_mono mt _) bl_X3_rain_73 (i_lconst (i_lstore6 trivial (i_iconst k_0 (i_istore8 trivial (t_none ?_))))))
        | (show Rch _ _ _ _ _ 85 _ _ _; refine Rch.blk' (Rn_mono mt _) bl_X3_rain_85 (i_lload rfl (i_iload_n rfl (i_i2l (i_lmul (i_lstore6 trivial (i_iinc8 trivial k_1 (t_goto 79 rfl ?_))))))))
        | (show Rch _ _ _ _ _ 98 _ _ _; refine Rch.blk' (Rn_mono mt _) bl_X3_rain_98 (i_aload_n rfl (i_gfs rfl (i_iconst k_0 (i_iload_n rfl (i_iload_n rfl (i_iload_n rfl (t_cs5 (Rn_mono mt _) 109 rfl (Nat.le_of_ble_eq_true rfl) ?_))))))))
        | (show Rch _ _ _ _ _ 109 _ _ _; refine Rch.blk' (Rn_mono mt _) bl_X3_rain_109 (i_lload rfl (i_iload rfl (t_cs3 (Rn_mono mt _) 116 rfl (Nat.le_of_ble_eq_true rfl) ?_))))
        | (show Rch _ _ _ _ _ 116 _ _ _; refine Rch.blk' (Rn_mono mt _) bl_X3_rain_116 (t_lret ?_)))
  have ky : ((0 ≤ p ∧ p < nn G) ∧ (0 ≤ n ∧ n ≤ 7) ∧ (2 ≤ t ∧ t ≤ 20) ∧ 0 ≤ part ∧ part ≤ 1) → ∀ h', RC h' (4 + Int.toNat 0) G → FrC h h' (4 + Int.toNat 0) → RH bX3_rain (d + 19) Q 79 [some (ar 2 0), some (ai (I p)), some (ai (I n)), some (ai (I t)), some (ai (I part)), some (ar 0 (4 + Int.toNat 0)), some (al (lcst 1)), none, some (ai (I 0))] h' := fun a h' b c => by
    rw [l_1]; exact key a h' b c 0 (by omega) (by omega)
  clear key hq
  repeat' (first
    | (show Rn _ _ 0 _ _ _; refine c_X0_becomes hG hO (by decide) (fun _ _ _ => ?_))
    | exact ky (by omega) _ (by assumption) (by assumption)
    | exact k1 (by omega)
    | (show Rn _ _ 1 _ _ _; refine c_X0_has (by assumption) (by assumption) (by first | omega | exact hI_R) (fun _ _ => ?_) (fun _ => ?_))
    | (show Rch _ _ _ _ _ 0 _ _ _; refine Rch.blk' (Rn_mono mt _) bl_X3_rain_0 (i_aload_n rfl (i_gfs rfl (i_iload_n rfl (t_cv2 (Rn_mono mt _) 8 rfl (Nat.le_of_ble_eq_true rfl) ?_)))))
    | (show Rch _ _ _ _ _ 8 _ _ _; refine Rch.blk' (Rn_mono mt _) bl_X3_rain_8 (t_if_eq 43 11 rfl rfl (by first | with_reducible exact hI_R | with_reducible exact lcm_R | with_reducible exact band_R | with_reducible exact bor_R | with_reducible exact bshr_R | with_reducible exact bshl_R | omega) (fun hc => ?_) (fun hc => ?_)) <;> (first | (exfalso; omega) | skip))
    | (show Rch _ _ _ _ _ 11 _ _ _; refine Rch.blk' (Rn_mono mt _) bl_X3_rain_11 (i_iload_n rfl (t_if_lt 43 15 rfl rfl (by first | with_reducible exact hI_R | with_reducible exact lcm_R | with_reducible exact band_R | with_reducible exact bor_R | with_reducible exact bshr_R | with_reducible exact bshl_R | omega) (fun hc => ?_) (fun hc => ?_))) <;> (first | (exfalso; omega) | skip))
    | (show Rch _ _ _ _ _ 15 _ _ _; refine Rch.blk' (Rn_mono mt _) bl_X3_rain_15 (i_iload_n rfl (i_bipush k_7 (t_ic_gt 43 21 rfl rfl (by first | with_reducible exact hI_R | with_reducible exact lcm_R | with_reducible exact band_R | with_reducible exact bor_R | with_reducible exact bshr_R | with_reducible exact bshl_R | omega) (by first | with_reducible exact hI_R | with_reducible exact lcm_R | with_reducible exact band_R | with_reducible exact bor_R | with_reducible exact bshr_R | with_reducible exact bshl_R | omega) (fun hc => ?_) (fun hc => ?_)))) <;> (first | (exfalso; omega) | skip))
    | (show Rch _ _ _ _ _ 21 _ _ _; refine Rch.blk' (Rn_mono mt _) bl_X3_rain_21 (i_iload_n rfl (i_iconst k_2 (t_ic_lt 43 26 rfl rfl (by first | with_reducible exact hI_R | with_reducible exact lcm_R | with_reducible exact band_R | with_reducible exact bor_R | with_reducible exact bshr_R | with_reducible exact bshl_R | omega) (by first | with_reducible exact hI_R | with_reducible exact lcm_R | with_reducible exact band_R | with_reducible exact bor_R | with_reducible exact bshr_R | with_reducible exact bshl_R | omega) (fun hc => ?_) (fun hc => ?_)))) <;> (first | (exfalso; omega) | skip))
    | (show Rch _ _ _ _ _ 26 _ _ _; refine Rch.blk' (Rn_mono mt _) bl_X3_rain_26 (i_iload_n rfl (i_bipush k_20 (t_ic_gt 43 32 rfl rfl (by first | with_reducible exact hI_R | with_reducible exact lcm_R | with_reducible exact band_R | with_reducible exact bor_R | with_reducible exact bshr_R | with_reducible exact bshl_R | omega) (by first | with_reducible exact hI_R | with_reducible exact lcm_R | with_reducible exact band_R | with_reducible exact bor_R | with_reducible exact bshr_R | with_reducible exact bshl_R | omega) (fun hc => ?_) (fun hc => ?_)))) <;> (first | (exfalso; omega) | skip))
    | (show Rch _ _ _ _ _ 32 _ _ _; refine Rch.blk' (Rn_mono mt _) bl_X3_rain_32 (i_iload rfl (t_if_lt 43 37 rfl rfl (by first | with_reducible exact hI_R | with_reducible exact lcm_R | with_reducible exact band_R | with_reducible exact bor_R | with_reducible exact bshr_R | with_reducible exact bshl_R | omega) (fun hc => ?_) (fun hc => ?_))) <;> (first | (exfalso; omega) | skip))
    | (show Rch _ _ _ _ _ 37 _ _ _; refine Rch.blk' (Rn_mono mt _) bl_X3_rain_37 (i_iload rfl (i_iconst k_1 (t_ic_le 47 43 rfl rfl (by first | with_reducible exact hI_R | with_reducible exact lcm_R | with_reducible exact band_R | with_reducible exact bor_R | with_reducible exact bshr_R | with_reducible exact bshl_R | omega) (by first | with_reducible exact hI_R | with_reducible exact lcm_R | with_reducible exact band_R | with_reducible exact bor_R | with_reducible exact bshr_R | with_reducible exact bshl_R | omega) (fun hc => ?_) (fun hc => ?_)))) <;> (first | (exfalso; omega) | skip))
    | (show Rch _ _ _ _ _ 43 _ _ _; refine Rch.blk' (Rn_mono mt _) bl_X3_rain_43 (i_ldc2 (t_lret ?_)))
    | (show Rch _ _ _ _ _ 47 _ _ _; refine Rch.blk' (Rn_mono mt _) bl_X3_rain_47 (i_aload_n rfl (i_gfs rfl (i_iconst k_0 (i_aald21 (by omega) (by omega) (i_astore5 trivial (i_aload rfl (t_ifnonnull_n 60 rfl ?_))))))))
    | (show Rch _ _ _ _ _ 47 _ _ _; refine Rch.blk' (Rn_mono mt _) bl_X3_rain_47 (i_aload_n rfl (i_gfs rfl (i_iconst k_0 (i_aald21 (by omega) (by omega) (i_astore5 trivial (i_aload rfl (t_ifnonnull_s 64 rfl ?_))))))))
    | (show Rch _ _ _ _ _ 60 _ _ _; refine Rch.blk' (Rn_mono mt _) bl_X3_rain_60 (i_ldc2 (t_lret ?_)))
    | (show Rch _ _ _ _ _ 64 _ _ _; refine Rch.blk' (Rn_mono mt _) bl_X3_rain_64 (i_aload rfl (i_aload_n rfl (i_gfs rfl (t_cv2 (Rn_mono mt _) 73 rfl (Nat.le_of_ble_eq_true rfl) ?_)))))
    | (show Rch _ _ _ _ _ 73 _ _ _; refine Rch.blk' (Rn_mono mt _) bl_X3_rain_73 (i_lconst (i_lstore6 trivial (i_iconst k_0 (i_istore8 trivial (t_none ?_))))))
    | (show Rch _ _ _ _ _ 85 _ _ _; refine Rch.blk' (Rn_mono mt _) bl_X3_rain_85 (i_lload rfl (i_iload_n rfl (i_i2l (i_lmul (i_lstore6 trivial (i_iinc8 trivial k_1 (t_goto 79 rfl ?_))))))))
    | (show Rch _ _ _ _ _ 98 _ _ _; refine Rch.blk' (Rn_mono mt _) bl_X3_rain_98 (i_aload_n rfl (i_gfs rfl (i_iconst k_0 (i_iload_n rfl (i_iload_n rfl (i_iload_n rfl (t_cs5 (Rn_mono mt _) 109 rfl (Nat.le_of_ble_eq_true rfl) ?_))))))))
    | (show Rch _ _ _ _ _ 109 _ _ _; refine Rch.blk' (Rn_mono mt _) bl_X3_rain_109 (i_lload rfl (i_iload rfl (t_cs3 (Rn_mono mt _) 116 rfl (Nat.le_of_ble_eq_true rfl) ?_))))
    | (show Rch _ _ _ _ _ 116 _ _ _; refine Rch.blk' (Rn_mono mt _) bl_X3_rain_116 (t_lret ?_)))
end C35

