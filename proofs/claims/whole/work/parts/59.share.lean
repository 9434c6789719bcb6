/-! LONGS, LEAST TERMS, SHARE: both sides -/
def L (z : Int) : Int64 := Int64.ofInt z
theorem L_toInt {z : Int} (h0 : -9000000000000000000 ≤ z) (h1 : z < 9000000000000000000) : (L z).toInt = z := Int64.toInt_ofInt_of_le (by omega) (by omega)
theorem L_add (a b : Int) : L a + L b = L (a + b) := (Int64.ofInt_add a b).symm
theorem L_mul (a b : Int) : L a * L b = L (a * b) := (Int64.ofInt_mul a b).symm
theorem L_inj {a b : Int} (a0 : 0 ≤ a) (a1 : a < 1000000000000) (b0 : 0 ≤ b) (b1 : b < 1000000000000) (h : L a = L b) : a = b := by
  rw [← L_toInt (z := a) (by omega) (by omega), ← L_toInt (z := b) (by omega) (by omega), h]
theorem L_z {a : Int} (a0 : 0 < a) (a1 : a < 1000000000000) : ¬ L a = 0 := fun e => by
  have e : L a = L 0 := e
  have := L_inj (by omega) a1 (by omega) (by omega) e
  omega
theorem L_m1 {a : Int} (a0 : 0 < a) (a1 : a < 1000000000000) : ¬ L a = -1 := fun e => by
  have e := congrArg Int64.toInt e
  rw [L_toInt (by omega) (by omega)] at e
  have e2 : (-1 : Int64).toInt = -1 := rfl
  omega
theorem L_div {a b : Int} (a0 : 0 ≤ a) (a1 : a < 1000000000000) (b0 : 0 < b) (b1 : b < 1000000000000) : L a / L b = L (a / b) := by
  have h4 : a / b ≤ a := Int.ediv_le_self _ a0
  have h5 : 0 ≤ a / b := Int.ediv_nonneg a0 (by omega)
  apply Int64.toInt_inj.mp
  rw [Int64.toInt_div_of_ne_right _ _ (L_m1 b0 b1), L_toInt (by omega) (by omega), L_toInt (by omega) (by omega), L_toInt (by omega) (by omega), Int.tdiv_eq_ediv_of_nonneg a0]
theorem L_mod {a b : Int} (a0 : 0 ≤ a) (a1 : a < 1000000000000) (b0 : 0 < b) (b1 : b < 1000000000000) : L a % L b = L (a % b) := by
  have h4 : a % b < b := Int.emod_lt_of_pos _ b0
  have h5 : 0 ≤ a % b := Int.emod_nonneg _ (by omega)
  apply Int64.toInt_inj.mp
  rw [Int64.toInt_mod, L_toInt (by omega) (by omega), L_toInt (by omega) (by omega), L_toInt (by omega) (by omega), Int.tmod_eq_emod_of_nonneg a0]
theorem L_i2l {x : Int} (h : inR x) : (I x).toInt64 = L x := by
  apply Int64.toInt_inj.mp
  rw [Int32.toInt_toInt64, I_toInt h, L_toInt (by omega) (by omega)]
theorem l_0 : lcst 0 = L 0 := by decide +kernel
theorem l_1 : lcst 1 = L 1 := by decide +kernel
theorem l_n : lcst 1000000001 = L 1000000001 := by decide +kernel
theorem lcm_e {u v : Int64} (h : u = v) : lcm u v = 0 := by
  subst h
  unfold lcm lg_cmp
  rw [if_neg (fun z => by have := Int64.lt_iff_toInt_lt.mp z; omega), if_pos rfl]
  rfl
theorem lcm_n {u v : Int64} (h : ¬ u = v) : ¬ lcm u v = 0 := by
  unfold lcm lg_cmp
  split <;> decide +kernel
theorem lc_0 {a : Int} (h : a = 0) : lcm (L a) (lcst 0) = 0 := lcm_e (by rw [h, l_0])
theorem lc_n {a : Int} (a0 : 0 < a) (a1 : a < 1000000000000) : ¬ lcm (L a) (lcst 0) = 0 := lcm_n (fun e => L_z a0 a1 (by rw [e]; rfl))
def eg : Nat → Int → Int → Int
  | 0, x, _ => x
  | n + 1, x, y => if y = 0 then x else eg n y (x % y)
def eT : Nat → Int → Int → Prop
  | 0, _, y => y = 0
  | n + 1, x, y => y = 0 ∨ eT n y (x % y)
theorem eT_le : ∀ (n m : Nat) (x y : Int), n ≤ m → eT n x y → eT m x y
  | 0, 0, _, _, _, h => h
  | 0, _ + 1, _, _, _, h => Or.inl h
  | n + 1, m + 1, x, y, hm, h => h.elim Or.inl (fun z => Or.inr (eT_le n m y (x % y) (by omega) z))
theorem eT_pow : ∀ (m : Nat) (x y : Int), 0 ≤ x → 0 ≤ y → y < (2 : Int) ^ m → eT (2 * m) x y
  | 0, x, y, _, y0, h => by
    rw [Int.pow_zero] at h
    show y = 0
    omega
  | m + 1, x, y, x0, y0, h => by
    rw [Int.pow_succ] at h
    show y = 0 ∨ (x % y = 0 ∨ eT (2 * m) (x % y) (y % (x % y)))
    by_cases c : y = 0
    · exact Or.inl c
    · right
      by_cases c2 : x % y = 0
      · exact Or.inl c2
      · right
        have h1 := Int.emod_nonneg x c
        have h2 := Int.emod_lt_of_pos x (show 0 < y by omega)
        have h3 := Int.emod_nonneg y c2
        have h4 := Int.emod_lt_of_pos y (show 0 < x % y by omega)
        have h5 := Int.emod_add_mul_ediv y (x % y)
        have h6 : 1 ≤ y / (x % y) := Int.le_ediv_of_mul_le (by omega) (by omega)
        have h7 : x % y * 1 ≤ x % y * (y / (x % y)) := Int.mul_le_mul_of_nonneg_left h6 h1
        exact eT_pow m (x % y) (y % (x % y)) h1 h3 (by omega)
theorem eg_T : ∀ (n m : Nat) (x y : Int), eT n x y → n ≤ m → eg m x y = eg n x y
  | 0, 0, _, _, _, _ => rfl
  | 0, m + 1, x, y, h, _ => if_pos h
  | n + 1, m + 1, x, y, h, hm => by
    show (if y = 0 then x else eg m y (x % y)) = (if y = 0 then x else eg n y (x % y))
    by_cases c : y = 0
    · rw [if_pos c, if_pos c]
    · rw [if_neg c, if_neg c]
      exact eg_T n m y (x % y) (h.elim (fun z => absurd z c) id) (by omega)
theorem eg_pos : ∀ (n : Nat) (x y : Int), 0 ≤ x → 0 ≤ y → (0 < x ∨ 0 < y) → eT n x y → 0 < eg n x y
  | 0, x, y, _, _, h, e => by
    have e : y = 0 := e
    show 0 < x
    omega
  | n + 1, x, y, x0, y0, h, e => by
    show 0 < (if y = 0 then x else eg n y (x % y))
    by_cases c : y = 0
    · rw [if_pos c]; omega
    · rw [if_neg c]
      exact eg_pos n y (x % y) y0 (Int.emod_nonneg x c) (Or.inl (by omega)) (e.elim (fun z => absurd z c) id)
theorem eg_le : ∀ (n : Nat) (x y : Int), 0 ≤ x → 0 ≤ y → eg n x y ≤ x + y
  | 0, x, y, _, y0 => by
    show x ≤ x + y
    omega
  | n + 1, x, y, x0, y0 => by
    show (if y = 0 then x else eg n y (x % y)) ≤ x + y
    by_cases c : y = 0
    · rw [if_pos c]; omega
    · rw [if_neg c]
      have h1 := Int.emod_nonneg x c
      have h2 := eg_le n y (x % y) y0 h1
      have h5 := Int.emod_add_mul_ediv x y
      have h6 : 0 ≤ y * (x / y) := Int.mul_nonneg y0 (Int.ediv_nonneg x0 y0)
      omega
def EG (a b : Int) : Int := eg 1000 a b
theorem eT_1000 {a b : Int} (a0 : 0 ≤ a) (b0 : 0 ≤ b) (b1 : b < 1000000000000) : eT 1000 a b := eT_le 80 1000 a b (by omega) (eT_pow 40 a b a0 b0 (Int.lt_of_lt_of_le b1 (by decide +kernel)))
theorem EG_R {a b : Int} (a0 : 0 ≤ a) (b0 : 0 ≤ b) (b1 : b < 1000000000000) (h : 0 < a ∨ 0 < b) : 0 < EG a b ∧ EG a b ≤ a + b := ⟨eg_pos 1000 a b a0 b0 h (eT_1000 a0 b0 b1), eg_le 1000 a b a0 b0⟩
def vPart (a b part : Int) : Int := if a = 0 then part else (if part = 0 then a else b) / EG a b
section C34
variable {d : Nat} {h : Mem} {Q : Option AV → Mem → Prop} {G : Bd}
theorem c_X3_partInLeastTerms {a b part : Int} (a0 : 0 ≤ a) (a1 : a < 100000000000) (b0 : 0 ≤ b) (b1 : b < 100000000000) (hp : part = 0 ∨ part = 1) (hq : Q (some (al (L (vPart a b part)))) h) : Rn mt (d + 1) 89 [al (L a), al (L b), ai (I part)] h Q := by
  refine Rn.intro iX3_partInLeastTerms rfl rfl ?_
  show Rch bX3_partInLeastTerms _ _ _ _ 0 [some (al (L a)), none, some (al (L b)), none, some (ai (I part)), none, none, none, none, none, none, none] [] _
  have kk : ∀ v, v = L (vPart a b part) → Q (some (al v)) h := fun v e => by rw [e]; exact hq
  clear hq
  by_cases c0 : a = 0
  · have e0 := lc_0 c0
    have k0 : part = 0 → lcst 0 = L (vPart a b part) := fun e => by unfold vPart; rw [if_pos c0, e, l_0]
    have k1 : part = 1 → lcst 1 = L (vPart a b part) := fun e => by unfold vPart; rw [if_pos c0, e, l_1]
    repeat' (first
      | exact kk _ (k0 (by omega))
      | exact kk _ (k1 (by omega))
      | (show Rch _ _ _ _ _ 0 _ _ _; refine Rch.blk' (Rn_mono mt _) bl_X3_partInLeastTerms_0 (i_lload_n rfl (i_lconst (i_lcmp (t_if_ne 17 6 rfl rfl (by first | with_reducible exact hI_R | with_reducible exact lcm_R | with_reducible exact band_R | with_reducible exact bor_R | with_reducible exact bshr_R | with_reducible exact bshl_R | omega) (fun hc => ?_) (fun hc => ?_))))) <;> (first | (exfalso; omega) | skip))
      | (show Rch _ _ _ _ _ 6 _ _ _; refine Rch.blk' (Rn_mono mt _) bl_X3_partInLeastTerms_6 (i_iload rfl (t_if_ne 15 11 rfl rfl (by first | with_reducible exact hI_R | with_reducible exact lcm_R | with_reducible exact band_R | with_reducible exact bor_R | with_reducible exact bshr_R | with_reducible exact bshl_R | omega) (fun hc => ?_) (fun hc => ?_))) <;> (first | (exfalso; omega) | skip))
      | (show Rch _ _ _ _ _ 11 _ _ _; refine Rch.blk' (Rn_mono mt _) bl_X3_partInLeastTerms_11 (i_lconst (t_goto 16 rfl ?_)))
      | (show Rch _ _ _ _ _ 15 _ _ _; refine Rch.blk' (Rn_mono mt _) bl_X3_partInLeastTerms_15 (i_lconst (t_none ?_)))
      | (show Rch _ _ _ _ _ 16 _ _ _; refine Rch.blk' (Rn_mono mt _) bl_X3_partInLeastTerms_16 (t_lret ?_))
      | (show Rch _ _ _ _ _ 26 _ _ _; refine Rch.blk' (Rn_mono mt _) bl_X3_partInLeastTerms_26 (i_iload rfl (i_sipush k_1000 (t_ic_ge 62 34 rfl rfl (by first | with_reducible exact hI_R | with_reducible exact lcm_R | with_reducible exact band_R | with_reducible exact bor_R | with_reducible exact bshr_R | with_reducible exact bshl_R | omega) (by first | with_reducible exact hI_R | with_reducible exact lcm_R | with_reducible exact band_R | with_reducible exact bor_R | with_reducible exact bshr_R | with_reducible exact bshl_R | omega) (fun hc => ?_) (fun hc => ?_)))) <;> (first | (exfalso; omega) | skip))
      | (show Rch _ _ _ _ _ 34 _ _ _; refine Rch.blk' (Rn_mono mt _) bl_X3_partInLeastTerms_34 (i_lload rfl (i_lconst (i_lcmp (t_if_eq 62 41 rfl rfl (by first | with_reducible exact hI_R | with_reducible exact lcm_R | with_reducible exact band_R | with_reducible exact bor_R | with_reducible exact bshr_R | with_reducible exact bshl_R | omega) (fun hc => ?_) (fun hc => ?_))))) <;> (first | (exfalso; omega) | skip))
      | (show Rch _ _ _ _ _ 41 _ _ _; refine Rch.blk' (Rn_mono mt _) bl_X3_partInLeastTerms_41 (i_lload rfl (i_lload rfl (i_lrem (by assumption) (i_lstore10 trivial (i_lload rfl (i_lstore5 trivial (i_lload rfl (i_lstore7 trivial (i_iinc9 trivial k_1 (t_goto 26 rfl ?_)))))))))))
      | (show Rch _ _ _ _ _ 62 _ _ _; refine Rch.blk' (Rn_mono mt _) bl_X3_partInLeastTerms_62 (i_iload rfl (t_if_ne 71 67 rfl rfl (by first | with_reducible exact hI_R | with_reducible exact lcm_R | with_reducible exact band_R | with_reducible exact bor_R | with_reducible exact bshr_R | with_reducible exact bshl_R | omega) (fun hc => ?_) (fun hc => ?_))) <;> (first | (exfalso; omega) | skip))
      | (show Rch _ _ _ _ _ 67 _ _ _; refine Rch.blk' (Rn_mono mt _) bl_X3_partInLeastTerms_67 (i_lload_n rfl (t_goto 72 rfl ?_)))
      | (show Rch _ _ _ _ _ 71 _ _ _; refine Rch.blk' (Rn_mono mt _) bl_X3_partInLeastTerms_71 (i_lload_n rfl (t_none ?_)))
      | (show Rch _ _ _ _ _ 72 _ _ _; refine Rch.blk' (Rn_mono mt _) bl_X3_partInLeastTerms_72 (i_lstore9 trivial (i_lload rfl (i_lconst (i_lcmp (t_if_ne 86 81 rfl rfl (by first | with_reducible exact hI_R | with_reducible exact lcm_R | with_reducible exact band_R | with_reducible exact bor_R | with_reducible exact bshr_R | with_reducible exact bshl_R | omega) (fun hc => ?_) (fun hc => ?_)))))) <;> (first | (exfalso; omega) | skip))
      | (show Rch _ _ _ _ _ 81 _ _ _; refine Rch.blk' (Rn_mono mt _) bl_X3_partInLeastTerms_81 (i_lload rfl (t_goto 91 rfl ?_)))
      | (show Rch _ _ _ _ _ 86 _ _ _; refine Rch.blk' (Rn_mono mt _) bl_X3_partInLeastTerms_86 (i_lload rfl (i_lload rfl (i_ldiv (by assumption) (t_none ?_)))))
      | (show Rch _ _ _ _ _ 91 _ _ _; refine Rch.blk' (Rn_mono mt _) bl_X3_partInLeastTerms_91 (t_lret ?_)))
  · have e0 := lc_n (a := a) (by omega) (by omega)
    have eR := EG_R a0 b0 (by omega) (Or.inl (show 0 < a by omega))
    have key : ∀ k : Int, k ≤ 1000 → 0 ≤ k → ∀ (x y : Int) (u v : Option AV), 0 ≤ x → x < 100000000000 → 0 ≤ y → y < 100000000000 → (0 < x ∨ 0 < y) → eT (1000 - k).toNat x y → eg (1000 - k).toNat x y = EG a b → RH bX3_partInLeastTerms d Q 26 [some (al (L a)), none, some (al (L b)), none, some (ai (I part)), some (al (L x)), none, some (al (L y)), none, some (ai (I k)), u, v] h := by
      refine up_ind (fun k hk ih hk0 x y u v x0 x1 y0 y1 hxy hT hE => ?_)
      have hend : y = 0 → RH bX3_partInLeastTerms d Q 62 [some (al (L a)), none, some (al (L b)), none, some (ai (I part)), some (al (L x)), none, some (al (L y)), none, some (ai (I k)), u, v] h := by
        intro c
        have hx : x = EG a b := by
          rw [← hE]
          have := eg_T 0 (1000 - k).toNat x y c (by omega)
          exact this.symm
        have e1 := lc_n (a := x) (by omega) (by omega)
        have hz : ¬ L x = 0 := L_z (by omega) (by omega)
        have k0 : part = 0 → L a / L x = L (vPart a b part) := fun e => by
          rw [L_div a0 (by omega) (by omega) (by omega)]
          unfold vPart; rw [if_neg c0, if_pos e, hx]
        have k1 : part = 1 → L b / L x = L (vPart a b part) := fun e => by
          rw [L_div b0 (by omega) (by omega) (by omega)]
          unfold vPart; rw [if_neg c0, if_neg (by omega), hx]
        clear ih e0
        repeat' (first
          | exact kk _ (k0 (by omega))
          | exact kk _ (k1 (by omega))
          | (show Rch _ _ _ _ _ 0 _ _ _; refine Rch.blk' (Rn_mono mt _) bl_X3_partInLeastTerms_0 (i_lload_n rfl (i_lconst (i_lcmp (t_if_ne 17 6 rfl rfl (by first | with_reducible exact hI_R | with_reducible exact lcm_R | with_reducible exact band_R | with_reducible exact bor_R | with_reducible exact bshr_R | with_reducible exact bshl_R | omega) (fun hc => ?_) (fun hc => ?_))))) <;> (first | (exfalso; omega) | skip))
          | (show Rch _ _ _ _ _ 6 _ _ _; refine Rch.blk' (Rn_mono mt _) bl_X3_partInLeastTerms_6 (i_iload rfl (t_if_ne 15 11 rfl rfl (by first | with_reducible exact hI_R | with_reducible exact lcm_R | with_reducible exact band_R | with_reducible exact bor_R | with_reducible exact bshr_R | with_reducible exact bshl_R | omega) (fun hc => ?_) (fun hc => ?_))) <;> (first | (exfalso; omega) | skip))
          | (show Rch _ _ _ _ _ 11 _ _ _; refine Rch.blk' (Rn_mono mt _) bl_X3_partInLeastTerms_11 (i_lconst (t_goto 16 rfl ?_)))
          | (show Rch _ _ _ _ _ 15 _ _ _; refine Rch.blk' (Rn_mono mt _) bl_X3_partInLeastTerms_15 (i_lconst (t_none ?_)))
          | (show Rch _ _ _ _ _ 16 _ _ _; refine Rch.blk' (Rn_mono mt _) bl_X3_partInLeastTerms_16 (t_lret ?_))
          | (show Rch _ _ _ _ _ 17 _ _ _; refine Rch.blk' (Rn_mono mt _) bl_X3_partInLeastTerms_17 (i_lload_n rfl (i_lstore5 trivial (i_lload_n rfl (i_lstore7 trivial (i_iconst k_0 (i_istore9 trivial (t_none ?_))))))))
          | (show Rch _ _ _ _ _ 34 _ _ _; refine Rch.blk' (Rn_mono mt _) bl_X3_partInLeastTerms_34 (i_lload rfl (i_lconst (i_lcmp (t_if_eq 62 41 rfl rfl (by first | with_reducible exact hI_R | with_reducible exact lcm_R | with_reducible exact band_R | with_reducible exact bor_R | with_reducible exact bshr_R | with_reducible exact bshl_R | omega) (fun hc => ?_) (fun hc => ?_))))) <;> (first | (exfalso; omega) | skip))
          | (show Rch _ _ _ _ _ 41 _ _ _; refine Rch.blk' (Rn_mono mt _) bl_X3_partInLeastTerms_41 (i_lload rfl (i_lload rfl (i_lrem (by assumption) (i_lstore10 trivial (i_lload rfl (i_lstore5 trivial (i_lload rfl (i_lstore7 trivial (i_iinc9 trivial k_1 (t_goto 26 rfl ?_)))))))))))
          | (show Rch _ _ _ _ _ 62 _ _ _; refine Rch.blk' (Rn_mono mt _) bl_X3_partInLeastTerms_62 (i_iload rfl (t_if_ne 71 67 rfl rfl (by first | with_reducible exact hI_R | with_reducible exact lcm_R | with_reducible exact band_R | with_reducible exact bor_R | with_reducible exact bshr_R | with_reducible exact bshl_R | omega) (fun hc => ?_) (fun hc => ?_))) <;> (first | (exfalso; omega) | skip))
          | (show Rch _ _ _ _ _ 67 _ _ _; refine Rch.blk' (Rn_mono mt _) bl_X3_partInLeastTerms_67 (i_lload_n rfl (t_goto 72 rfl ?_)))
          | (show Rch _ _ _ _ _ 71 _ _ _; refine Rch.blk' (Rn_mono mt _) bl_X3_partInLeastTerms_71 (i_lload_n rfl (t_none ?_)))
          | (show Rch _ _ _ _ _ 72 _ _ _; refine Rch.blk' (Rn_mono mt _) bl_X3_partInLeastTerms_72 (i_lstore9 trivial (i_lload rfl (i_lconst (i_lcmp (t_if_ne 86 81 rfl rfl (by first | with_reducible exact hI_R | with_reducible exact lcm_R | with_reducible exact band_R | with_reducible exact bor_R | with_reducible exact bshr_R | with_reducible exact bshl_R | omega) (fun hc => ?_) (fun hc => ?_)))))) <;> (first | (exfalso; omega) | skip))
          | (show Rch _ _ _ _ _ 81 _ _ _; refine Rch.blk' (Rn_mono mt _) bl_X3_partInLeastTerms_81 (i_lload rfl (t_goto 91 rfl ?_)))
          | (show Rch _ _ _ _ _ 86 _ _ _; refine Rch.blk' (Rn_mono mt _) bl_X3_partInLeastTerms_86 (i_lload rfl (i_lload rfl (i_ldiv (by assumption) (t_none ?_)))))
          | (show Rch _ _ _ _ _ 91 _ _ _; refine Rch.blk' (Rn_mono mt _) bl_X3_partInLeastTerms_91 (t_lret ?_)))
      by_cases hk1 : k < 1000
      · by_cases c : y = 0
        · have e1 := lc_0 c
          have hend := hend c
          clear ih
          refine Rch.blk' (Rn_mono mt _) bl_X3_partInLeastTerms_26 (i_iload rfl (i_sipush k_1000 (t_ic_ge 62 34 rfl rfl (by first | with_reducible exact hI_R | with_reducible exact lcm_R | with_reducible exact band_R | with_reducible exact bor_R | with_reducible exact bshr_R | with_reducible exact bshl_R | omega) (by first | with_reducible exact hI_R | with_reducible exact lcm_R | with_reducible exact band_R | with_reducible exact bor_R | with_reducible exact bshr_R | with_reducible exact bshl_R | omega) (fun hc => ?_) (fun hc => ?_)))) <;> (first | (exfalso; omega) | skip)
          repeat' (first
            | exact hend
            | (show Rch _ _ _ _ _ 0 _ _ _; refine Rch.blk' (Rn_mono mt _) bl_X3_partInLeastTerms_0 (i_lload_n rfl (i_lconst (i_lcmp (t_if_ne 17 6 rfl rfl (by first | with_reducible exact hI_R | with_reducible exact lcm_R | with_reducible exact band_R | with_reducible exact bor_R | with_reducible exact bshr_R | with_reducible exact bshl_R | omega) (fun hc => ?_) (fun hc => ?_))))) <;> (first | (exfalso; omega) | skip))
            | (show Rch _ _ _ _ _ 6 _ _ _; refine Rch.blk' (Rn_mono mt _) bl_X3_partInLeastTerms_6 (i_iload rfl (t_if_ne 15 11 rfl rfl (by first | with_reducible exact hI_R | with_reducible exact lcm_R | with_reducible exact band_R | with_reducible exact bor_R | with_reducible exact bshr_R | with_reducible exact bshl_R | omega) (fun hc => ?_) (fun hc => ?_))) <;> (first | (exfalso; omega) | skip))
            | (show Rch _ _ _ _ _ 11 _ _ _; refine Rch.blk' (Rn_mono mt _) bl_X3_partInLeastTerms_11 (i_lconst (t_goto 16 rfl ?_)))
            | (show Rch _ _ _ _ _ 15 _ _ _; refine Rch.blk' (Rn_mono mt _) bl_X3_partInLeastTerms_15 (i_lconst (t_none ?_)))
            | (show Rch _ _ _ _ _ 16 _ _ _; refine Rch.blk' (Rn_mono mt _) bl_X3_partInLeastTerms_16 (t_lret ?_))
            | (show Rch _ _ _ _ _ 17 _ _ _; refine Rch.blk' (Rn_mono mt _) bl_X3_partInLeastTerms_17 (i_lload_n rfl (i_lstore5 trivial (i_lload_n rfl (i_lstore7 trivial (i_iconst k_0 (i_istore9 trivial (t_none ?_))))))))
            | (show Rch _ _ _ _ _ 34 _ _ _; refine Rch.blk' (Rn_mono mt _) bl_X3_partInLeastTerms_34 (i_lload rfl (i_lconst (i_lcmp (t_if_eq 62 41 rfl rfl (by first | with_reducible exact hI_R | with_reducible exact lcm_R | with_reducible exact band_R | with_reducible exact bor_R | with_reducible exact bshr_R | with_reducible exact bshl_R | omega) (fun hc => ?_) (fun hc => ?_))))) <;> (first | (exfalso; omega) | skip))
            | (show Rch _ _ _ _ _ 41 _ _ _; refine Rch.blk' (Rn_mono mt _) bl_X3_partInLeastTerms_41 (i_lload rfl (i_lload rfl (i_lrem (by assumption) (i_lstore10 trivial (i_lload rfl (i_lstore5 trivial (i_lload rfl (i_lstore7 trivial (i_iinc9 trivial k_1 (t_goto 26 rfl ?_)))))))))))
            | (show Rch _ _ _ _ _ 67 _ _ _; refine Rch.blk' (Rn_mono mt _) bl_X3_partInLeastTerms_67 (i_lload_n rfl (t_goto 72 rfl ?_)))
            | (show Rch _ _ _ _ _ 71 _ _ _; refine Rch.blk' (Rn_mono mt _) bl_X3_partInLeastTerms_71 (i_lload_n rfl (t_none ?_)))
            | (show Rch _ _ _ _ _ 72 _ _ _; refine Rch.blk' (Rn_mono mt _) bl_X3_partInLeastTerms_72 (i_lstore9 trivial (i_lload rfl (i_lconst (i_lcmp (t_if_ne 86 81 rfl rfl (by first | with_reducible exact hI_R | with_reducible exact lcm_R | with_reducible exact band_R | with_reducible exact bor_R | with_reducible exact bshr_R | with_reducible exact bshl_R | omega) (fun hc => ?_) (fun hc => ?_)))))) <;> (first | (exfalso; omega) | skip))
            | (show Rch _ _ _ _ _ 81 _ _ _; refine Rch.blk' (Rn_mono mt _) bl_X3_partInLeastTerms_81 (i_lload rfl (t_goto 91 rfl ?_)))
            | (show Rch _ _ _ _ _ 86 _ _ _; refine Rch.blk' (Rn_mono mt _) bl_X3_partInLeastTerms_86 (i_lload rfl (i_lload rfl (i_ldiv (by assumption) (t_none ?_)))))
            | (show Rch _ _ _ _ _ 91 _ _ _; refine Rch.blk' (Rn_mono mt _) bl_X3_partInLeastTerms_91 (t_lret ?_)))
        · have e1 := lc_n (a := y) (by omega) (by omega)
          have hz : ¬ L y = 0 := L_z (by omega) (by omega)
          have hn : (1000 - k).toNat = (1000 - (k + 1)).toNat + 1 := by omega
          rw [hn] at hT hE
          have hT : y = 0 ∨ eT (1000 - (k + 1)).toNat y (x % y) := hT
          have hE : (if y = 0 then x else eg (1000 - (k + 1)).toNat y (x % y)) = EG a b := hE
          rw [if_neg c] at hE
          have h1 := Int.emod_nonneg x c
          have h2 := Int.emod_lt_of_pos x (show 0 < y by omega)
          have kk2 := ih hk1 (by omega) y (x % y) (some (al (L x % L y))) none y0 y1 h1 (by omega) (Or.inl (by omega)) (hT.elim (fun z => absurd z c) id) hE
          rw [← L_mod x0 (by omega) (by omega) (by omega)] at kk2
          clear ih hend
          refine Rch.blk' (Rn_mono mt _) bl_X3_partInLeastTerms_26 (i_iload rfl (i_sipush k_1000 (t_ic_ge 62 34 rfl rfl (by first | with_reducible exact hI_R | with_reducible exact lcm_R | with_reducible exact band_R | with_reducible exact bor_R | with_reducible exact bshr_R | with_reducible exact bshl_R | omega) (by first | with_reducible exact hI_R | with_reducible exact lcm_R | with_reducible exact band_R | with_reducible exact bor_R | with_reducible exact bshr_R | with_reducible exact bshl_R | omega) (fun hc => ?_) (fun hc => ?_)))) <;> (first | (exfalso; omega) | skip)
          repeat' (first
            | exact kk2
            | (show Rch _ _ _ _ _ 0 _ _ _; refine Rch.blk' (Rn_mono mt _) bl_X3_partInLeastTerms_0 (i_lload_n rfl (i_lconst (i_lcmp (t_if_ne 17 6 rfl rfl (by first | with_reducible exact hI_R | with_reducible exact lcm_R | with_reducible exact band_R | with_reducible exact bor_R | with_reducible exact bshr_R | with_reducible exact bshl_R | omega) (fun hc => ?_) (fun hc => ?_))))) <;> (first | (exfalso; omega) | skip))
            | (show Rch _ _ _ _ _ 6 _ _ _; refine Rch.blk' (Rn_mono mt _) bl_X3_partInLeastTerms_6 (i_iload rfl (t_if_ne 15 11 rfl rfl (by first | with_reducible exact hI_R | with_reducible exact lcm_R | with_reducible exact band_R | with_reducible exact bor_R | with_reducible exact bshr_R | with_reducible exact bshl_R | omega) (fun hc => ?_) (fun hc => ?_))) <;> (first | (exfalso; omega) | skip))
            | (show Rch _ _ _ _ _ 11 _ _ _; refine Rch.blk' (Rn_mono mt _) bl_X3_partInLeastTerms_11 (i_lconst (t_goto 16 rfl ?_)))
            | (show Rch _ _ _ _ _ 15 _ _ _; refine Rch.blk' (Rn_mono mt _) bl_X3_partInLeastTerms_15 (i_lconst (t_none ?_)))
            | (show Rch _ _ _ _ _ 16 _ _ _; refine Rch.blk' (Rn_mono mt _) bl_X3_partInLeastTerms_16 (t_lret ?_))
            | (show Rch _ _ _ _ _ 17 _ _ _; refine Rch.blk' (Rn_mono mt _) bl_X3_partInLeastTerms_17 (i_lload_n rfl (i_lstore5 trivial (i_lload_n rfl (i_lstore7 trivial (i_iconst k_0 (i_istore9 trivial (t_none ?_))))))))
            | (show Rch _ _ _ _ _ 34 _ _ _; refine Rch.blk' (Rn_mono mt _) bl_X3_partInLeastTerms_34 (i_lload rfl (i_lconst (i_lcmp (t_if_eq 62 41 rfl rfl (by first | with_reducible exact hI_R | with_reducible exact lcm_R | with_reducible exact band_R | with_reducible exact bor_R | with_reducible exact bshr_R | with_reducible exact bshl_R | omega) (fun hc => ?_) (fun hc => ?_))))) <;> (first | (exfalso; omega) | skip))
            | (show Rch _ _ _ _ _ 41 _ _ _; refine Rch.blk' (Rn_mono mt _) bl_X3_partInLeastTerms_41 (i_lload rfl (i_lload rfl (i_lrem (by assumption) (i_lstore10 trivial (i_lload rfl (i_lstore5 trivial (i_lload rfl (i_lstore7 trivial (i_iinc9 trivial k_1 (t_goto 26 rfl ?_)))))))))))
            | (show Rch _ _ _ _ _ 67 _ _ _; refine Rch.blk' (Rn_mono mt _) bl_X3_partInLeastTerms_67 (i_lload_n rfl (t_goto 72 rfl ?_)))
            | (show Rch _ _ _ _ _ 71 _ _ _; refine Rch.blk' (Rn_mono mt _) bl_X3_partInLeastTerms_71 (i_lload_n rfl (t_none ?_)))
            | (show Rch _ _ _ _ _ 72 _ _ _; refine Rch.blk' (Rn_mono mt _) bl_X3_partInLeastTerms_72 (i_lstore9 trivial (i_lload rfl (i_lconst (i_lcmp (t_if_ne 86 81 rfl rfl (by first | with_reducible exact hI_R | with_reducible exact lcm_R | with_reducible exact band_R | with_reducible exact bor_R | with_reducible exact bshr_R | with_reducible exact bshl_R | omega) (fun hc => ?_) (fun hc => ?_)))))) <;> (first | (exfalso; omega) | skip))
            | (show Rch _ _ _ _ _ 81 _ _ _; refine Rch.blk' (Rn_mono mt _) bl_X3_partInLeastTerms_81 (i_lload rfl (t_goto 91 rfl ?_)))
            | (show Rch _ _ _ _ _ 86 _ _ _; refine Rch.blk' (Rn_mono mt _) bl_X3_partInLeastTerms_86 (i_lload rfl (i_lload rfl (i_ldiv (by assumption) (t_none ?_)))))
            | (show Rch _ _ _ _ _ 91 _ _ _; refine Rch.blk' (Rn_mono mt _) bl_X3_partInLeastTerms_91 (t_lret ?_)))
      · obtain rfl : k = 1000 := by omega
        have hT : y = 0 := hT
        have hend := hend hT
        clear ih
        refine Rch.blk' (Rn_mono mt _) bl_X3_partInLeastTerms_26 (i_iload rfl (i_sipush k_1000 (t_ic_ge 62 34 rfl rfl (by first | with_reducible exact hI_R | with_reducible exact lcm_R | with_reducible exact band_R | with_reducible exact bor_R | with_reducible exact bshr_R | with_reducible exact bshl_R | omega) (by first | with_reducible exact hI_R | with_reducible exact lcm_R | with_reducible exact band_R | with_reducible exact bor_R | with_reducible exact bshr_R | with_reducible exact bshl_R | omega) (fun hc => ?_) (fun hc => ?_)))) <;> (first | (exfalso; omega) | skip)
        repeat' (first
          | exact hend
          | (show Rch _ _ _ _ _ 0 _ _ _; refine Rch.blk' (Rn_mono mt _) bl_X3_partInLeastTerms_0 (i_lload_n rfl (i_lconst (i_lcmp (t_if_ne 17 6 rfl rfl (by first | with_reducible exact hI_R | with_reducible exact lcm_R | with_reducible exact band_R | with_reducible exact bor_R | with_reducible exact bshr_R | with_reducible exact bshl_R | omega) (fun hc => ?_) (fun hc => ?_))))) <;> (first | (exfalso; omega) | skip))
          | (show Rch _ _ _ _ _ 6 _ _ _; refine Rch.blk' (Rn_mono mt _) bl_X3_partInLeastTerms_6 (i_iload rfl (t_if_ne 15 11 rfl rfl (by first | with_reducible exact hI_R | with_reducible exact lcm_R | with_reducible exact band_R | with_reducible exact bor_R | with_reducible exact bshr_R | with_reducible exact bshl_R | omega) (fun hc => ?_) (fun hc => ?_))) <;> (first | (exfalso; omega) | skip))
          | (show Rch _ _ _ _ _ 11 _ _ _; refine Rch.blk' (Rn_mono mt _) bl_X3_partInLeastTerms_11 (i_lconst (t_goto 16 rfl ?_)))
          | (show Rch _ _ _ _ _ 15 _ _ _; refine Rch.blk' (Rn_mono mt _) bl_X3_partInLeastTerms_15 (i_lconst (t_none ?_)))
          | (show Rch _ _ _ _ _ 16 _ _ _; refine Rch.blk' (Rn_mono mt _) bl_X3_partInLeastTerms_16 (t_lret ?_))
          | (show Rch _ _ _ _ _ 17 _ _ _; refine Rch.blk' (Rn_mono mt _) bl_X3_partInLeastTerms_17 (i_lload_n rfl (i_lstore5 trivial (i_lload_n rfl (i_lstore7 trivial (i_iconst k_0 (i_istore9 trivial (t_none ?_))))))))
          | (show Rch _ _ _ _ _ 34 _ _ _; refine Rch.blk' (Rn_mono mt _) bl_X3_partInLeastTerms_34 (i_lload rfl (i_lconst (i_lcmp (t_if_eq 62 41 rfl rfl (by first | with_reducible exact hI_R | with_reducible exact lcm_R | with_reducible exact band_R | with_reducible exact bor_R | with_reducible exact bshr_R | with_reducible exact bshl_R | omega) (fun hc => ?_) (fun hc => ?_))))) <;> (first | (exfalso; omega) | skip))
          | (show Rch _ _ _ _ _ 41 _ _ _; refine Rch.blk' (Rn_mono mt _) bl_X3_partInLeastTerms_41 (i_lload rfl (i_lload rfl (i_lrem (by assumption) (i_lstore10 trivial (i_lload rfl (i_lstore5 trivial (i_lload rfl (i_lstore7 trivial (i_iinc9 trivial k_1 (t_goto 26 rfl ?_)))))))))))
          | (show Rch _ _ _ _ _ 67 _ _ _; refine Rch.blk' (Rn_mono mt _) bl_X3_partInLeastTerms_67 (i_lload_n rfl (t_goto 72 rfl ?_)))
          | (show Rch _ _ _ _ _ 71 _ _ _; refine Rch.blk' (Rn_mono mt _) bl_X3_partInLeastTerms_71 (i_lload_n rfl (t_none ?_)))
          | (show Rch _ _ _ _ _ 72 _ _ _; refine Rch.blk' (Rn_mono mt _) bl_X3_partInLeastTerms_72 (i_lstore9 trivial (i_lload rfl (i_lconst (i_lcmp (t_if_ne 86 81 rfl rfl (by first | with_reducible exact hI_R | with_reducible exact lcm_R | with_reducible exact band_R | with_reducible exact bor_R | with_reducible exact bshr_R | with_reducible exact bshl_R | omega) (fun hc => ?_) (fun hc => ?_)))))) <;> (first | (exfalso; omega) | skip))
          | (show Rch _ _ _ _ _ 81 _ _ _; refine Rch.blk' (Rn_mono mt _) bl_X3_partInLeastTerms_81 (i_lload rfl (t_goto 91 rfl ?_)))
          | (show Rch _ _ _ _ _ 86 _ _ _; refine Rch.blk' (Rn_mono mt _) bl_X3_partInLeastTerms_86 (i_lload rfl (i_lload rfl (i_ldiv (by assumption) (t_none ?_)))))
          | (show Rch _ _ _ _ _ 91 _ _ _; refine Rch.blk' (Rn_mono mt _) bl_X3_partInLeastTerms_91 (t_lret ?_)))
    have kz := key 0 (by omega) (by omega) a b none none a0 a1 b0 b1 (Or.inl (by omega)) (eT_1000 a0 b0 (by omega)) rfl
    clear key
    repeat' (first
      | exact kz
      | (show Rch _ _ _ _ _ 0 _ _ _; refine Rch.blk' (Rn_mono mt _) bl_X3_partInLeastTerms_0 (i_lload_n rfl (i_lconst (i_lcmp (t_if_ne 17 6 rfl rfl (by first | with_reducible exact hI_R | with_reducible exact lcm_R | with_reducible exact band_R | with_reducible exact bor_R | with_reducible exact bshr_R | with_reducible exact bshl_R | omega) (fun hc => ?_) (fun hc => ?_))))) <;> (first | (exfalso; omega) | skip))
      | (show Rch _ _ _ _ _ 6 _ _ _; refine Rch.blk' (Rn_mono mt _) bl_X3_partInLeastTerms_6 (i_iload rfl (t_if_ne 15 11 rfl rfl (by first | with_reducible exact hI_R | with_reducible exact lcm_R | with_reducible exact band_R | with_reducible exact bor_R | with_reducible exact bshr_R | with_reducible exact bshl_R | omega) (fun hc => ?_) (fun hc => ?_))) <;> (first | (exfalso; omega) | skip))
      | (show Rch _ _ _ _ _ 11 _ _ _; refine Rch.blk' (Rn_mono mt _) bl_X3_partInLeastTerms_11 (i_lconst (t_goto 16 rfl ?_)))
      | (show Rch _ _ _ _ _ 15 _ _ _; refine Rch.blk' (Rn_mono mt _) bl_X3_partInLeastTerms_15 (i_lconst (t_none ?_)))
      | (show Rch _ _ _ _ _ 16 _ _ _; refine Rch.blk' (Rn_mono mt _) bl_X3_partInLeastTerms_16 (t_lret ?_))
      | (show Rch _ _ _ _ _ 17 _ _ _; refine Rch.blk' (Rn_mono mt _) bl_X3_partInLeastTerms_17 (i_lload_n rfl (i_lstore5 trivial (i_lload_n rfl (i_lstore7 trivial (i_iconst k_0 (i_istore9 trivial (t_none ?_))))))))
      | (show Rch _ _ _ _ _ 34 _ _ _; refine Rch.blk' (Rn_mono mt _) bl_X3_partInLeastTerms_34 (i_lload rfl (i_lconst (i_lcmp (t_if_eq 62 41 rfl rfl (by first | with_reducible exact hI_R | with_reducible exact lcm_R | with_reducible exact band_R | with_reducible exact bor_R | with_reducible exact bshr_R | with_reducible exact bshl_R | omega) (fun hc => ?_) (fun hc => ?_))))) <;> (first | (exfalso; omega) | skip))
      | (show Rch _ _ _ _ _ 41 _ _ _; refine Rch.blk' (Rn_mono mt _) bl_X3_partInLeastTerms_41 (i_lload rfl (i_lload rfl (i_lrem (by assumption) (i_lstore10 trivial (i_lload rfl (i_lstore5 trivial (i_lload rfl (i_lstore7 trivial (i_iinc9 trivial k_1 (t_goto 26 rfl ?_)))))))))))
      | (show Rch _ _ _ _ _ 62 _ _ _; refine Rch.blk' (Rn_mono mt _) bl_X3_partInLeastTerms_62 (i_iload rfl (t_if_ne 71 67 rfl rfl (by first | with_reducible exact hI_R | with_reducible exact lcm_R | with_reducible exact band_R | with_reducible exact bor_R | with_reducible exact bshr_R | with_reducible exact bshl_R | omega) (fun hc => ?_) (fun hc => ?_))) <;> (first | (exfalso; omega) | skip))
      | (show Rch _ _ _ _ _ 67 _ _ _; refine Rch.blk' (Rn_mono mt _) bl_X3_partInLeastTerms_67 (i_lload_n rfl (t_goto 72 rfl ?_)))
      | (show Rch _ _ _ _ _ 71 _ _ _; refine Rch.blk' (Rn_mono mt _) bl_X3_partInLeastTerms_71 (i_lload_n rfl (t_none ?_)))
      | (show Rch _ _ _ _ _ 72 _ _ _; refine Rch.blk' (Rn_mono mt _) bl_X3_partInLeastTerms_72 (i_lstore9 trivial (i_lload rfl (i_lconst (i_lcmp (t_if_ne 86 81 rfl rfl (by first | with_reducible exact hI_R | with_reducible exact lcm_R | with_reducible exact band_R | with_reducible exact bor_R | with_reducible exact bshr_R | with_reducible exact bshl_R | omega) (fun hc => ?_) (fun hc => ?_)))))) <;> (first | (exfalso; omega) | skip))
      | (show Rch _ _ _ _ _ 81 _ _ _; refine Rch.blk' (Rn_mono mt _) bl_X3_partInLeastTerms_81 (i_lload rfl (t_goto 91 rfl ?_)))
      | (show Rch _ _ _ _ _ 86 _ _ _; refine Rch.blk' (Rn_mono mt _) bl_X3_partInLeastTerms_86 (i_lload rfl (i_lload rfl (i_ldiv (by assumption) (t_none ?_)))))
      | (show Rch _ _ _ _ _ 91 _ _ _; refine Rch.blk' (Rn_mono mt _) bl_X3_partInLeastTerms_91 (t_lret ?_)))
theorem c_X4_gcd {a b : Int} (a0 : 0 ≤ a) (a1 : a < 100000000000) (b0 : 0 ≤ b) (b1 : b < 100000000000) (hq : Q (some (al (L (EG a b)))) h) : Rn mt (d + 1) 187 [al (L a), al (L b)] h Q := by
  refine Rn.intro iX4_gcd rfl rfl ?_
  show Rch bX4_gcd _ _ _ _ 0 [some (al (L a)), none, some (al (L b)), none, none, none, none, none, none, none] [] _
  have key : ∀ (n : Nat) (x y : Int) (u v : Option AV), 0 ≤ x → x < 100000000000 → 0 ≤ y → y < 100000000000 → eT n x y → (∀ m : Nat, n ≤ m → eg m x y = EG a b) → RH bX4_gcd d Q 6 [some (al (L a)), none, some (al (L b)), none, some (al (L x)), none, some (al (L y)), none, u, v] h := by
    intro n
    induction n with
    | zero =>
      intro x y u v x0 x1 y0 y1 hT hE
      have c : y = 0 := hT
      have hx : x = EG a b := hE 0 (by omega)
      have e1 := lc_0 c
      rw [← hx] at hq
      refine Rch.blk' (Rn_mono mt _) bl_X4_gcd_6 (i_lload rfl (i_lconst (i_lcmp (t_if_eq 31 13 rfl rfl (by first | with_reducible exact hI_R | with_reducible exact lcm_R | with_reducible exact band_R | with_reducible exact bor_R | with_reducible exact bshr_R | with_reducible exact bshl_R | omega) (fun hc => ?_) (fun hc => ?_))))) <;> (first | (exfalso; omega) | skip)
      repeat' (first
        | exact hq
        | (show Rch _ _ _ _ _ 0 _ _ _; refine Rch.blk' (Rn_mono mt _) bl_X4_gcd_0 (i_lload_n rfl (i_lstore4 trivial (i_lload_n rfl (i_lstore6 trivial (t_none ?_))))))
        | (show Rch _ _ _ _ _ 13 _ _ _; refine Rch.blk' (Rn_mono mt _) bl_X4_gcd_13 (i_lload rfl (i_lload rfl (i_lrem (by assumption) (i_lstore8 trivial (i_lload rfl (i_lstore4 trivial (i_lload rfl (i_lstore6 trivial (t_goto 6 rfl ?_))))))))))
        | (show Rch _ _ _ _ _ 31 _ _ _; refine Rch.blk' (Rn_mono mt _) bl_X4_gcd_31 (i_lload rfl (t_lret ?_))))
    | succ n ih =>
      intro x y u v x0 x1 y0 y1 hT hE
      by_cases c : y = 0
      · have hx : x = EG a b := by
          rw [← hE (n + 1) (by omega)]
          exact (if_pos c).symm
        have e1 := lc_0 c
        rw [← hx] at hq
        clear ih
        refine Rch.blk' (Rn_mono mt _) bl_X4_gcd_6 (i_lload rfl (i_lconst (i_lcmp (t_if_eq 31 13 rfl rfl (by first | with_reducible exact hI_R | with_reducible exact lcm_R | with_reducible exact band_R | with_reducible exact bor_R | with_reducible exact bshr_R | with_reducible exact bshl_R | omega) (fun hc => ?_) (fun hc => ?_))))) <;> (first | (exfalso; omega) | skip)
        repeat' (first
          | exact hq
          | (show Rch _ _ _ _ _ 0 _ _ _; refine Rch.blk' (Rn_mono mt _) bl_X4_gcd_0 (i_lload_n rfl (i_lstore4 trivial (i_lload_n rfl (i_lstore6 trivial (t_none ?_))))))
          | (show Rch _ _ _ _ _ 13 _ _ _; refine Rch.blk' (Rn_mono mt _) bl_X4_gcd_13 (i_lload rfl (i_lload rfl (i_lrem (by assumption) (i_lstore8 trivial (i_lload rfl (i_lstore4 trivial (i_lload rfl (i_lstore6 trivial (t_goto 6 rfl ?_))))))))))
          | (show Rch _ _ _ _ _ 31 _ _ _; refine Rch.blk' (Rn_mono mt _) bl_X4_gcd_31 (i_lload rfl (t_lret ?_))))
      · have e1 := lc_n (a := y) (by omega) (by omega)
        have hz : ¬ L y = 0 := L_z (by omega) (by omega)
        have h1 := Int.emod_nonneg x c
        have h2 := Int.emod_lt_of_pos x (show 0 < y by omega)
        have kk2 := ih y (x % y) (some (al (L x % L y))) none y0 y1 h1 (by omega) (hT.elim (fun z => absurd z c) id) (fun m hm => by
          rw [← hE (m + 1) (by omega)]
          exact (if_neg c).symm)
        rw [← L_mod x0 (by omega) (by omega) (by omega)] at kk2
        clear ih
        refine Rch.blk' (Rn_mono mt _) bl_X4_gcd_6 (i_lload rfl (i_lconst (i_lcmp (t_if_eq 31 13 rfl rfl (by first | with_reducible exact hI_R | with_reducible exact lcm_R | with_reducible exact band_R | with_reducible exact bor_R | with_reducible exact bshr_R | with_reducible exact bshl_R | omega) (fun hc => ?_) (fun hc => ?_))))) <;> (first | (exfalso; omega) | skip)
        repeat' (first
          | exact kk2
          | (show Rch _ _ _ _ _ 0 _ _ _; refine Rch.blk' (Rn_mono mt _) bl_X4_gcd_0 (i_lload_n rfl (i_lstore4 trivial (i_lload_n rfl (i_lstore6 trivial (t_none ?_))))))
          | (show Rch _ _ _ _ _ 13 _ _ _; refine Rch.blk' (Rn_mono mt _) bl_X4_gcd_13 (i_lload rfl (i_lload rfl (i_lrem (by assumption) (i_lstore8 trivial (i_lload rfl (i_lstore4 trivial (i_lload rfl (i_lstore6 trivial (t_goto 6 rfl ?_))))))))))
          | (show Rch _ _ _ _ _ 31 _ _ _; refine Rch.blk' (Rn_mono mt _) bl_X4_gcd_31 (i_lload rfl (t_lret ?_))))
  have kz := key 1000 a b none none a0 a1 b0 b1 (eT_1000 a0 b0 (by omega)) (fun m hm => eg_T 1000 m a b (eT_1000 a0 b0 (by omega)) hm)
  clear key
  repeat' (first
    | exact kz
    | (show Rch _ _ _ _ _ 0 _ _ _; refine Rch.blk' (Rn_mono mt _) bl_X4_gcd_0 (i_lload_n rfl (i_lstore4 trivial (i_lload_n rfl (i_lstore6 trivial (t_none ?_))))))
    | (show Rch _ _ _ _ _ 13 _ _ _; refine Rch.blk' (Rn_mono mt _) bl_X4_gcd_13 (i_lload rfl (i_lload rfl (i_lrem (by assumption) (i_lstore8 trivial (i_lload rfl (i_lstore4 trivial (i_lload rfl (i_lstore6 trivial (t_goto 6 rfl ?_))))))))))
    | (show Rch _ _ _ _ _ 31 _ _ _; refine Rch.blk' (Rn_mono mt _) bl_X4_gcd_31 (i_lload rfl (t_lret ?_))))
theorem c_X4_partOf {a b part : Int} (a0 : 0 ≤ a) (a1 : a < 100000000000) (b0 : 0 ≤ b) (b1 : b < 100000000000) (hp : part = 0 ∨ part = 1) (hq : Q (some (al (L (vPart a b part)))) h) : Rn mt (d + 2) 188 [al (L a), al (L b), ai (I part)] h Q := by
  refine Rn.intro iX4_partOf rfl rfl ?_
  show Rch bX4_partOf _ _ _ _ 0 [some (al (L a)), none, some (al (L b)), none, some (ai (I part))] [] _
  have kk : ∀ v, v = L (vPart a b part) → Q (some (al v)) h := fun v e => by rw [e]; exact hq
  clear hq
  by_cases c0 : a = 0
  · have e0 := lc_0 c0
    have k0 : (I part).toInt64 = L (vPart a b part) := by unfold vPart; rw [if_pos c0, L_i2l ⟨by omega, by omega⟩]
    repeat' (first
      | exact kk _ k0
      | (show Rch _ _ _ _ _ 0 _ _ _; refine Rch.blk' (Rn_mono mt _) bl_X4_partOf_0 (i_lload_n rfl (i_lconst (i_lcmp (t_if_ne 10 6 rfl rfl (by first | with_reducible exact hI_R | with_reducible exact lcm_R | with_reducible exact band_R | with_reducible exact bor_R | with_reducible exact bshr_R | with_reducible exact bshl_R | omega) (fun hc => ?_) (fun hc => ?_))))) <;> (first | (exfalso; omega) | skip))
      | (show Rch _ _ _ _ _ 6 _ _ _; refine Rch.blk' (Rn_mono mt _) bl_X4_partOf_6 (i_iload rfl (i_i2l (t_lret ?_))))
      | (show Rch _ _ _ _ _ 10 _ _ _; refine Rch.blk' (Rn_mono mt _) bl_X4_partOf_10 (i_iload rfl (t_if_ne 19 15 rfl rfl (by first | with_reducible exact hI_R | with_reducible exact lcm_R | with_reducible exact band_R | with_reducible exact bor_R | with_reducible exact bshr_R | with_reducible exact bshl_R | omega) (fun hc => ?_) (fun hc => ?_))) <;> (first | (exfalso; omega) | skip))
      | (show Rch _ _ _ _ _ 15 _ _ _; refine Rch.blk' (Rn_mono mt _) bl_X4_partOf_15 (i_lload_n rfl (t_goto 20 rfl ?_)))
      | (show Rch _ _ _ _ _ 19 _ _ _; refine Rch.blk' (Rn_mono mt _) bl_X4_partOf_19 (i_lload_n rfl (t_none ?_)))
      | (show Rch _ _ _ _ _ 20 _ _ _; refine Rch.blk' (Rn_mono mt _) bl_X4_partOf_20 (i_lload_n rfl (i_lload_n rfl (t_cs2 (Rn_mono mt _) 25 rfl (Nat.le_of_ble_eq_true rfl) ?_))))
      | (show Rch _ _ _ _ _ 25 _ _ _; refine Rch.blk' (Rn_mono mt _) bl_X4_partOf_25 (i_ldiv (by assumption) (t_lret ?_))))
  · have e0 := lc_n (a := a) (by omega) (by omega)
    have eR := EG_R a0 b0 (by omega) (Or.inl (show 0 < a by omega))
    have hz : ¬ L (EG a b) = 0 := L_z (by omega) (by omega)
    have k0 : part = 0 → L a / L (EG a b) = L (vPart a b part) := fun e => by
      rw [L_div a0 (by omega) (by omega) (by omega)]
      unfold vPart; rw [if_neg c0, if_pos e]
    have k1 : part = 1 → L b / L (EG a b) = L (vPart a b part) := fun e => by
      rw [L_div b0 (by omega) (by omega) (by omega)]
      unfold vPart; rw [if_neg c0, if_neg (by omega)]
    repeat' (first
      | (show Rn _ _ 187 _ _ _; refine c_X4_gcd a0 a1 b0 b1 ?_)
      | exact kk _ (k0 (by omega))
      | exact kk _ (k1 (by omega))
      | (show Rch _ _ _ _ _ 0 _ _ _; refine Rch.blk' (Rn_mono mt _) bl_X4_partOf_0 (i_lload_n rfl (i_lconst (i_lcmp (t_if_ne 10 6 rfl rfl (by first | with_reducible exact hI_R | with_reducible exact lcm_R | with_reducible exact band_R | with_reducible exact bor_R | with_reducible exact bshr_R | with_reducible exact bshl_R | omega) (fun hc => ?_) (fun hc => ?_))))) <;> (first | (exfalso; omega) | skip))
      | (show Rch _ _ _ _ _ 6 _ _ _; refine Rch.blk' (Rn_mono mt _) bl_X4_partOf_6 (i_iload rfl (i_i2l (t_lret ?_))))
      | (show Rch _ _ _ _ _ 10 _ _ _; refine Rch.blk' (Rn_mono mt _) bl_X4_partOf_10 (i_iload rfl (t_if_ne 19 15 rfl rfl (by first | with_reducible exact hI_R | with_reducible exact lcm_R | with_reducible exact band_R | with_reducible exact bor_R | with_reducible exact bshr_R | with_reducible exact bshl_R | omega) (fun hc => ?_) (fun hc => ?_))) <;> (first | (exfalso; omega) | skip))
      | (show Rch _ _ _ _ _ 15 _ _ _; refine Rch.blk' (Rn_mono mt _) bl_X4_partOf_15 (i_lload_n rfl (t_goto 20 rfl ?_)))
      | (show Rch _ _ _ _ _ 19 _ _ _; refine Rch.blk' (Rn_mono mt _) bl_X4_partOf_19 (i_lload_n rfl (t_none ?_)))
      | (show Rch _ _ _ _ _ 20 _ _ _; refine Rch.blk' (Rn_mono mt _) bl_X4_partOf_20 (i_lload_n rfl (i_lload_n rfl (t_cs2 (Rn_mono mt _) 25 rfl (Nat.le_of_ble_eq_true rfl) ?_))))
      | (show Rch _ _ _ _ _ 25 _ _ _; refine Rch.blk' (Rn_mono mt _) bl_X4_partOf_25 (i_ldiv (by assumption) (t_lret ?_))))
theorem WS_TS {G : Bd} (hO : OKB G) : WS G (TS G) = WO G 0 + WO G 1 := by
  have hn := hO.n.1
  unfold WS WO
  rw [← SM_add (nn G) hn]
  refine SM_ext (c := nn G) (fun i i0 i1 => ?_) _ hn (by omega)
  have g := (hO.pc i i0 i1).2.2.1
  by_cases c : sq G i < 36
  · rw [ifp_p (show TS G i from ⟨i1, c⟩)]
    rcases g with g | g
    · rw [ifp_p (show OC G 0 i from ⟨g, c⟩), ifp_n (fun z => by have := z.1; omega)]; omega
    · rw [ifp_n (fun z => by have := z.1; omega), ifp_p (show OC G 1 i from ⟨g, c⟩)]; omega
  · rw [ifp_n (fun z => c z.2), ifp_n (fun z => c z.2), ifp_n (fun z => c z.2)]; rfl
def vShare0 (w0 w1 part : Int) : Int := vPart w0 (w0 + w1) part
noncomputable def vShare (G : Bd) (s part : Int) : Int := if (s = 0 ∨ s = 1) ∧ 0 ≤ part ∧ part ≤ 1 then vShare0 (WO G s) (WO G (1 - s)) part else 1000000001
theorem c_X3_share (hG : RC h 0 G) (hO : OKB G) {s part : Int} (hs : inR s) (hp : inR part) (hq : ∀ v h', v = vShare G s part → JX h h' → Q (some (al (L v))) h') : Rn mt (d + 20) 91 [ar 2 0, ai (I s), ai (I part)] h Q := by
  refine Rn.intro iX3_share rfl rfl ?_
  show Rch bX3_share _ _ _ _ 0 [some (ar 2 0), some (ai (I s)), some (ai (I part)), none] [] _
  have k1 : ¬ ((s = 0 ∨ s = 1) ∧ 0 ≤ part ∧ part ≤ 1) → Q (some (al (lcst 1000000001))) h := fun a => by
    rw [l_n]; exact hq _ _ (by unfold vShare; rw [if_neg a]) JX.rf
  have k0 : (s = 0 ∨ s = 1) → (0 ≤ part ∧ part ≤ 1) → Q (some (al (L (vPart (WO G s) (WO G s + WO G (1 - s)) part)))) h := fun a b => hq _ _ (by unfold vShare vShare0; rw [if_pos ⟨a, b⟩]) JX.rf
  clear hq
  repeat' (first
    | (show Rn _ _ 89 _ _ _; rw [L_i2l (x := WO G s) (by omega), L_i2l (x := WO G s + WO G (1 - s)) (by omega)]; refine c_X3_partInLeastTerms (by omega) (by omega) (by omega) (by omega) (by omega) ?_)
    | exact k0 (by omega) (by omega)
    | exact k1 (by omega)
    | (show Rn _ _ 10 _ _ _; refine c_X3_isSide (by first | omega | exact hI_R) (fun _ => ?_) (fun _ => ?_))
    | (show Rn _ _ 37 _ _ _; refine c_X0_worthOf (by assumption) (by assumption) (by first | omega | exact hI_R) (fun _ _ => ?_))
    | (show Rch _ _ _ _ _ 0 _ _ _; refine Rch.blk' (Rn_mono mt _) bl_X3_share_0 (i_iload_n rfl (t_cs1 (Rn_mono mt _) 4 rfl (Nat.le_of_ble_eq_true rfl) ?_)))
    | (show Rch _ _ _ _ _ 4 _ _ _; refine Rch.blk' (Rn_mono mt _) bl_X3_share_4 (t_if_eq 16 7 rfl rfl (by first | with_reducible exact hI_R | with_reducible exact lcm_R | with_reducible exact band_R | with_reducible exact bor_R | with_reducible exact bshr_R | with_reducible exact bshl_R | omega) (fun hc => ?_) (fun hc => ?_)) <;> (first | (exfalso; omega) | skip))
    | (show Rch _ _ _ _ _ 7 _ _ _; refine Rch.blk' (Rn_mono mt _) bl_X3_share_7 (i_iload_n rfl (t_if_lt 16 11 rfl rfl (by first | with_reducible exact hI_R | with_reducible exact lcm_R | with_reducible exact band_R | with_reducible exact bor_R | with_reducible exact bshr_R | with_reducible exact bshl_R | omega) (fun hc => ?_) (fun hc => ?_))) <;> (first | (exfalso; omega) | skip))
    | (show Rch _ _ _ _ _ 11 _ _ _; refine Rch.blk' (Rn_mono mt _) bl_X3_share_11 (i_iload_n rfl (i_iconst k_1 (t_ic_le 20 16 rfl rfl (by first | with_reducible exact hI_R | with_reducible exact lcm_R | with_reducible exact band_R | with_reducible exact bor_R | with_reducible exact bshr_R | with_reducible exact bshl_R | omega) (by first | with_reducible exact hI_R | with_reducible exact lcm_R | with_reducible exact band_R | with_reducible exact bor_R | with_reducible exact bshr_R | with_reducible exact bshl_R | omega) (fun hc => ?_) (fun hc => ?_)))) <;> (first | (exfalso; omega) | skip))
    | (show Rch _ _ _ _ _ 16 _ _ _; refine Rch.blk' (Rn_mono mt _) bl_X3_share_16 (i_ldc2 (t_lret ?_)))
    | (show Rch _ _ _ _ _ 20 _ _ _; refine Rch.blk' (Rn_mono mt _) bl_X3_share_20 (i_aload_n rfl (i_gfs rfl (i_iload_n rfl (t_cv2 (Rn_mono mt _) 28 rfl (Nat.le_of_ble_eq_true rfl) ?_)))))
    | (show Rch _ _ _ _ _ 28 _ _ _; refine Rch.blk' (Rn_mono mt _) bl_X3_share_28 (i_istore3 trivial (i_iload_n rfl (i_i2l (i_iload_n rfl (i_aload_n rfl (i_gfs rfl (i_iconst k_1 (i_iload_n rfl (i_isub (t_cv2 (Rn_mono mt _) 42 rfl (Nat.le_of_ble_eq_true rfl) ?_)))))))))))
    | (show Rch _ _ _ _ _ 42 _ _ _; refine Rch.blk' (Rn_mono mt _) bl_X3_share_42 (i_iadd (i_i2l (i_iload_n rfl (t_cs3 (Rn_mono mt _) 48 rfl (Nat.le_of_ble_eq_true rfl) ?_)))))
    | (show Rch _ _ _ _ _ 48 _ _ _; refine Rch.blk' (Rn_mono mt _) bl_X3_share_48 (t_lret ?_)))
theorem c_X4_share (hG : RR h 0 G no0 0) (hO : OKB G) {s part : Int} (hs : inR s) (hp : inR part) (hq : ∀ v h', v = vShare G s part → JY h h' → Q (some (al (L v))) h') : Rn mt (d + 20) 190 [ar 3 0, ai (I s), ai (I part)] h Q := by
  refine Rn.intro iX4_share rfl rfl ?_
  show Rch bX4_share _ _ _ _ 0 [some (ar 3 0), some (ai (I s)), some (ai (I part))] [] _
  have w_0 := WO_R hO 0
  have w_1 := WO_R hO 1
  have k1 : ¬ ((s = 0 ∨ s = 1) ∧ 0 ≤ part ∧ part ≤ 1) → Q (some (al (lcst 1000000001))) h := fun a => by
    rw [l_n]; exact hq _ _ (by unfold vShare; rw [if_neg a]) JY.rf
  have k0 : (s = 0 ∨ s = 1) → (0 ≤ part ∧ part ≤ 1) → Q (some (al (L (vPart (WO G s) (WO G 0 + WO G 1) part)))) h := fun a b => hq _ _ (by
    unfold vShare vShare0
    rw [if_pos ⟨a, b⟩]
    rcases a with rfl | rfl
    · rfl
    · rw [Int.add_comm]; rfl) JY.rf
  have e_s := WS_OS hO s
  have e_t := WS_TS hO
  clear hq
  repeat' (first
    | (show Rn _ _ 188 _ _ _; rw [e_s, e_t, L_i2l (x := WO G s) (by omega), L_i2l (x := WO G 0 + WO G 1) (by omega)]; refine c_X4_partOf (by omega) (by omega) (by omega) (by omega) (by omega) ?_)
    | exact k0 (by omega) (by omega)
    | exact k1 (by omega)
    | (show Rn _ _ 113 _ _ _; refine c_X4_isSide (by first | omega | exact hI_R) (fun _ => ?_) (fun _ => ?_))
    | (show Rn _ _ 105 _ _ _; refine c_X4_isIn (by first | omega | exact hI_R) (by first | omega | exact hI_R) (by first | omega | exact hI_R) (fun _ _ => ?_) (fun _ => ?_))
    | (show Rn _ _ 134 _ _ _; refine c_X4_ofSide (by assumption) (by assumption) (by first | omega | exact hI_R) ?_)
    | (show Rn _ _ 135 _ _ _; refine c_X4_worthOf (by assumption) (by assumption) (fun _ _ => ?_))
    | (show Rn _ _ 133 _ _ _; refine c_X4_hereIn (by assumption) (by assumption) ?_)
    | (show Rch _ _ _ _ _ 0 _ _ _; refine Rch.blk' (Rn_mono mt _) bl_X4_share_0 (i_iload_n rfl (t_cs1 (Rn_mono mt _) 4 rfl (Nat.le_of_ble_eq_true rfl) ?_)))
    | (show Rch _ _ _ _ _ 4 _ _ _; refine Rch.blk' (Rn_mono mt _) bl_X4_share_4 (t_if_eq 54 7 rfl rfl (by first | with_reducible exact hI_R | with_reducible exact lcm_R | with_reducible exact band_R | with_reducible exact bor_R | with_reducible exact bshr_R | with_reducible exact bshl_R | omega) (fun hc => ?_) (fun hc => ?_)) <;> (first | (exfalso; omega) | skip))
    | (show Rch _ _ _ _ _ 7 _ _ _; refine Rch.blk' (Rn_mono mt _) bl_X4_share_7 (i_iload_n rfl (i_iconst k_0 (i_iconst k_1 (t_cs3 (Rn_mono mt _) 13 rfl (Nat.le_of_ble_eq_true rfl) ?_)))))
    | (show Rch _ _ _ _ _ 13 _ _ _; refine Rch.blk' (Rn_mono mt _) bl_X4_share_13 (t_if_eq 54 16 rfl rfl (by first | with_reducible exact hI_R | with_reducible exact lcm_R | with_reducible exact band_R | with_reducible exact bor_R | with_reducible exact bshr_R | with_reducible exact bshl_R | omega) (fun hc => ?_) (fun hc => ?_)) <;> (first | (exfalso; omega) | skip))
    | (show Rch _ _ _ _ _ 16 _ _ _; refine Rch.blk' (Rn_mono mt _) bl_X4_share_16 (i_aload_n rfl (i_gfs rfl (i_aload_n rfl (i_gfs rfl (i_iload_n rfl (t_cs2 (Rn_mono mt _) 28 rfl (Nat.le_of_ble_eq_true rfl) ?_)))))))
    | (show Rch _ _ _ _ _ 28 _ _ _; refine Rch.blk' (Rn_mono mt _) bl_X4_share_28 (t_cs2 (Rn_mono mt _) 31 rfl (Nat.le_of_ble_eq_true rfl) ?_))
    | (show Rch _ _ _ _ _ 31 _ _ _; refine Rch.blk' (Rn_mono mt _) bl_X4_share_31 (i_i2l (i_aload_n rfl (i_gfs rfl (i_aload_n rfl (i_gfs rfl (t_cs1 (Rn_mono mt _) 43 rfl (Nat.le_of_ble_eq_true rfl) ?_)))))))
    | (show Rch _ _ _ _ _ 43 _ _ _; refine Rch.blk' (Rn_mono mt _) bl_X4_share_43 (t_cs2 (Rn_mono mt _) 46 rfl (Nat.le_of_ble_eq_true rfl) ?_))
    | (show Rch _ _ _ _ _ 46 _ _ _; refine Rch.blk' (Rn_mono mt _) bl_X4_share_46 (i_i2l (i_iload_n rfl (t_cs3 (Rn_mono mt _) 51 rfl (Nat.le_of_ble_eq_true rfl) ?_))))
    | (show Rch _ _ _ _ _ 51 _ _ _; refine Rch.blk' (Rn_mono mt _) bl_X4_share_51 (t_goto 57 rfl ?_))
    | (show Rch _ _ _ _ _ 54 _ _ _; refine Rch.blk' (Rn_mono mt _) bl_X4_share_54 (i_ldc2 (t_none ?_)))
    | (show Rch _ _ _ _ _ 57 _ _ _; refine Rch.blk' (Rn_mono mt _) bl_X4_share_57 (t_lret ?_)))
end C34

