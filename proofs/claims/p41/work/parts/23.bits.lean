/-! SETS AS BITS, SUMS, COUNTS -/
noncomputable def btn (P : Int → Prop) : Nat → Nat
  | 0 => 0
  | n + 1 => btn P n ||| ifp (P (n : Int)) (2 ^ n) 0
theorem btn_tb (P : Int → Prop) : ∀ (n i : Nat), (btn P n).testBit i = true ↔ i < n ∧ P (i : Int)
  | 0, i => by simp [btn]
  | n + 1, i => by
    have ih := btn_tb P n i
    rw [btn, Nat.testBit_or, Bool.or_eq_true, ih]
    by_cases hP : P (n : Int)
    · rw [ifp_p hP, Nat.testBit_two_pow, decide_eq_true_eq]
      constructor
      · rintro (⟨h1, h2⟩ | h1)
        · exact ⟨by omega, h2⟩
        · subst h1; exact ⟨by omega, hP⟩
      · rintro ⟨h1, h2⟩
        by_cases h3 : n = i
        · exact Or.inr h3
        · exact Or.inl ⟨by omega, h2⟩
    · rw [ifp_n hP, Nat.zero_testBit]
      constructor
      · rintro (⟨h1, h2⟩ | h1)
        · exact ⟨by omega, h2⟩
        · cases h1
      · rintro ⟨h1, h2⟩
        by_cases h3 : n = i
        · subst h3; exact absurd h2 hP
        · exact Or.inl ⟨by omega, h2⟩
theorem btn_lt (P : Int → Prop) : ∀ n : Nat, btn P n < 2 ^ n
  | 0 => by simp [btn]
  | n + 1 => by
    have ih := btn_lt P n
    rw [btn]
    refine Nat.or_lt_two_pow (by rw [Nat.pow_succ]; omega) ?_
    by_cases hP : P (n : Int)
    · rw [ifp_p hP, Nat.pow_succ]; have := Nat.two_pow_pos n; omega
    · rw [ifp_n hP]; exact Nat.two_pow_pos _
noncomputable def BT (P : Int → Prop) : Int := (btn P 10 : Int)
theorem btn_1024 (P : Int → Prop) : btn P 10 < 1024 := btn_lt P 10
theorem BT_R {P : Int → Prop} : 0 ≤ BT P ∧ BT P < 1024 := by
  have := btn_1024 P
  unfold BT
  omega
theorem btn_ext {P Q : Int → Prop} (h : ∀ i : Int, 0 ≤ i → i < 10 → (P i ↔ Q i)) : btn P 10 = btn Q 10 := by
  apply Nat.eq_of_testBit_eq
  intro i
  have h1 := btn_tb P 10 i
  have h2 := btn_tb Q 10 i
  have h3 : (btn P 10).testBit i = true ↔ (btn Q 10).testBit i = true := by
    rw [h1, h2]
    constructor
    · rintro ⟨a, b⟩; exact ⟨a, (h i (by omega) (by omega)).mp b⟩
    · rintro ⟨a, b⟩; exact ⟨a, (h i (by omega) (by omega)).mpr b⟩
  exact Bool.eq_iff_iff.mpr h3
theorem BT_ext {P Q : Int → Prop} (h : ∀ i : Int, 0 ≤ i → i < 10 → (P i ↔ Q i)) : BT P = BT Q := by
  unfold BT; rw [btn_ext h]
theorem nat_10 {k : Int} (h0 : 0 ≤ k) (h1 : k < 10) : ∃ n : Nat, n < 10 ∧ k = (n : Int) := ⟨k.toNat, by omega, by omega⟩
set_option maxRecDepth 100000 in
theorem has_dec : ∀ a, a < 1024 → ∀ k, k < 10 → band (bshr ((a : Nat) : Int) ((k : Nat) : Int)) 1 = if a.testBit k = true then 1 else 0 := by decide +kernel
set_option maxRecDepth 100000 in
theorem shl_dec : ∀ k, k < 10 → bshl 1 ((k : Nat) : Int) = ((2 ^ k : Nat) : Int) := by decide +kernel
theorem I_ofNat (n : Nat) : I (n : Int) = Int32.ofNat n := Int32.ofInt_eq_ofNat
theorem toInt_nat {n : Nat} (h : n < 2147483648) : (Int32.ofNat n).toInt = (n : Int) := Int32.toInt_ofNat_of_lt (by omega)
theorem bor_n {a b : Nat} (ha : a < 1024) (hb : b < 1024) : bor (a : Int) (b : Int) = ((a ||| b : Nat) : Int) := by
  have e : Int32.ofNat a ||| Int32.ofNat b = Int32.ofNat (a ||| b) := Int32.toBitVec_inj.1 (by simp [BitVec.ofNat_or])
  have := Nat.or_lt_two_pow (n := 10) ha hb
  unfold bor
  rw [I_ofNat, I_ofNat, e, toInt_nat (by omega)]
theorem band_n {a b : Nat} (ha : a < 1024) (hb : b < 1024) : band (a : Int) (b : Int) = ((a &&& b : Nat) : Int) := by
  have e : Int32.ofNat a &&& Int32.ofNat b = Int32.ofNat (a &&& b) := Int32.toBitVec_inj.1 (by simp [BitVec.ofNat_and])
  have := Nat.and_lt_two_pow (n := 10) a hb
  unfold band
  rw [I_ofNat, I_ofNat, e, toInt_nat (by omega)]
theorem b_has {P : Int → Prop} {k : Int} (h0 : 0 ≤ k) (h1 : k < 10) : band (bshr (BT P) k) 1 = ifp (P k) 1 0 := by
  obtain ⟨n, hn, rfl⟩ := nat_10 h0 h1
  have h2 := has_dec (btn P 10) (btn_1024 P) n hn
  have h3 := btn_tb P 10 n
  unfold BT
  rw [h2]
  by_cases hP : P (n : Int)
  · rw [ifp_p hP, if_pos (h3.mpr ⟨hn, hP⟩)]
  · rw [ifp_n hP, if_neg (fun z => hP (h3.mp z).2)]
theorem btn_sing {k : Nat} (hk : k < 10) : btn (fun i => i = (k : Int)) 10 = 2 ^ k := by
  apply Nat.eq_of_testBit_eq
  intro i
  have h1 := btn_tb (fun i => i = (k : Int)) 10 i
  rw [Nat.testBit_two_pow]
  apply Bool.eq_iff_iff.mpr
  rw [h1, decide_eq_true_eq]
  omega
theorem b_one {k : Int} (h0 : 0 ≤ k) (h1 : k < 10) : bshl 1 k = BT (fun i => i = k) := by
  obtain ⟨n, hn, rfl⟩ := nat_10 h0 h1
  unfold BT
  rw [shl_dec n hn, btn_sing hn]
theorem b_or {P Q : Int → Prop} : bor (BT P) (BT Q) = BT (fun i => P i ∨ Q i) := by
  unfold BT
  rw [bor_n (btn_1024 P) (btn_1024 Q)]
  congr 1
  apply Nat.eq_of_testBit_eq
  intro i
  apply Bool.eq_iff_iff.mpr
  rw [Nat.testBit_or, Bool.or_eq_true, btn_tb, btn_tb, btn_tb]
  constructor
  · rintro (⟨a, b⟩ | ⟨a, b⟩)
    · exact ⟨a, Or.inl b⟩
    · exact ⟨a, Or.inr b⟩
  · rintro ⟨a, b | b⟩
    · exact Or.inl ⟨a, b⟩
    · exact Or.inr ⟨a, b⟩
theorem b_and {P Q : Int → Prop} : band (BT P) (BT Q) = BT (fun i => P i ∧ Q i) := by
  unfold BT
  rw [band_n (btn_1024 P) (btn_1024 Q)]
  congr 1
  apply Nat.eq_of_testBit_eq
  intro i
  apply Bool.eq_iff_iff.mpr
  rw [Nat.testBit_and, Bool.and_eq_true, btn_tb, btn_tb, btn_tb]
  constructor
  · rintro ⟨⟨a, b⟩, ⟨_, c⟩⟩; exact ⟨a, b, c⟩
  · rintro ⟨a, b, c⟩; exact ⟨⟨a, b⟩, ⟨a, c⟩⟩
theorem b_or1 {P : Int → Prop} {k : Int} (h0 : 0 ≤ k) (h1 : k < 10) : bor (BT P) (bshl 1 k) = BT (fun i => P i ∨ i = k) := by
  rw [b_one h0 h1, b_or]
theorem BT_emp : BT (fun _ => False) = 0 := by
  have : btn (fun _ => False) 10 = 0 := by
    apply Nat.eq_of_testBit_eq
    intro i
    apply Bool.eq_iff_iff.mpr
    rw [btn_tb]
    simp
  unfold BT; rw [this]; rfl
theorem b_or0 {P : Int → Prop} : bor (BT P) 0 = BT P := by
  rw [← BT_emp, b_or]
  exact BT_ext (fun i _ _ => ⟨fun h => h.elim id False.elim, Or.inl⟩)
theorem b_0or {P : Int → Prop} : bor 0 (BT P) = BT P := by
  rw [← BT_emp, b_or]
  exact BT_ext (fun i _ _ => ⟨fun h => h.elim False.elim id, Or.inr⟩)
theorem BT_z {P : Int → Prop} : BT P = 0 ↔ ∀ i : Int, 0 ≤ i → i < 10 → ¬ P i := by
  constructor
  · intro h i h0 h1 hP
    have h2 := b_has (P := P) h0 h1
    rw [h, ifp_p hP] at h2
    obtain ⟨n, hn, rfl⟩ := nat_10 h0 h1
    have h3 := has_dec 0 (by omega) n hn
    rw [Nat.zero_testBit] at h3
    rw [show ((0 : Nat) : Int) = 0 from rfl] at h3
    rw [h2] at h3
    simp at h3
  · intro h
    rw [← BT_emp]
    exact BT_ext (fun i h0 h1 => ⟨fun z => h i h0 h1 z, False.elim⟩)
theorem BT_0 {C : Int → Prop} : BT (fun i => i < 0 ∧ C i) = 0 := BT_z.mpr (fun i h0 _ h => by omega)
theorem BT_up1 {C : Int → Prop} {k : Int} (h0 : 0 ≤ k) (h1 : k < 10) (hC : C k) : bor (BT (fun i => i < k ∧ C i)) (bshl 1 k) = BT (fun i => i < k + 1 ∧ C i) := by
  rw [b_or1 h0 h1]
  refine BT_ext (fun i _ _ => ⟨?_, ?_⟩)
  · rintro (⟨a, b⟩ | a)
    · exact ⟨by omega, b⟩
    · subst a; exact ⟨by omega, hC⟩
  · rintro ⟨a, b⟩
    by_cases hi : i = k
    · exact Or.inr hi
    · exact Or.inl ⟨by omega, b⟩
theorem BT_up0 {C : Int → Prop} {k : Int} (hC : ¬ C k) : BT (fun i => i < k ∧ C i) = BT (fun i => i < k + 1 ∧ C i) := by
  refine BT_ext (fun i _ _ => ⟨?_, ?_⟩)
  · rintro ⟨a, b⟩; exact ⟨by omega, b⟩
  · rintro ⟨a, b⟩
    by_cases hi : i = k
    · subst hi; exact absurd b hC
    · exact ⟨by omega, b⟩
theorem BT_up2 {C : Int → Prop} {k : Int} (hC : ¬ C k) : bor (BT (fun i => i < k ∧ C i)) 0 = BT (fun i => i < k + 1 ∧ C i) := by rw [b_or0, BT_up0 hC]
theorem BT_upA {A C : Int → Prop} {k : Int} (h0 : 0 ≤ k) (h1 : k < 10) (hC : C k) : bor (BT (fun i => A i ∨ (i < k ∧ C i))) (bshl 1 k) = BT (fun i => A i ∨ (i < k + 1 ∧ C i)) := by
  rw [b_or1 h0 h1]
  refine BT_ext (fun i _ _ => ⟨?_, ?_⟩)
  · rintro ((a | ⟨a, b⟩) | a)
    · exact Or.inl a
    · exact Or.inr ⟨by omega, b⟩
    · subst a; exact Or.inr ⟨by omega, hC⟩
  · rintro (a | ⟨a, b⟩)
    · exact Or.inl (Or.inl a)
    · by_cases hi : i = k
      · exact Or.inr hi
      · exact Or.inl (Or.inr ⟨by omega, b⟩)
theorem BT_upB {A C : Int → Prop} {k : Int} (hC : ¬ C k) : BT (fun i => A i ∨ (i < k ∧ C i)) = BT (fun i => A i ∨ (i < k + 1 ∧ C i)) := by
  refine BT_ext (fun i _ _ => ⟨?_, ?_⟩)
  · rintro (a | ⟨a, b⟩)
    · exact Or.inl a
    · exact Or.inr ⟨by omega, b⟩
  · rintro (a | ⟨a, b⟩)
    · exact Or.inl a
    · by_cases hi : i = k
      · subst hi; exact absurd b hC
      · exact Or.inr ⟨by omega, b⟩
/-! sums over 0 .. k - 1 -/
def sm (f : Int → Int) : Nat → Int
  | 0 => 0
  | n + 1 => sm f n + f (n : Int)
def SM (f : Int → Int) (k : Int) : Int := sm f k.toNat
theorem SM_0 (f : Int → Int) : SM f 0 = 0 := rfl
theorem SM_up {f : Int → Int} {k : Int} (h0 : 0 ≤ k) : SM f (k + 1) = SM f k + f k := by
  obtain ⟨n, rfl⟩ := Int.eq_ofNat_of_zero_le h0
  unfold SM
  rw [show ((n : Int) + 1).toNat = n + 1 by omega, show ((n : Int)).toNat = n by omega]
  rfl
theorem up_ind {n : Int} {P : Int → Prop} (step : ∀ k : Int, k ≤ n → (k < n → P (k + 1)) → P k) : ∀ k : Int, k ≤ n → P k := by
  have key : ∀ (m : Nat) (k : Int), k ≤ n → (n - k).toNat = m → P k := by
    intro m
    induction m with
    | zero => intro k hk hm; exact step k hk (fun h => by omega)
    | succ m ih => intro k hk hm; exact step k hk (fun h => ih (k + 1) (by omega) (by omega))
  exact fun k hk => key _ k hk rfl
theorem ind0 {P : Int → Prop} (h0 : P 0) (hs : ∀ k : Int, 0 ≤ k → P k → P (k + 1)) : ∀ k : Int, 0 ≤ k → P k := by
  intro k hk
  obtain ⟨n, rfl⟩ := Int.eq_ofNat_of_zero_le hk
  induction n with
  | zero => exact h0
  | succ n ih =>
    have := hs (n : Int) (by omega) (ih (by omega))
    rw [show ((n + 1 : Nat) : Int) = (n : Int) + 1 by omega]
    exact this
theorem SM_R {f : Int → Int} {m c : Int} (hm : 0 ≤ m) (hf : ∀ i : Int, 0 ≤ i → i < c → 0 ≤ f i ∧ f i ≤ m) : ∀ k : Int, 0 ≤ k → k ≤ c → 0 ≤ SM f k ∧ SM f k ≤ m * k := by
  refine ind0 (fun _ => by rw [SM_0]; omega) (fun k h0 ih hc => ?_)
  have h1 := ih (by omega)
  have h2 := hf k h0 (by omega)
  rw [SM_up h0, Int.mul_add]
  omega
theorem SM_ext {f g : Int → Int} {c : Int} (hf : ∀ i : Int, 0 ≤ i → i < c → f i = g i) : ∀ k : Int, 0 ≤ k → k ≤ c → SM f k = SM g k := by
  refine ind0 (fun _ => rfl) (fun k h0 ih hc => ?_)
  rw [SM_up h0, SM_up h0, ih (by omega), hf k h0 (by omega)]
/-- how many of the first k -/
noncomputable def cnt (C : Int → Prop) (k : Int) : Int := SM (fun i => ifp (C i) 1 0) k
theorem cnt_0 {C : Int → Prop} : cnt C 0 = 0 := rfl
theorem cnt_u1 {C : Int → Prop} {k : Int} (h0 : 0 ≤ k) (hC : C k) : cnt C (k + 1) = cnt C k + 1 := by
  unfold cnt; rw [SM_up h0, ifp_p hC]
theorem cnt_u0 {C : Int → Prop} {k : Int} (h0 : 0 ≤ k) (hC : ¬ C k) : cnt C (k + 1) = cnt C k := by
  unfold cnt; rw [SM_up h0, ifp_n hC]; omega
theorem ifp_01 {P : Prop} : (0 : Int) ≤ ifp P 1 0 ∧ ifp P (1 : Int) 0 ≤ 1 := by
  by_cases h : P
  · rw [ifp_p h]; omega
  · rw [ifp_n h]; omega
theorem cnt_R {C : Int → Prop} {k : Int} (h0 : 0 ≤ k) : 0 ≤ cnt C k ∧ cnt C k ≤ k := by
  have := SM_R (f := fun i => ifp (C i) 1 0) (m := 1) (c := k) (by omega) (fun i _ _ => ifp_01) k h0 (by omega)
  unfold cnt
  omega
theorem cnt_ext {C C' : Int → Prop} {k : Int} (h0 : 0 ≤ k) (h : ∀ i : Int, 0 ≤ i → i < k → (C i ↔ C' i)) : cnt C k = cnt C' k := by
  unfold cnt
  refine SM_ext (c := k) (fun i a b => ?_) k h0 (by omega)
  by_cases hc : C i
  · rw [ifp_p hc, ifp_p ((h i a b).mp hc)]
  · rw [ifp_n hc, ifp_n (fun z => hc ((h i a b).mpr z))]
/-- those of the first n alone -/
theorem cnt_cut {C : Int → Prop} {n : Int} (hn : 0 ≤ n) : ∀ k : Int, 0 ≤ k → cnt (fun i => i < n ∧ C i) (n + k) = cnt C n := by
  refine ind0 ?_ (fun k h0 ih => ?_)
  · rw [show n + 0 = n by omega]
    exact cnt_ext hn (fun i a b => ⟨fun z => z.2, fun z => ⟨b, z⟩⟩)
  · rw [show n + (k + 1) = (n + k) + 1 by omega, cnt_u0 (by omega) (fun z => by omega), ih]
/-- a set's size, by its bits -/
theorem btn_cnt (P : Int → Prop) : ∀ n : Nat, n ≤ 10 → ((List.range n).map fun i => if (btn P 10).testBit i = true then (1 : Int) else 0).sum = cnt P (n : Int)
  | 0, _ => rfl
  | n + 1, h => by
    have ih := btn_cnt P n (by omega)
    rw [List.range_succ, List.map_append, List.sum_append, ih]
    have h3 := btn_tb P 10 n
    rw [show ((n + 1 : Nat) : Int) = (n : Int) + 1 by omega]
    by_cases hP : P (n : Int)
    · rw [cnt_u1 (by omega) hP]
      simp only [List.map_cons, List.map_nil, List.sum_cons, List.sum_nil]
      rw [if_pos (h3.mpr ⟨by omega, hP⟩)]
      omega
    · rw [cnt_u0 (by omega) hP]
      simp only [List.map_cons, List.map_nil, List.sum_cons, List.sum_nil]
      rw [if_neg (fun z => hP (h3.mp z).2)]
      omega
/-! Integer.bitCount of what is below 1024 -/
def bcnt (x : Int) : Int :=
  let a := x - band (bushr x 1) 1431655765
  let b := band a 858993459 + band (bushr a 2) 858993459
  let c := band (b + bushr b 4) 252645135
  let e := c + bushr c 8
  let f := e + bushr e 16
  band f 63
set_option maxRecDepth 100000 in
theorem bcnt_dec : ∀ a, a < 1024 → bcnt ((a : Nat) : Int) = ((List.range 10).map fun i => if a.testBit i = true then (1 : Int) else 0).sum := by decide +kernel
theorem bcnt_BT {P : Int → Prop} : bcnt (BT P) = cnt P 10 := by
  have := bcnt_dec (btn P 10) (btn_1024 P)
  unfold BT
  rw [this, btn_cnt P 10 (by omega)]
  rfl
theorem c_J6_bitCount_0f7a4 {d L : Nat} {h : Mem} {Q : Option AV → Mem → Prop} {P : Int → Prop} (hq : 0 ≤ cnt P 10 → cnt P 10 ≤ 10 → Q (some (ai (I (cnt P 10)))) h) : Rn mt L (d + 1) 26 [ai (I (BT P))] h Q := by
  refine Rn.intro iJ6_bitCount_0f7a4 rfl rfl ?_
  show Rch bJ6_bitCount_0f7a4 _ _ _ _ 0 [some (ai (I (BT P)))] [] _
  have g := cnt_R (C := P) (k := 10) (by omega)
  have hq := hq g.1 g.2
  rw [← bcnt_BT] at hq
  repeat' (first
    | exact hq
    | (show Rch _ _ _ _ _ 0 _ _ _; refine Rch.blk' (Rn_mono mt _ _) bl_J6_bitCount_0f7a4_0 (i_iload_n rfl (i_iload_n rfl (i_iconst k_1 (i_iushr (i_ldc_w k_1431655765 (i_iand (i_isub (i_istore0 (i_iload_n rfl (i_ldc_w k_858993459 (i_iand (i_iload_n rfl (i_iconst k_2 (i_iushr (i_ldc_w k_858993459 (i_iand (i_iadd (i_istore0 (i_iload_n rfl (i_iload_n rfl (i_iconst k_4 (i_iushr (i_iadd (i_ldc_w k_252645135 (i_iand (i_istore0 (i_iload_n rfl (i_iload_n rfl (i_bipush k_8 (i_iushr (i_iadd (i_istore0 (i_iload_n rfl (i_iload_n rfl (i_bipush k_16 (i_iushr (i_iadd (i_istore0 (i_iload_n rfl (i_bipush k_63 (i_iand (t_iret ?_))))))))))))))))))))))))))))))))))))))))))))
set_option maxRecDepth 100000 in
theorem not_dec : ∀ a, a < 1024 → ∀ k, k < 10 → band ((a : Nat) : Int) (bxor (bshl 1 ((k : Nat) : Int)) (-1)) = (((a &&& (1023 ^^^ 2 ^ k) : Nat)) : Int) := by decide +kernel
theorem b_not {P : Int → Prop} {k : Int} (h0 : 0 ≤ k) (h1 : k < 10) : band (BT P) (bxor (bshl 1 k) (-1)) = BT (fun i => P i ∧ ¬ i = k) := by
  obtain ⟨n, hn, rfl⟩ := nat_10 h0 h1
  unfold BT
  rw [not_dec _ (btn_1024 P) n hn]
  congr 1
  apply Nat.eq_of_testBit_eq
  intro i
  apply Bool.eq_iff_iff.mpr
  rw [Nat.testBit_and, Bool.and_eq_true, btn_tb, btn_tb, Nat.testBit_xor, Nat.testBit_two_pow]
  have h1023 : ∀ i, i < 10 → (1023 : Nat).testBit i = true := by decide
  constructor
  · rintro ⟨⟨a, b⟩, c⟩
    rw [h1023 i a] at c
    refine ⟨a, b, fun z => ?_⟩
    have : n = i := by omega
    subst this
    simp at c
  · rintro ⟨a, b, c⟩
    refine ⟨⟨a, b⟩, ?_⟩
    rw [h1023 i a]
    have : ¬ n = i := by omega
    simp [this]


