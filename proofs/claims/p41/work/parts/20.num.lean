/-! NUMBERS: ints of the machine as integers; what an instruction does to them, an implication each -/
def I (z : Int) : Int32 := Int32.ofInt z
abbrev inR (z : Int) : Prop := -2147483648 ≤ z ∧ z < 2147483648
theorem I_toInt {z : Int} (h : inR z) : (I z).toInt = z := Int32.toInt_ofInt_of_le (by omega) (by omega)
theorem I_of (x : Int32) : I x.toInt = x := Int32.ofInt_toInt x
theorem R_of (x : Int32) : inR x.toInt := ⟨by have := Int32.le_toInt x; omega, by have := Int32.toInt_lt x; omega⟩
theorem I_surj (x : Int32) : ∃ z, inR z ∧ x = I z := ⟨x.toInt, R_of x, (I_of x).symm⟩
theorem I_add (a b : Int) : I a + I b = I (a + b) := (Int32.ofInt_add a b).symm
theorem I_sub (a b : Int) : I a - I b = I (a - b) := (Int32.ofInt_sub a b).symm
theorem I_mul (a b : Int) : I a * I b = I (a * b) := (Int32.ofInt_mul a b).symm
theorem I_neg (a : Int) : - I a = I (-a) := (Int32.ofInt_neg a).symm
theorem I_inj {a b : Int} (ha : inR a) (hb : inR b) : I a = I b ↔ a = b := ⟨fun h => by rw [← I_toInt ha, ← I_toInt hb, h], fun h => by rw [h]⟩
theorem I_lt {a b : Int} (ha : inR a) (hb : inR b) : I a < I b ↔ a < b := by rw [Int32.lt_iff_toInt_lt, I_toInt ha, I_toInt hb]
theorem I_le {a b : Int} (ha : inR a) (hb : inR b) : I a ≤ I b ↔ a ≤ b := by rw [Int32.le_iff_toInt_le, I_toInt ha, I_toInt hb]
theorem I_nat {a : Int} (h0 : 0 ≤ a) (h1 : a < 2147483648) : (I a).toNatClampNeg = a.toNat := Int32.toNatClampNeg_ofInt_of_le (by omega) (by omega)
theorem I_zero : (0 : Int32) = I 0 := rfl
theorem I_div {a b : Int} (h0 : 0 ≤ a) (h1 : a < 2147483648) (h2 : 0 < b) (h3 : b < 2147483648) : I a / I b = I (a / b) := by
  have h4 : a / b ≤ a := Int.ediv_le_self _ h0
  have h5 : 0 ≤ a / b := Int.ediv_nonneg h0 (by omega)
  apply Int32.toInt_inj.mp
  rw [Int32.toInt_div_of_ne_right _ _ (fun e => by
    have := congrArg Int32.toInt e
    rw [I_toInt ⟨by omega, h3⟩] at this
    have e2 : (-1 : Int32).toInt = -1 := rfl
    omega), I_toInt ⟨by omega, h1⟩, I_toInt ⟨by omega, h3⟩, I_toInt ⟨by omega, by omega⟩, Int.tdiv_eq_ediv_of_nonneg h0]
theorem I_mod {a b : Int} (h0 : 0 ≤ a) (h1 : a < 2147483648) (h2 : 0 < b) (h3 : b < 2147483648) : I a % I b = I (a % b) := by
  have h4 : a % b < b := Int.emod_lt_of_pos _ h2
  have h5 : 0 ≤ a % b := Int.emod_nonneg _ (by omega)
  apply Int32.toInt_inj.mp
  rw [Int32.toInt_mod, I_toInt ⟨by omega, h1⟩, I_toInt ⟨by omega, h3⟩, I_toInt ⟨by omega, by omega⟩, Int.tmod_eq_emod_of_nonneg h0]
theorem I_vp {z : Int} {n : Nat} (h0 : 0 ≤ z) (h1 : z < (n : Int)) (hn : n ≤ 100000) : vp_in (I z) n := by
  rintro (h | h)
  · rw [I_zero, I_lt ⟨by omega, by omega⟩ ⟨by omega, by omega⟩] at h; omega
  · rw [I_nat h0 (by omega)] at h; omega
def hI (h : Mem) (t b k : Nat) : Int := (h t b k).toInt
theorem hI_R {h : Mem} {t b k : Nat} : inR (hI h t b k) := R_of _
theorem hI_I (h : Mem) (t b k : Nat) : I (hI h t b k) = h t b k := I_of _
theorem hI_set {h : Mem} {t b k : Nat} {z : Int} (hz : inR z) (t' b' k' : Nat) : hI (mset h t b k (I z)) t' b' k' = if t' = t ∧ b' = b ∧ k' = k then z else hI h t' b' k' := by
  unfold hI mset
  split
  · exact I_toInt hz
  · rfl
def band (a b : Int) : Int := (I a &&& I b).toInt
def bor (a b : Int) : Int := (I a ||| I b).toInt
def bxor (a b : Int) : Int := (I a ^^^ I b).toInt
def bshl (a b : Int) : Int := (I a <<< (I b &&& 31)).toInt
def bshr (a b : Int) : Int := (I a >>> (I b &&& 31)).toInt
def bushr (a b : Int) : Int := ((((I a).toUInt32 >>> ((I b).toUInt32 &&& Int32.toUInt32 31)).toInt32)).toInt
theorem band_R {a b : Int} : inR (band a b) := R_of _
theorem bor_R {a b : Int} : inR (bor a b) := R_of _
theorem bxor_R {a b : Int} : inR (bxor a b) := R_of _
theorem bshl_R {a b : Int} : inR (bshl a b) := R_of _
theorem bshr_R {a b : Int} : inR (bshr a b) := R_of _
/-- a call's answer on the stack -/
def kc (K : List AV → Mem → Prop) (r : List AV) : Option AV → Mem → Prop
  | some x, h => K (x :: r) h
  | none, h => K r h
theorem kc_ok {K : List AV → Mem → Prop} {r : List AV} : ∀ v h, kc K r v h → K (v.toList ++ r) h
  | some _, _, q => q
  | none, _, q => q
def notL : Option AV → Prop
  | some (.inr (.inl _)) => False
  | _ => True
theorem clr_notL {ls : Lc} {m : Nat} (h : notL (lat ls m)) : clr ls (m + 1) = ls := by
  have e : clr ls (m + 1) = (match lat ls m with
    | some (.inr (.inl _)) => lset ls m none
    | _ => ls) := rfl
  rw [e]
  split
  · rename_i x hx; rw [hx] at h; exact h.elim
  · rfl
section IN
variable {CL : Nat → List AV → Mem → (Option AV → Mem → Prop) → Prop} {L : Nat} {K : Nat → Lc → List AV → Mem → Prop} {Rt : Option AV → Mem → Prop} {t : Option AI} {r : List AI} {pc l a b c : Nat} {ls : Lc} {st : List AV} {h : Mem} {x y z : Int} {t1 b1 t2 b2 : Nat}
theorem i_iconst {v : Int} (hz : cst a b = I z) (k : wB CL L K Rt t r (pc + l) ls (ai (I z) :: st) h) : wB CL L K Rt t ((.iconst v, l, a, b, c) :: r) pc ls st h := by
  show wB CL L K Rt t r (pc + l) ls (ai (cst a b) :: st) h
  rw [hz]; exact k
theorem i_bipush {v : Int} (hz : cst a b = I z) (k : wB CL L K Rt t r (pc + l) ls (ai (I z) :: st) h) : wB CL L K Rt t ((.bipush v, l, a, b, c) :: r) pc ls st h := by
  show wB CL L K Rt t r (pc + l) ls (ai (cst a b) :: st) h
  rw [hz]; exact k
theorem i_sipush {v : Int} (hz : cst a b = I z) (k : wB CL L K Rt t r (pc + l) ls (ai (I z) :: st) h) : wB CL L K Rt t ((.sipush v, l, a, b, c) :: r) pc ls st h := by
  show wB CL L K Rt t r (pc + l) ls (ai (cst a b) :: st) h
  rw [hz]; exact k
theorem i_ldc {v : Nat} (hz : cst a b = I z) (k : wB CL L K Rt t r (pc + l) ls (ai (I z) :: st) h) : wB CL L K Rt t ((.ldc v, l, a, b, c) :: r) pc ls st h := by
  show wB CL L K Rt t r (pc + l) ls (ai (cst a b) :: st) h
  rw [hz]; exact k
theorem i_ldc_w {v : Nat} (hz : cst a b = I z) (k : wB CL L K Rt t r (pc + l) ls (ai (I z) :: st) h) : wB CL L K Rt t ((.ldc_w v, l, a, b, c) :: r) pc ls st h := by
  show wB CL L K Rt t r (pc + l) ls (ai (cst a b) :: st) h
  rw [hz]; exact k
theorem i_lconst {v : Fin 2} (k : wB CL L K Rt t r (pc + l) ls (al (lcst a) :: st) h) : wB CL L K Rt t ((.lconst v, l, a, b, c) :: r) pc ls st h := k
theorem i_ldc2 {v : Nat} (k : wB CL L K Rt t r (pc + l) ls (al (lcst a) :: st) h) : wB CL L K Rt t ((.ldc2_w v, l, a, b, c) :: r) pc ls st h := k
theorem i_null (k : wB CL L K Rt t r (pc + l) ls (an :: st) h) : wB CL L K Rt t ((.aconst_null, l, a, b, c) :: r) pc ls st h := k
theorem i_iload {n : Nat} {v : Int32} (hl : lat ls n = some (ai v)) (k : wB CL L K Rt t r (pc + l) ls (ai v :: st) h) : wB CL L K Rt t ((.iload n, l, a, b, c) :: r) pc ls st h := by
  show gI ls n _
  unfold gI; rw [hl]; exact k
theorem i_iload_n {n : Fin 4} {v : Int32} (hl : lat ls n.val = some (ai v)) (k : wB CL L K Rt t r (pc + l) ls (ai v :: st) h) : wB CL L K Rt t ((.iload_n n, l, a, b, c) :: r) pc ls st h := by
  show gI ls n.val _
  unfold gI; rw [hl]; exact k
theorem i_lload {n : Nat} {v : Int64} (hl : lat ls n = some (al v)) (k : wB CL L K Rt t r (pc + l) ls (al v :: st) h) : wB CL L K Rt t ((.lload n, l, a, b, c) :: r) pc ls st h := by
  show gL ls n _
  unfold gL; rw [hl]; exact k
theorem i_lload_n {n : Fin 4} {v : Int64} (hl : lat ls n.val = some (al v)) (k : wB CL L K Rt t r (pc + l) ls (al v :: st) h) : wB CL L K Rt t ((.lload_n n, l, a, b, c) :: r) pc ls st h := by
  show gL ls n.val _
  unfold gL; rw [hl]; exact k
theorem i_aload {n : Nat} {v : Option (Nat × Nat)} (hl : lat ls n = some (.inr (.inr v))) (k : wB CL L K Rt t r (pc + l) ls (.inr (.inr v) :: st) h) : wB CL L K Rt t ((.aload n, l, a, b, c) :: r) pc ls st h := by
  show gR ls n _
  unfold gR; rw [hl]; exact k
theorem i_aload_n {n : Fin 4} {v : Option (Nat × Nat)} (hl : lat ls n.val = some (.inr (.inr v))) (k : wB CL L K Rt t r (pc + l) ls (.inr (.inr v) :: st) h) : wB CL L K Rt t ((.aload_n n, l, a, b, c) :: r) pc ls st h := by
  show gR ls n.val _
  unfold gR; rw [hl]; exact k
theorem i_iadd (k : wB CL L K Rt t r (pc + l) ls (ai (I (x + y)) :: st) h) : wB CL L K Rt t ((.iadd, l, a, b, c) :: r) pc ls (ai (I y) :: ai (I x) :: st) h := by rw [← I_add] at k; exact k
theorem i_isub (k : wB CL L K Rt t r (pc + l) ls (ai (I (x - y)) :: st) h) : wB CL L K Rt t ((.isub, l, a, b, c) :: r) pc ls (ai (I y) :: ai (I x) :: st) h := by rw [← I_sub] at k; exact k
theorem i_imul (k : wB CL L K Rt t r (pc + l) ls (ai (I (x * y)) :: st) h) : wB CL L K Rt t ((.imul, l, a, b, c) :: r) pc ls (ai (I y) :: ai (I x) :: st) h := by rw [← I_mul] at k; exact k
theorem i_ineg (k : wB CL L K Rt t r (pc + l) ls (ai (I (-x)) :: st) h) : wB CL L K Rt t ((.ineg, l, a, b, c) :: r) pc ls (ai (I x) :: st) h := by rw [← I_neg] at k; exact k
theorem i_iand (k : wB CL L K Rt t r (pc + l) ls (ai (I (band x y)) :: st) h) : wB CL L K Rt t ((.iand, l, a, b, c) :: r) pc ls (ai (I y) :: ai (I x) :: st) h := by rw [band, I_of] at k; exact k
theorem i_ior (k : wB CL L K Rt t r (pc + l) ls (ai (I (bor x y)) :: st) h) : wB CL L K Rt t ((.ior, l, a, b, c) :: r) pc ls (ai (I y) :: ai (I x) :: st) h := by rw [bor, I_of] at k; exact k
theorem i_ixor (k : wB CL L K Rt t r (pc + l) ls (ai (I (bxor x y)) :: st) h) : wB CL L K Rt t ((.ixor, l, a, b, c) :: r) pc ls (ai (I y) :: ai (I x) :: st) h := by rw [bxor, I_of] at k; exact k
theorem i_ishl (k : wB CL L K Rt t r (pc + l) ls (ai (I (bshl x y)) :: st) h) : wB CL L K Rt t ((.ishl, l, a, b, c) :: r) pc ls (ai (I y) :: ai (I x) :: st) h := by rw [bshl, I_of] at k; exact k
theorem i_ishr (k : wB CL L K Rt t r (pc + l) ls (ai (I (bshr x y)) :: st) h) : wB CL L K Rt t ((.ishr, l, a, b, c) :: r) pc ls (ai (I y) :: ai (I x) :: st) h := by rw [bshr, I_of] at k; exact k
theorem i_iushr (k : wB CL L K Rt t r (pc + l) ls (ai (I (bushr x y)) :: st) h) : wB CL L K Rt t ((.iushr, l, a, b, c) :: r) pc ls (ai (I y) :: ai (I x) :: st) h := by rw [bushr, I_of] at k; exact k
theorem i_idiv (h0 : 0 ≤ x) (h1 : x < 2147483648) (h2 : 0 < y) (h3 : y < 2147483648) (k : wB CL L K Rt t r (pc + l) ls (ai (I (x / y)) :: st) h) : wB CL L K Rt t ((.idiv, l, a, b, c) :: r) pc ls (ai (I y) :: ai (I x) :: st) h := by
  refine ⟨fun e => ?_, ?_⟩
  · rw [I_zero, I_inj ⟨by omega, h3⟩ ⟨by omega, by omega⟩] at e; omega
  · rw [I_div h0 h1 h2 h3]; exact k
theorem i_irem (h0 : 0 ≤ x) (h1 : x < 2147483648) (h2 : 0 < y) (h3 : y < 2147483648) (k : wB CL L K Rt t r (pc + l) ls (ai (I (x % y)) :: st) h) : wB CL L K Rt t ((.irem, l, a, b, c) :: r) pc ls (ai (I y) :: ai (I x) :: st) h := by
  refine ⟨fun e => ?_, ?_⟩
  · rw [I_zero, I_inj ⟨by omega, h3⟩ ⟨by omega, by omega⟩] at e; omega
  · rw [I_mod h0 h1 h2 h3]; exact k
theorem i_i2b (k : wB CL L K Rt t r (pc + l) ls (ai (I (I x).toInt8.toInt) :: st) h) : wB CL L K Rt t ((.i2b, l, a, b, c) :: r) pc ls (ai (I x) :: st) h := k
theorem i_i2s (k : wB CL L K Rt t r (pc + l) ls (ai (I (I x).toInt16.toInt) :: st) h) : wB CL L K Rt t ((.i2s, l, a, b, c) :: r) pc ls (ai (I x) :: st) h := k
theorem i_i2l (k : wB CL L K Rt t r (pc + l) ls (al (I x).toInt64 :: st) h) : wB CL L K Rt t ((.i2l, l, a, b, c) :: r) pc ls (ai (I x) :: st) h := k
theorem i_ladd {u v : Int64} (k : wB CL L K Rt t r (pc + l) ls (al (u + v) :: st) h) : wB CL L K Rt t ((.ladd, l, a, b, c) :: r) pc ls (al v :: al u :: st) h := k
theorem i_lmul {u v : Int64} (k : wB CL L K Rt t r (pc + l) ls (al (u * v) :: st) h) : wB CL L K Rt t ((.lmul, l, a, b, c) :: r) pc ls (al v :: al u :: st) h := k
theorem i_ldiv {u v : Int64} (hz : ¬ v = 0) (k : wB CL L K Rt t r (pc + l) ls (al (u / v) :: st) h) : wB CL L K Rt t ((.ldiv, l, a, b, c) :: r) pc ls (al v :: al u :: st) h := ⟨hz, k⟩
theorem i_lrem {u v : Int64} (hz : ¬ v = 0) (k : wB CL L K Rt t r (pc + l) ls (al (u % v) :: st) h) : wB CL L K Rt t ((.lrem, l, a, b, c) :: r) pc ls (al v :: al u :: st) h := ⟨hz, k⟩
/-- -1, 0, 1 -/
def lcm (u v : Int64) : Int := (lg_cmp u v).toInt
theorem lcm_R {u v : Int64} : inR (lcm u v) := R_of _
theorem i_lcmp {u v : Int64} (k : wB CL L K Rt t r (pc + l) ls (ai (I (lcm u v)) :: st) h) : wB CL L K Rt t ((.lcmp, l, a, b, c) :: r) pc ls (al v :: al u :: st) h := by rw [lcm, I_of] at k; exact k
theorem i_dup {v : AV} (hc : cat1 v = true) (k : wB CL L K Rt t r (pc + l) ls (v :: v :: st) h) : wB CL L K Rt t ((.dup, l, a, b, c) :: r) pc ls (v :: st) h := by
  show ifB (cat1 v) _
  rw [hc]; exact k
theorem i_dup2 {v w : AV} (hc : (cat1 v && cat1 w) = true) (k : wB CL L K Rt t r (pc + l) ls (v :: w :: v :: w :: st) h) : wB CL L K Rt t ((.dup2, l, a, b, c) :: r) pc ls (v :: w :: st) h := by
  show ifB (cat1 v && cat1 w) _
  rw [hc]; exact k
theorem i_pop {v : AV} (hc : cat1 v = true) (k : wB CL L K Rt t r (pc + l) ls st h) : wB CL L K Rt t ((.pop, l, a, b, c) :: r) pc ls (v :: st) h := by
  show ifB (cat1 v) _
  rw [hc]; exact k
theorem beq_rf (n : Nat) : Nat.beq n n = true := Nat.beq_refl n
theorem i_gfi {q f : Nat} (hf : fsh t1 f = none) (k : wB CL L K Rt t r (pc + l) ls (ai (I (hI h t1 b1 f)) :: st) h) : wB CL L K Rt t ((.getfield q, l, t1, f, c) :: r) pc ls (ar t1 b1 :: st) h := by
  show ifB (Nat.beq t1 t1) (wB CL L K Rt t r (pc + l) ls (aval h t1 b1 f :: st) h)
  rw [beq_rf, show aval h t1 b1 f = ai (I (hI h t1 b1 f)) by unfold aval; rw [hf, hI_I]]; exact k
theorem i_gfr {q f : Nat} (hf : fsh t1 f = some (t2, 0)) (k : wB CL L K Rt t r (pc + l) ls (ar t2 b1 :: st) h) : wB CL L K Rt t ((.getfield q, l, t1, f, c) :: r) pc ls (ar t1 b1 :: st) h := by
  show ifB (Nat.beq t1 t1) (wB CL L K Rt t r (pc + l) ls (aval h t1 b1 f :: st) h)
  rw [beq_rf, show aval h t1 b1 f = ar t2 b1 by unfold aval; rw [hf]; rfl]; exact k
theorem i_gfs {q f : Nat} (hf : fsh t1 f = some (t2, b2)) (k : wB CL L K Rt t r (pc + l) ls (ar t2 b2 :: st) h) : wB CL L K Rt t ((.getfield q, l, t1, f, c) :: r) pc ls (ar t1 0 :: st) h := by
  show ifB (Nat.beq t1 t1) (wB CL L K Rt t r (pc + l) ls (aval h t1 0 f :: st) h)
  rw [beq_rf, show aval h t1 0 f = ar t2 b2 by unfold aval; rw [hf]; simp]; exact k
theorem i_pfi {q f : Nat} (hb : fbo t1 f = false) (k : wB CL L K Rt t r (pc + l) ls st (mset h t1 b1 f (I x))) : wB CL L K Rt t ((.putfield q, l, t1, f, c) :: r) pc ls (ai (I x) :: ar t1 b1 :: st) h := by
  show ifB (Nat.beq t1 t1) (if fbo t1 f = true then _ else _)
  rw [beq_rf, hb]; exact k
theorem i_pfb {q f : Nat} (hb : fbo t1 f = true) (hx : x = 0 ∨ x = 1) (k : wB CL L K Rt t r (pc + l) ls st (mset h t1 b1 f (I x))) : wB CL L K Rt t ((.putfield q, l, t1, f, c) :: r) pc ls (ai (I x) :: ar t1 b1 :: st) h := by
  show ifB (Nat.beq t1 t1) (if fbo t1 f = true then _ else _)
  rw [beq_rf, hb]
  exact ⟨by rcases hx with rfl | rfl <;> simp [I] , k⟩
theorem i_iald {n : Nat} (hn : aln L t1 = n) (h0 : 0 ≤ x) (h1 : x < (n : Int)) (h2 : n ≤ 100000) (k : wB CL L K Rt t r (pc + l) ls (ai (I (hI h t1 b1 x.toNat)) :: st) h) : wB CL L K Rt t ((.iaload, l, a, b, c) :: r) pc ls (ai (I x) :: ar t1 b1 :: st) h := by
  refine ⟨by rw [hn]; exact I_vp h0 h1 h2, ?_⟩
  rw [I_nat h0 (by omega), ← hI_I h t1 b1 x.toNat]; exact k
theorem i_iast {n : Nat} (hr : isRow t1 = true) (hn : aln L t1 = n) (h0 : 0 ≤ x) (h1 : x < (n : Int)) (h2 : n ≤ 100000) (k : wB CL L K Rt t r (pc + l) ls st (mset h t1 b1 x.toNat (I y))) : wB CL L K Rt t ((.iastore, l, a, b, c) :: r) pc ls (ai (I y) :: ai (I x) :: ar t1 b1 :: st) h := by
  show ifB (isRow t1) _
  rw [hr]
  refine ⟨by rw [hn]; exact I_vp h0 h1 h2, ?_⟩
  rw [I_nat h0 (by omega)]; exact k
theorem i_aald20 (h0 : 0 ≤ x) (h1 : x < 8) (k : wB CL L K Rt t r (pc + l) ls (ar 1 x.toNat :: st) h) : wB CL L K Rt t ((.aaload, l, a, b, c) :: r) pc ls (ai (I x) :: ar 20 b1 :: st) h := by
  refine ⟨I_vp h0 (by omega) (by omega), ?_⟩
  rw [I_nat h0 (by omega)]; exact k
theorem i_aald21 (h0 : 0 ≤ x) (h1 : x < 8) (k : wB CL L K Rt t r (pc + l) ls (ar 0 (4 + x.toNat) :: st) h) : wB CL L K Rt t ((.aaload, l, a, b, c) :: r) pc ls (ai (I x) :: ar 21 b1 :: st) h := by
  refine ⟨I_vp h0 (by omega) (by omega), ?_⟩
  rw [I_nat h0 (by omega)]; exact k
theorem i_alen {n : Nat} (hn : alA L t1 = some n) (hz : Int32.ofNat n = I z) (k : wB CL L K Rt t r (pc + l) ls (ai (I z) :: st) h) : wB CL L K Rt t ((.arraylength, l, a, b, c) :: r) pc ls (ar t1 b1 :: st) h := by
  show (match alA L t1 with
    | some n => wB CL L K Rt t r (pc + l) ls (ai (Int32.ofNat n) :: st) h
    | none => False)
  rw [hn]
  show wB CL L K Rt t r (pc + l) ls (ai (Int32.ofNat n) :: st) h
  rw [hz]; exact k
theorem i_acp {q : Nat} (hr : (isRow t1 && isRow t2) = true) {n1 n2 : Nat} (e1 : aln L t1 = n1) (e2 : aln L t2 = n2) (h0 : 0 ≤ x) (h1 : 0 ≤ y) (h2 : 0 ≤ z) (h3 : x + z ≤ (n1 : Int)) (h4 : y + z ≤ (n2 : Int)) (h5 : n1 ≤ 1000) (h6 : n2 ≤ 1000) (hc : catS st ≤ 8) (k : wB CL L K Rt t r (pc + l) ls st (mcpy h t1 b1 x.toNat t2 b2 y.toNat z.toNat)) : wB CL L K Rt t ((.invokestatic q, l, 0, b, c) :: r) pc ls (ai (I z) :: ai (I y) :: ar t2 b2 :: ai (I x) :: ar t1 b1 :: st) h := by
  have g : ∀ {w : Int}, 0 ≤ w → w < 2147483648 → ¬ I w < 0 := fun {w} hw hw2 e => by rw [I_zero, I_lt ⟨by omega, by omega⟩ ⟨by omega, by omega⟩] at e; omega
  show ifB (isRow t1 && isRow t2) _
  rw [hr]
  refine ⟨g h0 (by omega), g h1 (by omega), g h2 (by omega), ?_, ?_, ?_⟩
  · rw [I_nat h0 (by omega), I_nat h2 (by omega), e1]; omega
  · rw [I_nat h1 (by omega), I_nat h2 (by omega), e2]; omega
  · rw [show Nat.ble (catS st) 8 = true from Nat.ble_eq.mpr hc, I_nat h0 (by omega), I_nat h1 (by omega), I_nat h2 (by omega)]; exact k
theorem i_max {q m : Nat} (hx : inR x) (hy : inR y) (hc : catS st ≤ 8) (k : wB CL L K Rt t r (pc + l) ls (ai (I (if x < y then y else x)) :: st) h) : wB CL L K Rt t ((.invokestatic q, l, m + 1, b, c) :: r) pc ls (ai (I y) :: ai (I x) :: st) h := by
  show ifB (Nat.ble (catS st) 8) (wB CL L K Rt t r (pc + l) ls (ai (if I x < I y then I y else I x) :: st) h)
  rw [show Nat.ble (catS st) 8 = true from Nat.ble_eq.mpr hc]
  have e : (if I x < I y then I y else I x) = I (if x < y then y else x) := by
    by_cases hxy : x < y
    · rw [if_pos ((I_lt hx hy).mpr hxy), if_pos hxy]
    · rw [if_neg (fun z => hxy ((I_lt hx hy).mp z)), if_neg hxy]
  show wB CL L K Rt t r (pc + l) ls (ai (if I x < I y then I y else I x) :: st) h
  rw [e]; exact k
theorem i_istore0 {w0 : Option AV} {v : Int32} (k : wB CL L K Rt t r (pc + l) (some (ai v) :: ls) st h) : wB CL L K Rt t ((.istore_n 0, l, a, b, c) :: r) pc (w0 :: ls) (ai v :: st) h := by
  show wB CL L K Rt t r (pc + l) (lset (clr (w0 :: ls) 0) 0 (some (ai v))) st h
  rw [show clr (w0 :: ls) 0 = w0 :: ls from rfl]; exact k
theorem i_astore0 {w0 : Option AV} {v : Option (Nat × Nat)} (k : wB CL L K Rt t r (pc + l) (some (.inr (.inr v)) :: ls) st h) : wB CL L K Rt t ((.astore_n 0, l, a, b, c) :: r) pc (w0 :: ls) (.inr (.inr v) :: st) h := by
  show wB CL L K Rt t r (pc + l) (lset (clr (w0 :: ls) 0) 0 (some (.inr (.inr v)))) st h
  rw [show clr (w0 :: ls) 0 = w0 :: ls from rfl]; exact k
theorem i_lstore0 {w0 w1 : Option AV} {v : Int64} (k : wB CL L K Rt t r (pc + l) (some (al v) :: none :: ls) st h) : wB CL L K Rt t ((.lstore_n 0, l, a, b, c) :: r) pc (w0 :: w1 :: ls) (al v :: st) h := by
  show wB CL L K Rt t r (pc + l) (lset (lset (clr (w0 :: w1 :: ls) 0) 0 (some (al v))) (0 + 1) none) st h
  rw [show clr (w0 :: w1 :: ls) 0 = w0 :: w1 :: ls from rfl]; exact k
theorem i_iinc0 {v : Int} (hz : cst a b = I z) (k : wB CL L K Rt t r (pc + l) (some (ai (I (x + z))) :: ls) st h) : wB CL L K Rt t ((.iinc 0 v, l, a, b, c) :: r) pc (some (ai (I x)) :: ls) st h := by
  show wB CL L K Rt t r (pc + l) (lset (clr (some (ai (I x)) :: ls) 0) 0 (some (ai (I x + cst a b)))) st h
  rw [show clr (some (ai (I x)) :: ls) 0 = some (ai (I x)) :: ls from rfl, hz, I_add]; exact k
theorem i_istore1 {w0 w1 : Option AV} {v : Int32} (hp : notL w0) (k : wB CL L K Rt t r (pc + l) (w0 :: some (ai v) :: ls) st h) : wB CL L K Rt t ((.istore_n 1, l, a, b, c) :: r) pc (w0 :: w1 :: ls) (ai v :: st) h := by
  show wB CL L K Rt t r (pc + l) (lset (clr (w0 :: w1 :: ls) 1) 1 (some (ai v))) st h
  rw [clr_notL (ls := w0 :: w1 :: ls) (m := 0) hp]; exact k
theorem i_astore1 {w0 w1 : Option AV} {v : Option (Nat × Nat)} (hp : notL w0) (k : wB CL L K Rt t r (pc + l) (w0 :: some (.inr (.inr v)) :: ls) st h) : wB CL L K Rt t ((.astore_n 1, l, a, b, c) :: r) pc (w0 :: w1 :: ls) (.inr (.inr v) :: st) h := by
  show wB CL L K Rt t r (pc + l) (lset (clr (w0 :: w1 :: ls) 1) 1 (some (.inr (.inr v)))) st h
  rw [clr_notL (ls := w0 :: w1 :: ls) (m := 0) hp]; exact k
theorem i_lstore1 {w0 w1 w2 : Option AV} {v : Int64} (hp : notL w0) (k : wB CL L K Rt t r (pc + l) (w0 :: some (al v) :: none :: ls) st h) : wB CL L K Rt t ((.lstore_n 1, l, a, b, c) :: r) pc (w0 :: w1 :: w2 :: ls) (al v :: st) h := by
  show wB CL L K Rt t r (pc + l) (lset (lset (clr (w0 :: w1 :: w2 :: ls) 1) 1 (some (al v))) (1 + 1) none) st h
  rw [clr_notL (ls := w0 :: w1 :: w2 :: ls) (m := 0) hp]; exact k
theorem i_iinc1 {w0 : Option AV} {v : Int} (hp : notL w0) (hz : cst a b = I z) (k : wB CL L K Rt t r (pc + l) (w0 :: some (ai (I (x + z))) :: ls) st h) : wB CL L K Rt t ((.iinc 1 v, l, a, b, c) :: r) pc (w0 :: some (ai (I x)) :: ls) st h := by
  show wB CL L K Rt t r (pc + l) (lset (clr (w0 :: some (ai (I x)) :: ls) 1) 1 (some (ai (I x + cst a b)))) st h
  rw [clr_notL (ls := w0 :: some (ai (I x)) :: ls) (m := 0) hp, hz, I_add]; exact k
theorem i_istore2 {w0 w1 w2 : Option AV} {v : Int32} (hp : notL w1) (k : wB CL L K Rt t r (pc + l) (w0 :: w1 :: some (ai v) :: ls) st h) : wB CL L K Rt t ((.istore_n 2, l, a, b, c) :: r) pc (w0 :: w1 :: w2 :: ls) (ai v :: st) h := by
  show wB CL L K Rt t r (pc + l) (lset (clr (w0 :: w1 :: w2 :: ls) 2) 2 (some (ai v))) st h
  rw [clr_notL (ls := w0 :: w1 :: w2 :: ls) (m := 1) hp]; exact k
theorem i_astore2 {w0 w1 w2 : Option AV} {v : Option (Nat × Nat)} (hp : notL w1) (k : wB CL L K Rt t r (pc + l) (w0 :: w1 :: some (.inr (.inr v)) :: ls) st h) : wB CL L K Rt t ((.astore_n 2, l, a, b, c) :: r) pc (w0 :: w1 :: w2 :: ls) (.inr (.inr v) :: st) h := by
  show wB CL L K Rt t r (pc + l) (lset (clr (w0 :: w1 :: w2 :: ls) 2) 2 (some (.inr (.inr v)))) st h
  rw [clr_notL (ls := w0 :: w1 :: w2 :: ls) (m := 1) hp]; exact k
theorem i_lstore2 {w0 w1 w2 w3 : Option AV} {v : Int64} (hp : notL w1) (k : wB CL L K Rt t r (pc + l) (w0 :: w1 :: some (al v) :: none :: ls) st h) : wB CL L K Rt t ((.lstore_n 2, l, a, b, c) :: r) pc (w0 :: w1 :: w2 :: w3 :: ls) (al v :: st) h := by
  show wB CL L K Rt t r (pc + l) (lset (lset (clr (w0 :: w1 :: w2 :: w3 :: ls) 2) 2 (some (al v))) (2 + 1) none) st h
  rw [clr_notL (ls := w0 :: w1 :: w2 :: w3 :: ls) (m := 1) hp]; exact k
theorem i_iinc2 {w0 w1 : Option AV} {v : Int} (hp : notL w1) (hz : cst a b = I z) (k : wB CL L K Rt t r (pc + l) (w0 :: w1 :: some (ai (I (x + z))) :: ls) st h) : wB CL L K Rt t ((.iinc 2 v, l, a, b, c) :: r) pc (w0 :: w1 :: some (ai (I x)) :: ls) st h := by
  show wB CL L K Rt t r (pc + l) (lset (clr (w0 :: w1 :: some (ai (I x)) :: ls) 2) 2 (some (ai (I x + cst a b)))) st h
  rw [clr_notL (ls := w0 :: w1 :: some (ai (I x)) :: ls) (m := 1) hp, hz, I_add]; exact k
theorem i_istore3 {w0 w1 w2 w3 : Option AV} {v : Int32} (hp : notL w2) (k : wB CL L K Rt t r (pc + l) (w0 :: w1 :: w2 :: some (ai v) :: ls) st h) : wB CL L K Rt t ((.istore_n 3, l, a, b, c) :: r) pc (w0 :: w1 :: w2 :: w3 :: ls) (ai v :: st) h := by
  show wB CL L K Rt t r (pc + l) (lset (clr (w0 :: w1 :: w2 :: w3 :: ls) 3) 3 (some (ai v))) st h
  rw [clr_notL (ls := w0 :: w1 :: w2 :: w3 :: ls) (m := 2) hp]; exact k
theorem i_astore3 {w0 w1 w2 w3 : Option AV} {v : Option (Nat × Nat)} (hp : notL w2) (k : wB CL L K Rt t r (pc + l) (w0 :: w1 :: w2 :: some (.inr (.inr v)) :: ls) st h) : wB CL L K Rt t ((.astore_n 3, l, a, b, c) :: r) pc (w0 :: w1 :: w2 :: w3 :: ls) (.inr (.inr v) :: st) h := by
  show wB CL L K Rt t r (pc + l) (lset (clr (w0 :: w1 :: w2 :: w3 :: ls) 3) 3 (some (.inr (.inr v)))) st h
  rw [clr_notL (ls := w0 :: w1 :: w2 :: w3 :: ls) (m := 2) hp]; exact k
theorem i_lstore3 {w0 w1 w2 w3 w4 : Option AV} {v : Int64} (hp : notL w2) (k : wB CL L K Rt t r (pc + l) (w0 :: w1 :: w2 :: some (al v) :: none :: ls) st h) : wB CL L K Rt t ((.lstore_n 3, l, a, b, c) :: r) pc (w0 :: w1 :: w2 :: w3 :: w4 :: ls) (al v :: st) h := by
  show wB CL L K Rt t r (pc + l) (lset (lset (clr (w0 :: w1 :: w2 :: w3 :: w4 :: ls) 3) 3 (some (al v))) (3 + 1) none) st h
  rw [clr_notL (ls := w0 :: w1 :: w2 :: w3 :: w4 :: ls) (m := 2) hp]; exact k
theorem i_iinc3 {w0 w1 w2 : Option AV} {v : Int} (hp : notL w2) (hz : cst a b = I z) (k : wB CL L K Rt t r (pc + l) (w0 :: w1 :: w2 :: some (ai (I (x + z))) :: ls) st h) : wB CL L K Rt t ((.iinc 3 v, l, a, b, c) :: r) pc (w0 :: w1 :: w2 :: some (ai (I x)) :: ls) st h := by
  show wB CL L K Rt t r (pc + l) (lset (clr (w0 :: w1 :: w2 :: some (ai (I x)) :: ls) 3) 3 (some (ai (I x + cst a b)))) st h
  rw [clr_notL (ls := w0 :: w1 :: w2 :: some (ai (I x)) :: ls) (m := 2) hp, hz, I_add]; exact k
theorem i_istore4 {w0 w1 w2 w3 w4 : Option AV} {v : Int32} (hp : notL w3) (k : wB CL L K Rt t r (pc + l) (w0 :: w1 :: w2 :: w3 :: some (ai v) :: ls) st h) : wB CL L K Rt t ((.istore 4, l, a, b, c) :: r) pc (w0 :: w1 :: w2 :: w3 :: w4 :: ls) (ai v :: st) h := by
  show wB CL L K Rt t r (pc + l) (lset (clr (w0 :: w1 :: w2 :: w3 :: w4 :: ls) 4) 4 (some (ai v))) st h
  rw [clr_notL (ls := w0 :: w1 :: w2 :: w3 :: w4 :: ls) (m := 3) hp]; exact k
theorem i_astore4 {w0 w1 w2 w3 w4 : Option AV} {v : Option (Nat × Nat)} (hp : notL w3) (k : wB CL L K Rt t r (pc + l) (w0 :: w1 :: w2 :: w3 :: some (.inr (.inr v)) :: ls) st h) : wB CL L K Rt t ((.astore 4, l, a, b, c) :: r) pc (w0 :: w1 :: w2 :: w3 :: w4 :: ls) (.inr (.inr v) :: st) h := by
  show wB CL L K Rt t r (pc + l) (lset (clr (w0 :: w1 :: w2 :: w3 :: w4 :: ls) 4) 4 (some (.inr (.inr v)))) st h
  rw [clr_notL (ls := w0 :: w1 :: w2 :: w3 :: w4 :: ls) (m := 3) hp]; exact k
theorem i_lstore4 {w0 w1 w2 w3 w4 w5 : Option AV} {v : Int64} (hp : notL w3) (k : wB CL L K Rt t r (pc + l) (w0 :: w1 :: w2 :: w3 :: some (al v) :: none :: ls) st h) : wB CL L K Rt t ((.lstore 4, l, a, b, c) :: r) pc (w0 :: w1 :: w2 :: w3 :: w4 :: w5 :: ls) (al v :: st) h := by
  show wB CL L K Rt t r (pc + l) (lset (lset (clr (w0 :: w1 :: w2 :: w3 :: w4 :: w5 :: ls) 4) 4 (some (al v))) (4 + 1) none) st h
  rw [clr_notL (ls := w0 :: w1 :: w2 :: w3 :: w4 :: w5 :: ls) (m := 3) hp]; exact k
theorem i_iinc4 {w0 w1 w2 w3 : Option AV} {v : Int} (hp : notL w3) (hz : cst a b = I z) (k : wB CL L K Rt t r (pc + l) (w0 :: w1 :: w2 :: w3 :: some (ai (I (x + z))) :: ls) st h) : wB CL L K Rt t ((.iinc 4 v, l, a, b, c) :: r) pc (w0 :: w1 :: w2 :: w3 :: some (ai (I x)) :: ls) st h := by
  show wB CL L K Rt t r (pc + l) (lset (clr (w0 :: w1 :: w2 :: w3 :: some (ai (I x)) :: ls) 4) 4 (some (ai (I x + cst a b)))) st h
  rw [clr_notL (ls := w0 :: w1 :: w2 :: w3 :: some (ai (I x)) :: ls) (m := 3) hp, hz, I_add]; exact k
theorem i_istore5 {w0 w1 w2 w3 w4 w5 : Option AV} {v : Int32} (hp : notL w4) (k : wB CL L K Rt t r (pc + l) (w0 :: w1 :: w2 :: w3 :: w4 :: some (ai v) :: ls) st h) : wB CL L K Rt t ((.istore 5, l, a, b, c) :: r) pc (w0 :: w1 :: w2 :: w3 :: w4 :: w5 :: ls) (ai v :: st) h := by
  show wB CL L K Rt t r (pc + l) (lset (clr (w0 :: w1 :: w2 :: w3 :: w4 :: w5 :: ls) 5) 5 (some (ai v))) st h
  rw [clr_notL (ls := w0 :: w1 :: w2 :: w3 :: w4 :: w5 :: ls) (m := 4) hp]; exact k
theorem i_astore5 {w0 w1 w2 w3 w4 w5 : Option AV} {v : Option (Nat × Nat)} (hp : notL w4) (k : wB CL L K Rt t r (pc + l) (w0 :: w1 :: w2 :: w3 :: w4 :: some (.inr (.inr v)) :: ls) st h) : wB CL L K Rt t ((.astore 5, l, a, b, c) :: r) pc (w0 :: w1 :: w2 :: w3 :: w4 :: w5 :: ls) (.inr (.inr v) :: st) h := by
  show wB CL L K Rt t r (pc + l) (lset (clr (w0 :: w1 :: w2 :: w3 :: w4 :: w5 :: ls) 5) 5 (some (.inr (.inr v)))) st h
  rw [clr_notL (ls := w0 :: w1 :: w2 :: w3 :: w4 :: w5 :: ls) (m := 4) hp]; exact k
theorem i_lstore5 {w0 w1 w2 w3 w4 w5 w6 : Option AV} {v : Int64} (hp : notL w4) (k : wB CL L K Rt t r (pc + l) (w0 :: w1 :: w2 :: w3 :: w4 :: some (al v) :: none :: ls) st h) : wB CL L K Rt t ((.lstore 5, l, a, b, c) :: r) pc (w0 :: w1 :: w2 :: w3 :: w4 :: w5 :: w6 :: ls) (al v :: st) h := by
  show wB CL L K Rt t r (pc + l) (lset (lset (clr (w0 :: w1 :: w2 :: w3 :: w4 :: w5 :: w6 :: ls) 5) 5 (some (al v))) (5 + 1) none) st h
  rw [clr_notL (ls := w0 :: w1 :: w2 :: w3 :: w4 :: w5 :: w6 :: ls) (m := 4) hp]; exact k
theorem i_iinc5 {w0 w1 w2 w3 w4 : Option AV} {v : Int} (hp : notL w4) (hz : cst a b = I z) (k : wB CL L K Rt t r (pc + l) (w0 :: w1 :: w2 :: w3 :: w4 :: some (ai (I (x + z))) :: ls) st h) : wB CL L K Rt t ((.iinc 5 v, l, a, b, c) :: r) pc (w0 :: w1 :: w2 :: w3 :: w4 :: some (ai (I x)) :: ls) st h := by
  show wB CL L K Rt t r (pc + l) (lset (clr (w0 :: w1 :: w2 :: w3 :: w4 :: some (ai (I x)) :: ls) 5) 5 (some (ai (I x + cst a b)))) st h
  rw [clr_notL (ls := w0 :: w1 :: w2 :: w3 :: w4 :: some (ai (I x)) :: ls) (m := 4) hp, hz, I_add]; exact k
theorem i_istore6 {w0 w1 w2 w3 w4 w5 w6 : Option AV} {v : Int32} (hp : notL w5) (k : wB CL L K Rt t r (pc + l) (w0 :: w1 :: w2 :: w3 :: w4 :: w5 :: some (ai v) :: ls) st h) : wB CL L K Rt t ((.istore 6, l, a, b, c) :: r) pc (w0 :: w1 :: w2 :: w3 :: w4 :: w5 :: w6 :: ls) (ai v :: st) h := by
  show wB CL L K Rt t r (pc + l) (lset (clr (w0 :: w1 :: w2 :: w3 :: w4 :: w5 :: w6 :: ls) 6) 6 (some (ai v))) st h
  rw [clr_notL (ls := w0 :: w1 :: w2 :: w3 :: w4 :: w5 :: w6 :: ls) (m := 5) hp]; exact k
theorem i_astore6 {w0 w1 w2 w3 w4 w5 w6 : Option AV} {v : Option (Nat × Nat)} (hp : notL w5) (k : wB CL L K Rt t r (pc + l) (w0 :: w1 :: w2 :: w3 :: w4 :: w5 :: some (.inr (.inr v)) :: ls) st h) : wB CL L K Rt t ((.astore 6, l, a, b, c) :: r) pc (w0 :: w1 :: w2 :: w3 :: w4 :: w5 :: w6 :: ls) (.inr (.inr v) :: st) h := by
  show wB CL L K Rt t r (pc + l) (lset (clr (w0 :: w1 :: w2 :: w3 :: w4 :: w5 :: w6 :: ls) 6) 6 (some (.inr (.inr v)))) st h
  rw [clr_notL (ls := w0 :: w1 :: w2 :: w3 :: w4 :: w5 :: w6 :: ls) (m := 5) hp]; exact k
theorem i_lstore6 {w0 w1 w2 w3 w4 w5 w6 w7 : Option AV} {v : Int64} (hp : notL w5) (k : wB CL L K Rt t r (pc + l) (w0 :: w1 :: w2 :: w3 :: w4 :: w5 :: some (al v) :: none :: ls) st h) : wB CL L K Rt t ((.lstore 6, l, a, b, c) :: r) pc (w0 :: w1 :: w2 :: w3 :: w4 :: w5 :: w6 :: w7 :: ls) (al v :: st) h := by
  show wB CL L K Rt t r (pc + l) (lset (lset (clr (w0 :: w1 :: w2 :: w3 :: w4 :: w5 :: w6 :: w7 :: ls) 6) 6 (some (al v))) (6 + 1) none) st h
  rw [clr_notL (ls := w0 :: w1 :: w2 :: w3 :: w4 :: w5 :: w6 :: w7 :: ls) (m := 5) hp]; exact k
theorem i_iinc6 {w0 w1 w2 w3 w4 w5 : Option AV} {v : Int} (hp : notL w5) (hz : cst a b = I z) (k : wB CL L K Rt t r (pc + l) (w0 :: w1 :: w2 :: w3 :: w4 :: w5 :: some (ai (I (x + z))) :: ls) st h) : wB CL L K Rt t ((.iinc 6 v, l, a, b, c) :: r) pc (w0 :: w1 :: w2 :: w3 :: w4 :: w5 :: some (ai (I x)) :: ls) st h := by
  show wB CL L K Rt t r (pc + l) (lset (clr (w0 :: w1 :: w2 :: w3 :: w4 :: w5 :: some (ai (I x)) :: ls) 6) 6 (some (ai (I x + cst a b)))) st h
  rw [clr_notL (ls := w0 :: w1 :: w2 :: w3 :: w4 :: w5 :: some (ai (I x)) :: ls) (m := 5) hp, hz, I_add]; exact k
theorem i_istore7 {w0 w1 w2 w3 w4 w5 w6 w7 : Option AV} {v : Int32} (hp : notL w6) (k : wB CL L K Rt t r (pc + l) (w0 :: w1 :: w2 :: w3 :: w4 :: w5 :: w6 :: some (ai v) :: ls) st h) : wB CL L K Rt t ((.istore 7, l, a, b, c) :: r) pc (w0 :: w1 :: w2 :: w3 :: w4 :: w5 :: w6 :: w7 :: ls) (ai v :: st) h := by
  show wB CL L K Rt t r (pc + l) (lset (clr (w0 :: w1 :: w2 :: w3 :: w4 :: w5 :: w6 :: w7 :: ls) 7) 7 (some (ai v))) st h
  rw [clr_notL (ls := w0 :: w1 :: w2 :: w3 :: w4 :: w5 :: w6 :: w7 :: ls) (m := 6) hp]; exact k
theorem i_astore7 {w0 w1 w2 w3 w4 w5 w6 w7 : Option AV} {v : Option (Nat × Nat)} (hp : notL w6) (k : wB CL L K Rt t r (pc + l) (w0 :: w1 :: w2 :: w3 :: w4 :: w5 :: w6 :: some (.inr (.inr v)) :: ls) st h) : wB CL L K Rt t ((.astore 7, l, a, b, c) :: r) pc (w0 :: w1 :: w2 :: w3 :: w4 :: w5 :: w6 :: w7 :: ls) (.inr (.inr v) :: st) h := by
  show wB CL L K Rt t r (pc + l) (lset (clr (w0 :: w1 :: w2 :: w3 :: w4 :: w5 :: w6 :: w7 :: ls) 7) 7 (some (.inr (.inr v)))) st h
  rw [clr_notL (ls := w0 :: w1 :: w2 :: w3 :: w4 :: w5 :: w6 :: w7 :: ls) (m := 6) hp]; exact k
theorem i_lstore7 {w0 w1 w2 w3 w4 w5 w6 w7 w8 : Option AV} {v : Int64} (hp : notL w6) (k : wB CL L K Rt t r (pc + l) (w0 :: w1 :: w2 :: w3 :: w4 :: w5 :: w6 :: some (al v) :: none :: ls) st h) : wB CL L K Rt t ((.lstore 7, l, a, b, c) :: r) pc (w0 :: w1 :: w2 :: w3 :: w4 :: w5 :: w6 :: w7 :: w8 :: ls) (al v :: st) h := by
  show wB CL L K Rt t r (pc + l) (lset (lset (clr (w0 :: w1 :: w2 :: w3 :: w4 :: w5 :: w6 :: w7 :: w8 :: ls) 7) 7 (some (al v))) (7 + 1) none) st h
  rw [clr_notL (ls := w0 :: w1 :: w2 :: w3 :: w4 :: w5 :: w6 :: w7 :: w8 :: ls) (m := 6) hp]; exact k
theorem i_iinc7 {w0 w1 w2 w3 w4 w5 w6 : Option AV} {v : Int} (hp : notL w6) (hz : cst a b = I z) (k : wB CL L K Rt t r (pc + l) (w0 :: w1 :: w2 :: w3 :: w4 :: w5 :: w6 :: some (ai (I (x + z))) :: ls) st h) : wB CL L K Rt t ((.iinc 7 v, l, a, b, c) :: r) pc (w0 :: w1 :: w2 :: w3 :: w4 :: w5 :: w6 :: some (ai (I x)) :: ls) st h := by
  show wB CL L K Rt t r (pc + l) (lset (clr (w0 :: w1 :: w2 :: w3 :: w4 :: w5 :: w6 :: some (ai (I x)) :: ls) 7) 7 (some (ai (I x + cst a b)))) st h
  rw [clr_notL (ls := w0 :: w1 :: w2 :: w3 :: w4 :: w5 :: w6 :: some (ai (I x)) :: ls) (m := 6) hp, hz, I_add]; exact k
theorem i_istore8 {w0 w1 w2 w3 w4 w5 w6 w7 w8 : Option AV} {v : Int32} (hp : notL w7) (k : wB CL L K Rt t r (pc + l) (w0 :: w1 :: w2 :: w3 :: w4 :: w5 :: w6 :: w7 :: some (ai v) :: ls) st h) : wB CL L K Rt t ((.istore 8, l, a, b, c) :: r) pc (w0 :: w1 :: w2 :: w3 :: w4 :: w5 :: w6 :: w7 :: w8 :: ls) (ai v :: st) h := by
  show wB CL L K Rt t r (pc + l) (lset (clr (w0 :: w1 :: w2 :: w3 :: w4 :: w5 :: w6 :: w7 :: w8 :: ls) 8) 8 (some (ai v))) st h
  rw [clr_notL (ls := w0 :: w1 :: w2 :: w3 :: w4 :: w5 :: w6 :: w7 :: w8 :: ls) (m := 7) hp]; exact k
theorem i_astore8 {w0 w1 w2 w3 w4 w5 w6 w7 w8 : Option AV} {v : Option (Nat × Nat)} (hp : notL w7) (k : wB CL L K Rt t r (pc + l) (w0 :: w1 :: w2 :: w3 :: w4 :: w5 :: w6 :: w7 :: some (.inr (.inr v)) :: ls) st h) : wB CL L K Rt t ((.astore 8, l, a, b, c) :: r) pc (w0 :: w1 :: w2 :: w3 :: w4 :: w5 :: w6 :: w7 :: w8 :: ls) (.inr (.inr v) :: st) h := by
  show wB CL L K Rt t r (pc + l) (lset (clr (w0 :: w1 :: w2 :: w3 :: w4 :: w5 :: w6 :: w7 :: w8 :: ls) 8) 8 (some (.inr (.inr v)))) st h
  rw [clr_notL (ls := w0 :: w1 :: w2 :: w3 :: w4 :: w5 :: w6 :: w7 :: w8 :: ls) (m := 7) hp]; exact k
theorem i_lstore8 {w0 w1 w2 w3 w4 w5 w6 w7 w8 w9 : Option AV} {v : Int64} (hp : notL w7) (k : wB CL L K Rt t r (pc + l) (w0 :: w1 :: w2 :: w3 :: w4 :: w5 :: w6 :: w7 :: some (al v) :: none :: ls) st h) : wB CL L K Rt t ((.lstore 8, l, a, b, c) :: r) pc (w0 :: w1 :: w2 :: w3 :: w4 :: w5 :: w6 :: w7 :: w8 :: w9 :: ls) (al v :: st) h := by
  show wB CL L K Rt t r (pc + l) (lset (lset (clr (w0 :: w1 :: w2 :: w3 :: w4 :: w5 :: w6 :: w7 :: w8 :: w9 :: ls) 8) 8 (some (al v))) (8 + 1) none) st h
  rw [clr_notL (ls := w0 :: w1 :: w2 :: w3 :: w4 :: w5 :: w6 :: w7 :: w8 :: w9 :: ls) (m := 7) hp]; exact k
theorem i_iinc8 {w0 w1 w2 w3 w4 w5 w6 w7 : Option AV} {v : Int} (hp : notL w7) (hz : cst a b = I z) (k : wB CL L K Rt t r (pc + l) (w0 :: w1 :: w2 :: w3 :: w4 :: w5 :: w6 :: w7 :: some (ai (I (x + z))) :: ls) st h) : wB CL L K Rt t ((.iinc 8 v, l, a, b, c) :: r) pc (w0 :: w1 :: w2 :: w3 :: w4 :: w5 :: w6 :: w7 :: some (ai (I x)) :: ls) st h := by
  show wB CL L K Rt t r (pc + l) (lset (clr (w0 :: w1 :: w2 :: w3 :: w4 :: w5 :: w6 :: w7 :: some (ai (I x)) :: ls) 8) 8 (some (ai (I x + cst a b)))) st h
  rw [clr_notL (ls := w0 :: w1 :: w2 :: w3 :: w4 :: w5 :: w6 :: w7 :: some (ai (I x)) :: ls) (m := 7) hp, hz, I_add]; exact k
theorem i_istore9 {w0 w1 w2 w3 w4 w5 w6 w7 w8 w9 : Option AV} {v : Int32} (hp : notL w8) (k : wB CL L K Rt t r (pc + l) (w0 :: w1 :: w2 :: w3 :: w4 :: w5 :: w6 :: w7 :: w8 :: some (ai v) :: ls) st h) : wB CL L K Rt t ((.istore 9, l, a, b, c) :: r) pc (w0 :: w1 :: w2 :: w3 :: w4 :: w5 :: w6 :: w7 :: w8 :: w9 :: ls) (ai v :: st) h := by
  show wB CL L K Rt t r (pc + l) (lset (clr (w0 :: w1 :: w2 :: w3 :: w4 :: w5 :: w6 :: w7 :: w8 :: w9 :: ls) 9) 9 (some (ai v))) st h
  rw [clr_notL (ls := w0 :: w1 :: w2 :: w3 :: w4 :: w5 :: w6 :: w7 :: w8 :: w9 :: ls) (m := 8) hp]; exact k
theorem i_astore9 {w0 w1 w2 w3 w4 w5 w6 w7 w8 w9 : Option AV} {v : Option (Nat × Nat)} (hp : notL w8) (k : wB CL L K Rt t r (pc + l) (w0 :: w1 :: w2 :: w3 :: w4 :: w5 :: w6 :: w7 :: w8 :: some (.inr (.inr v)) :: ls) st h) : wB CL L K Rt t ((.astore 9, l, a, b, c) :: r) pc (w0 :: w1 :: w2 :: w3 :: w4 :: w5 :: w6 :: w7 :: w8 :: w9 :: ls) (.inr (.inr v) :: st) h := by
  show wB CL L K Rt t r (pc + l) (lset (clr (w0 :: w1 :: w2 :: w3 :: w4 :: w5 :: w6 :: w7 :: w8 :: w9 :: ls) 9) 9 (some (.inr (.inr v)))) st h
  rw [clr_notL (ls := w0 :: w1 :: w2 :: w3 :: w4 :: w5 :: w6 :: w7 :: w8 :: w9 :: ls) (m := 8) hp]; exact k
theorem i_lstore9 {w0 w1 w2 w3 w4 w5 w6 w7 w8 w9 w10 : Option AV} {v : Int64} (hp : notL w8) (k : wB CL L K Rt t r (pc + l) (w0 :: w1 :: w2 :: w3 :: w4 :: w5 :: w6 :: w7 :: w8 :: some (al v) :: none :: ls) st h) : wB CL L K Rt t ((.lstore 9, l, a, b, c) :: r) pc (w0 :: w1 :: w2 :: w3 :: w4 :: w5 :: w6 :: w7 :: w8 :: w9 :: w10 :: ls) (al v :: st) h := by
  show wB CL L K Rt t r (pc + l) (lset (lset (clr (w0 :: w1 :: w2 :: w3 :: w4 :: w5 :: w6 :: w7 :: w8 :: w9 :: w10 :: ls) 9) 9 (some (al v))) (9 + 1) none) st h
  rw [clr_notL (ls := w0 :: w1 :: w2 :: w3 :: w4 :: w5 :: w6 :: w7 :: w8 :: w9 :: w10 :: ls) (m := 8) hp]; exact k
theorem i_iinc9 {w0 w1 w2 w3 w4 w5 w6 w7 w8 : Option AV} {v : Int} (hp : notL w8) (hz : cst a b = I z) (k : wB CL L K Rt t r (pc + l) (w0 :: w1 :: w2 :: w3 :: w4 :: w5 :: w6 :: w7 :: w8 :: some (ai (I (x + z))) :: ls) st h) : wB CL L K Rt t ((.iinc 9 v, l, a, b, c) :: r) pc (w0 :: w1 :: w2 :: w3 :: w4 :: w5 :: w6 :: w7 :: w8 :: some (ai (I x)) :: ls) st h := by
  show wB CL L K Rt t r (pc + l) (lset (clr (w0 :: w1 :: w2 :: w3 :: w4 :: w5 :: w6 :: w7 :: w8 :: some (ai (I x)) :: ls) 9) 9 (some (ai (I x + cst a b)))) st h
  rw [clr_notL (ls := w0 :: w1 :: w2 :: w3 :: w4 :: w5 :: w6 :: w7 :: w8 :: some (ai (I x)) :: ls) (m := 8) hp, hz, I_add]; exact k
theorem i_istore10 {w0 w1 w2 w3 w4 w5 w6 w7 w8 w9 w10 : Option AV} {v : Int32} (hp : notL w9) (k : wB CL L K Rt t r (pc + l) (w0 :: w1 :: w2 :: w3 :: w4 :: w5 :: w6 :: w7 :: w8 :: w9 :: some (ai v) :: ls) st h) : wB CL L K Rt t ((.istore 10, l, a, b, c) :: r) pc (w0 :: w1 :: w2 :: w3 :: w4 :: w5 :: w6 :: w7 :: w8 :: w9 :: w10 :: ls) (ai v :: st) h := by
  show wB CL L K Rt t r (pc + l) (lset (clr (w0 :: w1 :: w2 :: w3 :: w4 :: w5 :: w6 :: w7 :: w8 :: w9 :: w10 :: ls) 10) 10 (some (ai v))) st h
  rw [clr_notL (ls := w0 :: w1 :: w2 :: w3 :: w4 :: w5 :: w6 :: w7 :: w8 :: w9 :: w10 :: ls) (m := 9) hp]; exact k
theorem i_astore10 {w0 w1 w2 w3 w4 w5 w6 w7 w8 w9 w10 : Option AV} {v : Option (Nat × Nat)} (hp : notL w9) (k : wB CL L K Rt t r (pc + l) (w0 :: w1 :: w2 :: w3 :: w4 :: w5 :: w6 :: w7 :: w8 :: w9 :: some (.inr (.inr v)) :: ls) st h) : wB CL L K Rt t ((.astore 10, l, a, b, c) :: r) pc (w0 :: w1 :: w2 :: w3 :: w4 :: w5 :: w6 :: w7 :: w8 :: w9 :: w10 :: ls) (.inr (.inr v) :: st) h := by
  show wB CL L K Rt t r (pc + l) (lset (clr (w0 :: w1 :: w2 :: w3 :: w4 :: w5 :: w6 :: w7 :: w8 :: w9 :: w10 :: ls) 10) 10 (some (.inr (.inr v)))) st h
  rw [clr_notL (ls := w0 :: w1 :: w2 :: w3 :: w4 :: w5 :: w6 :: w7 :: w8 :: w9 :: w10 :: ls) (m := 9) hp]; exact k
theorem i_lstore10 {w0 w1 w2 w3 w4 w5 w6 w7 w8 w9 w10 w11 : Option AV} {v : Int64} (hp : notL w9) (k : wB CL L K Rt t r (pc + l) (w0 :: w1 :: w2 :: w3 :: w4 :: w5 :: w6 :: w7 :: w8 :: w9 :: some (al v) :: none :: ls) st h) : wB CL L K Rt t ((.lstore 10, l, a, b, c) :: r) pc (w0 :: w1 :: w2 :: w3 :: w4 :: w5 :: w6 :: w7 :: w8 :: w9 :: w10 :: w11 :: ls) (al v :: st) h := by
  show wB CL L K Rt t r (pc + l) (lset (lset (clr (w0 :: w1 :: w2 :: w3 :: w4 :: w5 :: w6 :: w7 :: w8 :: w9 :: w10 :: w11 :: ls) 10) 10 (some (al v))) (10 + 1) none) st h
  rw [clr_notL (ls := w0 :: w1 :: w2 :: w3 :: w4 :: w5 :: w6 :: w7 :: w8 :: w9 :: w10 :: w11 :: ls) (m := 9) hp]; exact k
theorem i_iinc10 {w0 w1 w2 w3 w4 w5 w6 w7 w8 w9 : Option AV} {v : Int} (hp : notL w9) (hz : cst a b = I z) (k : wB CL L K Rt t r (pc + l) (w0 :: w1 :: w2 :: w3 :: w4 :: w5 :: w6 :: w7 :: w8 :: w9 :: some (ai (I (x + z))) :: ls) st h) : wB CL L K Rt t ((.iinc 10 v, l, a, b, c) :: r) pc (w0 :: w1 :: w2 :: w3 :: w4 :: w5 :: w6 :: w7 :: w8 :: w9 :: some (ai (I x)) :: ls) st h := by
  show wB CL L K Rt t r (pc + l) (lset (clr (w0 :: w1 :: w2 :: w3 :: w4 :: w5 :: w6 :: w7 :: w8 :: w9 :: some (ai (I x)) :: ls) 10) 10 (some (ai (I x + cst a b)))) st h
  rw [clr_notL (ls := w0 :: w1 :: w2 :: w3 :: w4 :: w5 :: w6 :: w7 :: w8 :: w9 :: some (ai (I x)) :: ls) (m := 9) hp, hz, I_add]; exact k
theorem i_istore11 {w0 w1 w2 w3 w4 w5 w6 w7 w8 w9 w10 w11 : Option AV} {v : Int32} (hp : notL w10) (k : wB CL L K Rt t r (pc + l) (w0 :: w1 :: w2 :: w3 :: w4 :: w5 :: w6 :: w7 :: w8 :: w9 :: w10 :: some (ai v) :: ls) st h) : wB CL L K Rt t ((.istore 11, l, a, b, c) :: r) pc (w0 :: w1 :: w2 :: w3 :: w4 :: w5 :: w6 :: w7 :: w8 :: w9 :: w10 :: w11 :: ls) (ai v :: st) h := by
  show wB CL L K Rt t r (pc + l) (lset (clr (w0 :: w1 :: w2 :: w3 :: w4 :: w5 :: w6 :: w7 :: w8 :: w9 :: w10 :: w11 :: ls) 11) 11 (some (ai v))) st h
  rw [clr_notL (ls := w0 :: w1 :: w2 :: w3 :: w4 :: w5 :: w6 :: w7 :: w8 :: w9 :: w10 :: w11 :: ls) (m := 10) hp]; exact k
theorem i_astore11 {w0 w1 w2 w3 w4 w5 w6 w7 w8 w9 w10 w11 : Option AV} {v : Option (Nat × Nat)} (hp : notL w10) (k : wB CL L K Rt t r (pc + l) (w0 :: w1 :: w2 :: w3 :: w4 :: w5 :: w6 :: w7 :: w8 :: w9 :: w10 :: some (.inr (.inr v)) :: ls) st h) : wB CL L K Rt t ((.astore 11, l, a, b, c) :: r) pc (w0 :: w1 :: w2 :: w3 :: w4 :: w5 :: w6 :: w7 :: w8 :: w9 :: w10 :: w11 :: ls) (.inr (.inr v) :: st) h := by
  show wB CL L K Rt t r (pc + l) (lset (clr (w0 :: w1 :: w2 :: w3 :: w4 :: w5 :: w6 :: w7 :: w8 :: w9 :: w10 :: w11 :: ls) 11) 11 (some (.inr (.inr v)))) st h
  rw [clr_notL (ls := w0 :: w1 :: w2 :: w3 :: w4 :: w5 :: w6 :: w7 :: w8 :: w9 :: w10 :: w11 :: ls) (m := 10) hp]; exact k
theorem i_lstore11 {w0 w1 w2 w3 w4 w5 w6 w7 w8 w9 w10 w11 w12 : Option AV} {v : Int64} (hp : notL w10) (k : wB CL L K Rt t r (pc + l) (w0 :: w1 :: w2 :: w3 :: w4 :: w5 :: w6 :: w7 :: w8 :: w9 :: w10 :: some (al v) :: none :: ls) st h) : wB CL L K Rt t ((.lstore 11, l, a, b, c) :: r) pc (w0 :: w1 :: w2 :: w3 :: w4 :: w5 :: w6 :: w7 :: w8 :: w9 :: w10 :: w11 :: w12 :: ls) (al v :: st) h := by
  show wB CL L K Rt t r (pc + l) (lset (lset (clr (w0 :: w1 :: w2 :: w3 :: w4 :: w5 :: w6 :: w7 :: w8 :: w9 :: w10 :: w11 :: w12 :: ls) 11) 11 (some (al v))) (11 + 1) none) st h
  rw [clr_notL (ls := w0 :: w1 :: w2 :: w3 :: w4 :: w5 :: w6 :: w7 :: w8 :: w9 :: w10 :: w11 :: w12 :: ls) (m := 10) hp]; exact k
theorem i_iinc11 {w0 w1 w2 w3 w4 w5 w6 w7 w8 w9 w10 : Option AV} {v : Int} (hp : notL w10) (hz : cst a b = I z) (k : wB CL L K Rt t r (pc + l) (w0 :: w1 :: w2 :: w3 :: w4 :: w5 :: w6 :: w7 :: w8 :: w9 :: w10 :: some (ai (I (x + z))) :: ls) st h) : wB CL L K Rt t ((.iinc 11 v, l, a, b, c) :: r) pc (w0 :: w1 :: w2 :: w3 :: w4 :: w5 :: w6 :: w7 :: w8 :: w9 :: w10 :: some (ai (I x)) :: ls) st h := by
  show wB CL L K Rt t r (pc + l) (lset (clr (w0 :: w1 :: w2 :: w3 :: w4 :: w5 :: w6 :: w7 :: w8 :: w9 :: w10 :: some (ai (I x)) :: ls) 11) 11 (some (ai (I x + cst a b)))) st h
  rw [clr_notL (ls := w0 :: w1 :: w2 :: w3 :: w4 :: w5 :: w6 :: w7 :: w8 :: w9 :: w10 :: some (ai (I x)) :: ls) (m := 10) hp, hz, I_add]; exact k
theorem i_istore12 {w0 w1 w2 w3 w4 w5 w6 w7 w8 w9 w10 w11 w12 : Option AV} {v : Int32} (hp : notL w11) (k : wB CL L K Rt t r (pc + l) (w0 :: w1 :: w2 :: w3 :: w4 :: w5 :: w6 :: w7 :: w8 :: w9 :: w10 :: w11 :: some (ai v) :: ls) st h) : wB CL L K Rt t ((.istore 12, l, a, b, c) :: r) pc (w0 :: w1 :: w2 :: w3 :: w4 :: w5 :: w6 :: w7 :: w8 :: w9 :: w10 :: w11 :: w12 :: ls) (ai v :: st) h := by
  show wB CL L K Rt t r (pc + l) (lset (clr (w0 :: w1 :: w2 :: w3 :: w4 :: w5 :: w6 :: w7 :: w8 :: w9 :: w10 :: w11 :: w12 :: ls) 12) 12 (some (ai v))) st h
  rw [clr_notL (ls := w0 :: w1 :: w2 :: w3 :: w4 :: w5 :: w6 :: w7 :: w8 :: w9 :: w10 :: w11 :: w12 :: ls) (m := 11) hp]; exact k
theorem i_astore12 {w0 w1 w2 w3 w4 w5 w6 w7 w8 w9 w10 w11 w12 : Option AV} {v : Option (Nat × Nat)} (hp : notL w11) (k : wB CL L K Rt t r (pc + l) (w0 :: w1 :: w2 :: w3 :: w4 :: w5 :: w6 :: w7 :: w8 :: w9 :: w10 :: w11 :: some (.inr (.inr v)) :: ls) st h) : wB CL L K Rt t ((.astore 12, l, a, b, c) :: r) pc (w0 :: w1 :: w2 :: w3 :: w4 :: w5 :: w6 :: w7 :: w8 :: w9 :: w10 :: w11 :: w12 :: ls) (.inr (.inr v) :: st) h := by
  show wB CL L K Rt t r (pc + l) (lset (clr (w0 :: w1 :: w2 :: w3 :: w4 :: w5 :: w6 :: w7 :: w8 :: w9 :: w10 :: w11 :: w12 :: ls) 12) 12 (some (.inr (.inr v)))) st h
  rw [clr_notL (ls := w0 :: w1 :: w2 :: w3 :: w4 :: w5 :: w6 :: w7 :: w8 :: w9 :: w10 :: w11 :: w12 :: ls) (m := 11) hp]; exact k
theorem i_lstore12 {w0 w1 w2 w3 w4 w5 w6 w7 w8 w9 w10 w11 w12 w13 : Option AV} {v : Int64} (hp : notL w11) (k : wB CL L K Rt t r (pc + l) (w0 :: w1 :: w2 :: w3 :: w4 :: w5 :: w6 :: w7 :: w8 :: w9 :: w10 :: w11 :: some (al v) :: none :: ls) st h) : wB CL L K Rt t ((.lstore 12, l, a, b, c) :: r) pc (w0 :: w1 :: w2 :: w3 :: w4 :: w5 :: w6 :: w7 :: w8 :: w9 :: w10 :: w11 :: w12 :: w13 :: ls) (al v :: st) h := by
  show wB CL L K Rt t r (pc + l) (lset (lset (clr (w0 :: w1 :: w2 :: w3 :: w4 :: w5 :: w6 :: w7 :: w8 :: w9 :: w10 :: w11 :: w12 :: w13 :: ls) 12) 12 (some (al v))) (12 + 1) none) st h
  rw [clr_notL (ls := w0 :: w1 :: w2 :: w3 :: w4 :: w5 :: w6 :: w7 :: w8 :: w9 :: w10 :: w11 :: w12 :: w13 :: ls) (m := 11) hp]; exact k
theorem i_iinc12 {w0 w1 w2 w3 w4 w5 w6 w7 w8 w9 w10 w11 : Option AV} {v : Int} (hp : notL w11) (hz : cst a b = I z) (k : wB CL L K Rt t r (pc + l) (w0 :: w1 :: w2 :: w3 :: w4 :: w5 :: w6 :: w7 :: w8 :: w9 :: w10 :: w11 :: some (ai (I (x + z))) :: ls) st h) : wB CL L K Rt t ((.iinc 12 v, l, a, b, c) :: r) pc (w0 :: w1 :: w2 :: w3 :: w4 :: w5 :: w6 :: w7 :: w8 :: w9 :: w10 :: w11 :: some (ai (I x)) :: ls) st h := by
  show wB CL L K Rt t r (pc + l) (lset (clr (w0 :: w1 :: w2 :: w3 :: w4 :: w5 :: w6 :: w7 :: w8 :: w9 :: w10 :: w11 :: some (ai (I x)) :: ls) 12) 12 (some (ai (I x + cst a b)))) st h
  rw [clr_notL (ls := w0 :: w1 :: w2 :: w3 :: w4 :: w5 :: w6 :: w7 :: w8 :: w9 :: w10 :: w11 :: some (ai (I x)) :: ls) (m := 11) hp, hz, I_add]; exact k
theorem i_istore13 {w0 w1 w2 w3 w4 w5 w6 w7 w8 w9 w10 w11 w12 w13 : Option AV} {v : Int32} (hp : notL w12) (k : wB CL L K Rt t r (pc + l) (w0 :: w1 :: w2 :: w3 :: w4 :: w5 :: w6 :: w7 :: w8 :: w9 :: w10 :: w11 :: w12 :: some (ai v) :: ls) st h) : wB CL L K Rt t ((.istore 13, l, a, b, c) :: r) pc (w0 :: w1 :: w2 :: w3 :: w4 :: w5 :: w6 :: w7 :: w8 :: w9 :: w10 :: w11 :: w12 :: w13 :: ls) (ai v :: st) h := by
  show wB CL L K Rt t r (pc + l) (lset (clr (w0 :: w1 :: w2 :: w3 :: w4 :: w5 :: w6 :: w7 :: w8 :: w9 :: w10 :: w11 :: w12 :: w13 :: ls) 13) 13 (some (ai v))) st h
  rw [clr_notL (ls := w0 :: w1 :: w2 :: w3 :: w4 :: w5 :: w6 :: w7 :: w8 :: w9 :: w10 :: w11 :: w12 :: w13 :: ls) (m := 12) hp]; exact k
theorem i_astore13 {w0 w1 w2 w3 w4 w5 w6 w7 w8 w9 w10 w11 w12 w13 : Option AV} {v : Option (Nat × Nat)} (hp : notL w12) (k : wB CL L K Rt t r (pc + l) (w0 :: w1 :: w2 :: w3 :: w4 :: w5 :: w6 :: w7 :: w8 :: w9 :: w10 :: w11 :: w12 :: some (.inr (.inr v)) :: ls) st h) : wB CL L K Rt t ((.astore 13, l, a, b, c) :: r) pc (w0 :: w1 :: w2 :: w3 :: w4 :: w5 :: w6 :: w7 :: w8 :: w9 :: w10 :: w11 :: w12 :: w13 :: ls) (.inr (.inr v) :: st) h := by
  show wB CL L K Rt t r (pc + l) (lset (clr (w0 :: w1 :: w2 :: w3 :: w4 :: w5 :: w6 :: w7 :: w8 :: w9 :: w10 :: w11 :: w12 :: w13 :: ls) 13) 13 (some (.inr (.inr v)))) st h
  rw [clr_notL (ls := w0 :: w1 :: w2 :: w3 :: w4 :: w5 :: w6 :: w7 :: w8 :: w9 :: w10 :: w11 :: w12 :: w13 :: ls) (m := 12) hp]; exact k
theorem i_lstore13 {w0 w1 w2 w3 w4 w5 w6 w7 w8 w9 w10 w11 w12 w13 w14 : Option AV} {v : Int64} (hp : notL w12) (k : wB CL L K Rt t r (pc + l) (w0 :: w1 :: w2 :: w3 :: w4 :: w5 :: w6 :: w7 :: w8 :: w9 :: w10 :: w11 :: w12 :: some (al v) :: none :: ls) st h) : wB CL L K Rt t ((.lstore 13, l, a, b, c) :: r) pc (w0 :: w1 :: w2 :: w3 :: w4 :: w5 :: w6 :: w7 :: w8 :: w9 :: w10 :: w11 :: w12 :: w13 :: w14 :: ls) (al v :: st) h := by
  show wB CL L K Rt t r (pc + l) (lset (lset (clr (w0 :: w1 :: w2 :: w3 :: w4 :: w5 :: w6 :: w7 :: w8 :: w9 :: w10 :: w11 :: w12 :: w13 :: w14 :: ls) 13) 13 (some (al v))) (13 + 1) none) st h
  rw [clr_notL (ls := w0 :: w1 :: w2 :: w3 :: w4 :: w5 :: w6 :: w7 :: w8 :: w9 :: w10 :: w11 :: w12 :: w13 :: w14 :: ls) (m := 12) hp]; exact k
theorem i_iinc13 {w0 w1 w2 w3 w4 w5 w6 w7 w8 w9 w10 w11 w12 : Option AV} {v : Int} (hp : notL w12) (hz : cst a b = I z) (k : wB CL L K Rt t r (pc + l) (w0 :: w1 :: w2 :: w3 :: w4 :: w5 :: w6 :: w7 :: w8 :: w9 :: w10 :: w11 :: w12 :: some (ai (I (x + z))) :: ls) st h) : wB CL L K Rt t ((.iinc 13 v, l, a, b, c) :: r) pc (w0 :: w1 :: w2 :: w3 :: w4 :: w5 :: w6 :: w7 :: w8 :: w9 :: w10 :: w11 :: w12 :: some (ai (I x)) :: ls) st h := by
  show wB CL L K Rt t r (pc + l) (lset (clr (w0 :: w1 :: w2 :: w3 :: w4 :: w5 :: w6 :: w7 :: w8 :: w9 :: w10 :: w11 :: w12 :: some (ai (I x)) :: ls) 13) 13 (some (ai (I x + cst a b)))) st h
  rw [clr_notL (ls := w0 :: w1 :: w2 :: w3 :: w4 :: w5 :: w6 :: w7 :: w8 :: w9 :: w10 :: w11 :: w12 :: some (ai (I x)) :: ls) (m := 12) hp, hz, I_add]; exact k
theorem i_istore14 {w0 w1 w2 w3 w4 w5 w6 w7 w8 w9 w10 w11 w12 w13 w14 : Option AV} {v : Int32} (hp : notL w13) (k : wB CL L K Rt t r (pc + l) (w0 :: w1 :: w2 :: w3 :: w4 :: w5 :: w6 :: w7 :: w8 :: w9 :: w10 :: w11 :: w12 :: w13 :: some (ai v) :: ls) st h) : wB CL L K Rt t ((.istore 14, l, a, b, c) :: r) pc (w0 :: w1 :: w2 :: w3 :: w4 :: w5 :: w6 :: w7 :: w8 :: w9 :: w10 :: w11 :: w12 :: w13 :: w14 :: ls) (ai v :: st) h := by
  show wB CL L K Rt t r (pc + l) (lset (clr (w0 :: w1 :: w2 :: w3 :: w4 :: w5 :: w6 :: w7 :: w8 :: w9 :: w10 :: w11 :: w12 :: w13 :: w14 :: ls) 14) 14 (some (ai v))) st h
  rw [clr_notL (ls := w0 :: w1 :: w2 :: w3 :: w4 :: w5 :: w6 :: w7 :: w8 :: w9 :: w10 :: w11 :: w12 :: w13 :: w14 :: ls) (m := 13) hp]; exact k
theorem i_astore14 {w0 w1 w2 w3 w4 w5 w6 w7 w8 w9 w10 w11 w12 w13 w14 : Option AV} {v : Option (Nat × Nat)} (hp : notL w13) (k : wB CL L K Rt t r (pc + l) (w0 :: w1 :: w2 :: w3 :: w4 :: w5 :: w6 :: w7 :: w8 :: w9 :: w10 :: w11 :: w12 :: w13 :: some (.inr (.inr v)) :: ls) st h) : wB CL L K Rt t ((.astore 14, l, a, b, c) :: r) pc (w0 :: w1 :: w2 :: w3 :: w4 :: w5 :: w6 :: w7 :: w8 :: w9 :: w10 :: w11 :: w12 :: w13 :: w14 :: ls) (.inr (.inr v) :: st) h := by
  show wB CL L K Rt t r (pc + l) (lset (clr (w0 :: w1 :: w2 :: w3 :: w4 :: w5 :: w6 :: w7 :: w8 :: w9 :: w10 :: w11 :: w12 :: w13 :: w14 :: ls) 14) 14 (some (.inr (.inr v)))) st h
  rw [clr_notL (ls := w0 :: w1 :: w2 :: w3 :: w4 :: w5 :: w6 :: w7 :: w8 :: w9 :: w10 :: w11 :: w12 :: w13 :: w14 :: ls) (m := 13) hp]; exact k
theorem i_lstore14 {w0 w1 w2 w3 w4 w5 w6 w7 w8 w9 w10 w11 w12 w13 w14 w15 : Option AV} {v : Int64} (hp : notL w13) (k : wB CL L K Rt t r (pc + l) (w0 :: w1 :: w2 :: w3 :: w4 :: w5 :: w6 :: w7 :: w8 :: w9 :: w10 :: w11 :: w12 :: w13 :: some (al v) :: none :: ls) st h) : wB CL L K Rt t ((.lstore 14, l, a, b, c) :: r) pc (w0 :: w1 :: w2 :: w3 :: w4 :: w5 :: w6 :: w7 :: w8 :: w9 :: w10 :: w11 :: w12 :: w13 :: w14 :: w15 :: ls) (al v :: st) h := by
  show wB CL L K Rt t r (pc + l) (lset (lset (clr (w0 :: w1 :: w2 :: w3 :: w4 :: w5 :: w6 :: w7 :: w8 :: w9 :: w10 :: w11 :: w12 :: w13 :: w14 :: w15 :: ls) 14) 14 (some (al v))) (14 + 1) none) st h
  rw [clr_notL (ls := w0 :: w1 :: w2 :: w3 :: w4 :: w5 :: w6 :: w7 :: w8 :: w9 :: w10 :: w11 :: w12 :: w13 :: w14 :: w15 :: ls) (m := 13) hp]; exact k
theorem i_iinc14 {w0 w1 w2 w3 w4 w5 w6 w7 w8 w9 w10 w11 w12 w13 : Option AV} {v : Int} (hp : notL w13) (hz : cst a b = I z) (k : wB CL L K Rt t r (pc + l) (w0 :: w1 :: w2 :: w3 :: w4 :: w5 :: w6 :: w7 :: w8 :: w9 :: w10 :: w11 :: w12 :: w13 :: some (ai (I (x + z))) :: ls) st h) : wB CL L K Rt t ((.iinc 14 v, l, a, b, c) :: r) pc (w0 :: w1 :: w2 :: w3 :: w4 :: w5 :: w6 :: w7 :: w8 :: w9 :: w10 :: w11 :: w12 :: w13 :: some (ai (I x)) :: ls) st h := by
  show wB CL L K Rt t r (pc + l) (lset (clr (w0 :: w1 :: w2 :: w3 :: w4 :: w5 :: w6 :: w7 :: w8 :: w9 :: w10 :: w11 :: w12 :: w13 :: some (ai (I x)) :: ls) 14) 14 (some (ai (I x + cst a b)))) st h
  rw [clr_notL (ls := w0 :: w1 :: w2 :: w3 :: w4 :: w5 :: w6 :: w7 :: w8 :: w9 :: w10 :: w11 :: w12 :: w13 :: some (ai (I x)) :: ls) (m := 13) hp, hz, I_add]; exact k
theorem i_istore15 {w0 w1 w2 w3 w4 w5 w6 w7 w8 w9 w10 w11 w12 w13 w14 w15 : Option AV} {v : Int32} (hp : notL w14) (k : wB CL L K Rt t r (pc + l) (w0 :: w1 :: w2 :: w3 :: w4 :: w5 :: w6 :: w7 :: w8 :: w9 :: w10 :: w11 :: w12 :: w13 :: w14 :: some (ai v) :: ls) st h) : wB CL L K Rt t ((.istore 15, l, a, b, c) :: r) pc (w0 :: w1 :: w2 :: w3 :: w4 :: w5 :: w6 :: w7 :: w8 :: w9 :: w10 :: w11 :: w12 :: w13 :: w14 :: w15 :: ls) (ai v :: st) h := by
  show wB CL L K Rt t r (pc + l) (lset (clr (w0 :: w1 :: w2 :: w3 :: w4 :: w5 :: w6 :: w7 :: w8 :: w9 :: w10 :: w11 :: w12 :: w13 :: w14 :: w15 :: ls) 15) 15 (some (ai v))) st h
  rw [clr_notL (ls := w0 :: w1 :: w2 :: w3 :: w4 :: w5 :: w6 :: w7 :: w8 :: w9 :: w10 :: w11 :: w12 :: w13 :: w14 :: w15 :: ls) (m := 14) hp]; exact k
theorem i_astore15 {w0 w1 w2 w3 w4 w5 w6 w7 w8 w9 w10 w11 w12 w13 w14 w15 : Option AV} {v : Option (Nat × Nat)} (hp : notL w14) (k : wB CL L K Rt t r (pc + l) (w0 :: w1 :: w2 :: w3 :: w4 :: w5 :: w6 :: w7 :: w8 :: w9 :: w10 :: w11 :: w12 :: w13 :: w14 :: some (.inr (.inr v)) :: ls) st h) : wB CL L K Rt t ((.astore 15, l, a, b, c) :: r) pc (w0 :: w1 :: w2 :: w3 :: w4 :: w5 :: w6 :: w7 :: w8 :: w9 :: w10 :: w11 :: w12 :: w13 :: w14 :: w15 :: ls) (.inr (.inr v) :: st) h := by
  show wB CL L K Rt t r (pc + l) (lset (clr (w0 :: w1 :: w2 :: w3 :: w4 :: w5 :: w6 :: w7 :: w8 :: w9 :: w10 :: w11 :: w12 :: w13 :: w14 :: w15 :: ls) 15) 15 (some (.inr (.inr v)))) st h
  rw [clr_notL (ls := w0 :: w1 :: w2 :: w3 :: w4 :: w5 :: w6 :: w7 :: w8 :: w9 :: w10 :: w11 :: w12 :: w13 :: w14 :: w15 :: ls) (m := 14) hp]; exact k
theorem i_lstore15 {w0 w1 w2 w3 w4 w5 w6 w7 w8 w9 w10 w11 w12 w13 w14 w15 w16 : Option AV} {v : Int64} (hp : notL w14) (k : wB CL L K Rt t r (pc + l) (w0 :: w1 :: w2 :: w3 :: w4 :: w5 :: w6 :: w7 :: w8 :: w9 :: w10 :: w11 :: w12 :: w13 :: w14 :: some (al v) :: none :: ls) st h) : wB CL L K Rt t ((.lstore 15, l, a, b, c) :: r) pc (w0 :: w1 :: w2 :: w3 :: w4 :: w5 :: w6 :: w7 :: w8 :: w9 :: w10 :: w11 :: w12 :: w13 :: w14 :: w15 :: w16 :: ls) (al v :: st) h := by
  show wB CL L K Rt t r (pc + l) (lset (lset (clr (w0 :: w1 :: w2 :: w3 :: w4 :: w5 :: w6 :: w7 :: w8 :: w9 :: w10 :: w11 :: w12 :: w13 :: w14 :: w15 :: w16 :: ls) 15) 15 (some (al v))) (15 + 1) none) st h
  rw [clr_notL (ls := w0 :: w1 :: w2 :: w3 :: w4 :: w5 :: w6 :: w7 :: w8 :: w9 :: w10 :: w11 :: w12 :: w13 :: w14 :: w15 :: w16 :: ls) (m := 14) hp]; exact k
theorem i_iinc15 {w0 w1 w2 w3 w4 w5 w6 w7 w8 w9 w10 w11 w12 w13 w14 : Option AV} {v : Int} (hp : notL w14) (hz : cst a b = I z) (k : wB CL L K Rt t r (pc + l) (w0 :: w1 :: w2 :: w3 :: w4 :: w5 :: w6 :: w7 :: w8 :: w9 :: w10 :: w11 :: w12 :: w13 :: w14 :: some (ai (I (x + z))) :: ls) st h) : wB CL L K Rt t ((.iinc 15 v, l, a, b, c) :: r) pc (w0 :: w1 :: w2 :: w3 :: w4 :: w5 :: w6 :: w7 :: w8 :: w9 :: w10 :: w11 :: w12 :: w13 :: w14 :: some (ai (I x)) :: ls) st h := by
  show wB CL L K Rt t r (pc + l) (lset (clr (w0 :: w1 :: w2 :: w3 :: w4 :: w5 :: w6 :: w7 :: w8 :: w9 :: w10 :: w11 :: w12 :: w13 :: w14 :: some (ai (I x)) :: ls) 15) 15 (some (ai (I x + cst a b)))) st h
  rw [clr_notL (ls := w0 :: w1 :: w2 :: w3 :: w4 :: w5 :: w6 :: w7 :: w8 :: w9 :: w10 :: w11 :: w12 :: w13 :: w14 :: some (ai (I x)) :: ls) (m := 14) hp, hz, I_add]; exact k
theorem i_istore16 {w0 w1 w2 w3 w4 w5 w6 w7 w8 w9 w10 w11 w12 w13 w14 w15 w16 : Option AV} {v : Int32} (hp : notL w15) (k : wB CL L K Rt t r (pc + l) (w0 :: w1 :: w2 :: w3 :: w4 :: w5 :: w6 :: w7 :: w8 :: w9 :: w10 :: w11 :: w12 :: w13 :: w14 :: w15 :: some (ai v) :: ls) st h) : wB CL L K Rt t ((.istore 16, l, a, b, c) :: r) pc (w0 :: w1 :: w2 :: w3 :: w4 :: w5 :: w6 :: w7 :: w8 :: w9 :: w10 :: w11 :: w12 :: w13 :: w14 :: w15 :: w16 :: ls) (ai v :: st) h := by
  show wB CL L K Rt t r (pc + l) (lset (clr (w0 :: w1 :: w2 :: w3 :: w4 :: w5 :: w6 :: w7 :: w8 :: w9 :: w10 :: w11 :: w12 :: w13 :: w14 :: w15 :: w16 :: ls) 16) 16 (some (ai v))) st h
  rw [clr_notL (ls := w0 :: w1 :: w2 :: w3 :: w4 :: w5 :: w6 :: w7 :: w8 :: w9 :: w10 :: w11 :: w12 :: w13 :: w14 :: w15 :: w16 :: ls) (m := 15) hp]; exact k
theorem i_astore16 {w0 w1 w2 w3 w4 w5 w6 w7 w8 w9 w10 w11 w12 w13 w14 w15 w16 : Option AV} {v : Option (Nat × Nat)} (hp : notL w15) (k : wB CL L K Rt t r (pc + l) (w0 :: w1 :: w2 :: w3 :: w4 :: w5 :: w6 :: w7 :: w8 :: w9 :: w10 :: w11 :: w12 :: w13 :: w14 :: w15 :: some (.inr (.inr v)) :: ls) st h) : wB CL L K Rt t ((.astore 16, l, a, b, c) :: r) pc (w0 :: w1 :: w2 :: w3 :: w4 :: w5 :: w6 :: w7 :: w8 :: w9 :: w10 :: w11 :: w12 :: w13 :: w14 :: w15 :: w16 :: ls) (.inr (.inr v) :: st) h := by
  show wB CL L K Rt t r (pc + l) (lset (clr (w0 :: w1 :: w2 :: w3 :: w4 :: w5 :: w6 :: w7 :: w8 :: w9 :: w10 :: w11 :: w12 :: w13 :: w14 :: w15 :: w16 :: ls) 16) 16 (some (.inr (.inr v)))) st h
  rw [clr_notL (ls := w0 :: w1 :: w2 :: w3 :: w4 :: w5 :: w6 :: w7 :: w8 :: w9 :: w10 :: w11 :: w12 :: w13 :: w14 :: w15 :: w16 :: ls) (m := 15) hp]; exact k
theorem i_lstore16 {w0 w1 w2 w3 w4 w5 w6 w7 w8 w9 w10 w11 w12 w13 w14 w15 w16 w17 : Option AV} {v : Int64} (hp : notL w15) (k : wB CL L K Rt t r (pc + l) (w0 :: w1 :: w2 :: w3 :: w4 :: w5 :: w6 :: w7 :: w8 :: w9 :: w10 :: w11 :: w12 :: w13 :: w14 :: w15 :: some (al v) :: none :: ls) st h) : wB CL L K Rt t ((.lstore 16, l, a, b, c) :: r) pc (w0 :: w1 :: w2 :: w3 :: w4 :: w5 :: w6 :: w7 :: w8 :: w9 :: w10 :: w11 :: w12 :: w13 :: w14 :: w15 :: w16 :: w17 :: ls) (al v :: st) h := by
  show wB CL L K Rt t r (pc + l) (lset (lset (clr (w0 :: w1 :: w2 :: w3 :: w4 :: w5 :: w6 :: w7 :: w8 :: w9 :: w10 :: w11 :: w12 :: w13 :: w14 :: w15 :: w16 :: w17 :: ls) 16) 16 (some (al v))) (16 + 1) none) st h
  rw [clr_notL (ls := w0 :: w1 :: w2 :: w3 :: w4 :: w5 :: w6 :: w7 :: w8 :: w9 :: w10 :: w11 :: w12 :: w13 :: w14 :: w15 :: w16 :: w17 :: ls) (m := 15) hp]; exact k
theorem i_iinc16 {w0 w1 w2 w3 w4 w5 w6 w7 w8 w9 w10 w11 w12 w13 w14 w15 : Option AV} {v : Int} (hp : notL w15) (hz : cst a b = I z) (k : wB CL L K Rt t r (pc + l) (w0 :: w1 :: w2 :: w3 :: w4 :: w5 :: w6 :: w7 :: w8 :: w9 :: w10 :: w11 :: w12 :: w13 :: w14 :: w15 :: some (ai (I (x + z))) :: ls) st h) : wB CL L K Rt t ((.iinc 16 v, l, a, b, c) :: r) pc (w0 :: w1 :: w2 :: w3 :: w4 :: w5 :: w6 :: w7 :: w8 :: w9 :: w10 :: w11 :: w12 :: w13 :: w14 :: w15 :: some (ai (I x)) :: ls) st h := by
  show wB CL L K Rt t r (pc + l) (lset (clr (w0 :: w1 :: w2 :: w3 :: w4 :: w5 :: w6 :: w7 :: w8 :: w9 :: w10 :: w11 :: w12 :: w13 :: w14 :: w15 :: some (ai (I x)) :: ls) 16) 16 (some (ai (I x + cst a b)))) st h
  rw [clr_notL (ls := w0 :: w1 :: w2 :: w3 :: w4 :: w5 :: w6 :: w7 :: w8 :: w9 :: w10 :: w11 :: w12 :: w13 :: w14 :: w15 :: some (ai (I x)) :: ls) (m := 15) hp, hz, I_add]; exact k
theorem i_istore17 {w0 w1 w2 w3 w4 w5 w6 w7 w8 w9 w10 w11 w12 w13 w14 w15 w16 w17 : Option AV} {v : Int32} (hp : notL w16) (k : wB CL L K Rt t r (pc + l) (w0 :: w1 :: w2 :: w3 :: w4 :: w5 :: w6 :: w7 :: w8 :: w9 :: w10 :: w11 :: w12 :: w13 :: w14 :: w15 :: w16 :: some (ai v) :: ls) st h) : wB CL L K Rt t ((.istore 17, l, a, b, c) :: r) pc (w0 :: w1 :: w2 :: w3 :: w4 :: w5 :: w6 :: w7 :: w8 :: w9 :: w10 :: w11 :: w12 :: w13 :: w14 :: w15 :: w16 :: w17 :: ls) (ai v :: st) h := by
  show wB CL L K Rt t r (pc + l) (lset (clr (w0 :: w1 :: w2 :: w3 :: w4 :: w5 :: w6 :: w7 :: w8 :: w9 :: w10 :: w11 :: w12 :: w13 :: w14 :: w15 :: w16 :: w17 :: ls) 17) 17 (some (ai v))) st h
  rw [clr_notL (ls := w0 :: w1 :: w2 :: w3 :: w4 :: w5 :: w6 :: w7 :: w8 :: w9 :: w10 :: w11 :: w12 :: w13 :: w14 :: w15 :: w16 :: w17 :: ls) (m := 16) hp]; exact k
theorem i_astore17 {w0 w1 w2 w3 w4 w5 w6 w7 w8 w9 w10 w11 w12 w13 w14 w15 w16 w17 : Option AV} {v : Option (Nat × Nat)} (hp : notL w16) (k : wB CL L K Rt t r (pc + l) (w0 :: w1 :: w2 :: w3 :: w4 :: w5 :: w6 :: w7 :: w8 :: w9 :: w10 :: w11 :: w12 :: w13 :: w14 :: w15 :: w16 :: some (.inr (.inr v)) :: ls) st h) : wB CL L K Rt t ((.astore 17, l, a, b, c) :: r) pc (w0 :: w1 :: w2 :: w3 :: w4 :: w5 :: w6 :: w7 :: w8 :: w9 :: w10 :: w11 :: w12 :: w13 :: w14 :: w15 :: w16 :: w17 :: ls) (.inr (.inr v) :: st) h := by
  show wB CL L K Rt t r (pc + l) (lset (clr (w0 :: w1 :: w2 :: w3 :: w4 :: w5 :: w6 :: w7 :: w8 :: w9 :: w10 :: w11 :: w12 :: w13 :: w14 :: w15 :: w16 :: w17 :: ls) 17) 17 (some (.inr (.inr v)))) st h
  rw [clr_notL (ls := w0 :: w1 :: w2 :: w3 :: w4 :: w5 :: w6 :: w7 :: w8 :: w9 :: w10 :: w11 :: w12 :: w13 :: w14 :: w15 :: w16 :: w17 :: ls) (m := 16) hp]; exact k
theorem i_lstore17 {w0 w1 w2 w3 w4 w5 w6 w7 w8 w9 w10 w11 w12 w13 w14 w15 w16 w17 w18 : Option AV} {v : Int64} (hp : notL w16) (k : wB CL L K Rt t r (pc + l) (w0 :: w1 :: w2 :: w3 :: w4 :: w5 :: w6 :: w7 :: w8 :: w9 :: w10 :: w11 :: w12 :: w13 :: w14 :: w15 :: w16 :: some (al v) :: none :: ls) st h) : wB CL L K Rt t ((.lstore 17, l, a, b, c) :: r) pc (w0 :: w1 :: w2 :: w3 :: w4 :: w5 :: w6 :: w7 :: w8 :: w9 :: w10 :: w11 :: w12 :: w13 :: w14 :: w15 :: w16 :: w17 :: w18 :: ls) (al v :: st) h := by
  show wB CL L K Rt t r (pc + l) (lset (lset (clr (w0 :: w1 :: w2 :: w3 :: w4 :: w5 :: w6 :: w7 :: w8 :: w9 :: w10 :: w11 :: w12 :: w13 :: w14 :: w15 :: w16 :: w17 :: w18 :: ls) 17) 17 (some (al v))) (17 + 1) none) st h
  rw [clr_notL (ls := w0 :: w1 :: w2 :: w3 :: w4 :: w5 :: w6 :: w7 :: w8 :: w9 :: w10 :: w11 :: w12 :: w13 :: w14 :: w15 :: w16 :: w17 :: w18 :: ls) (m := 16) hp]; exact k
theorem i_iinc17 {w0 w1 w2 w3 w4 w5 w6 w7 w8 w9 w10 w11 w12 w13 w14 w15 w16 : Option AV} {v : Int} (hp : notL w16) (hz : cst a b = I z) (k : wB CL L K Rt t r (pc + l) (w0 :: w1 :: w2 :: w3 :: w4 :: w5 :: w6 :: w7 :: w8 :: w9 :: w10 :: w11 :: w12 :: w13 :: w14 :: w15 :: w16 :: some (ai (I (x + z))) :: ls) st h) : wB CL L K Rt t ((.iinc 17 v, l, a, b, c) :: r) pc (w0 :: w1 :: w2 :: w3 :: w4 :: w5 :: w6 :: w7 :: w8 :: w9 :: w10 :: w11 :: w12 :: w13 :: w14 :: w15 :: w16 :: some (ai (I x)) :: ls) st h := by
  show wB CL L K Rt t r (pc + l) (lset (clr (w0 :: w1 :: w2 :: w3 :: w4 :: w5 :: w6 :: w7 :: w8 :: w9 :: w10 :: w11 :: w12 :: w13 :: w14 :: w15 :: w16 :: some (ai (I x)) :: ls) 17) 17 (some (ai (I x + cst a b)))) st h
  rw [clr_notL (ls := w0 :: w1 :: w2 :: w3 :: w4 :: w5 :: w6 :: w7 :: w8 :: w9 :: w10 :: w11 :: w12 :: w13 :: w14 :: w15 :: w16 :: some (ai (I x)) :: ls) (m := 16) hp, hz, I_add]; exact k
theorem i_istore18 {w0 w1 w2 w3 w4 w5 w6 w7 w8 w9 w10 w11 w12 w13 w14 w15 w16 w17 w18 : Option AV} {v : Int32} (hp : notL w17) (k : wB CL L K Rt t r (pc + l) (w0 :: w1 :: w2 :: w3 :: w4 :: w5 :: w6 :: w7 :: w8 :: w9 :: w10 :: w11 :: w12 :: w13 :: w14 :: w15 :: w16 :: w17 :: some (ai v) :: ls) st h) : wB CL L K Rt t ((.istore 18, l, a, b, c) :: r) pc (w0 :: w1 :: w2 :: w3 :: w4 :: w5 :: w6 :: w7 :: w8 :: w9 :: w10 :: w11 :: w12 :: w13 :: w14 :: w15 :: w16 :: w17 :: w18 :: ls) (ai v :: st) h := by
  show wB CL L K Rt t r (pc + l) (lset (clr (w0 :: w1 :: w2 :: w3 :: w4 :: w5 :: w6 :: w7 :: w8 :: w9 :: w10 :: w11 :: w12 :: w13 :: w14 :: w15 :: w16 :: w17 :: w18 :: ls) 18) 18 (some (ai v))) st h
  rw [clr_notL (ls := w0 :: w1 :: w2 :: w3 :: w4 :: w5 :: w6 :: w7 :: w8 :: w9 :: w10 :: w11 :: w12 :: w13 :: w14 :: w15 :: w16 :: w17 :: w18 :: ls) (m := 17) hp]; exact k
theorem i_astore18 {w0 w1 w2 w3 w4 w5 w6 w7 w8 w9 w10 w11 w12 w13 w14 w15 w16 w17 w18 : Option AV} {v : Option (Nat × Nat)} (hp : notL w17) (k : wB CL L K Rt t r (pc + l) (w0 :: w1 :: w2 :: w3 :: w4 :: w5 :: w6 :: w7 :: w8 :: w9 :: w10 :: w11 :: w12 :: w13 :: w14 :: w15 :: w16 :: w17 :: some (.inr (.inr v)) :: ls) st h) : wB CL L K Rt t ((.astore 18, l, a, b, c) :: r) pc (w0 :: w1 :: w2 :: w3 :: w4 :: w5 :: w6 :: w7 :: w8 :: w9 :: w10 :: w11 :: w12 :: w13 :: w14 :: w15 :: w16 :: w17 :: w18 :: ls) (.inr (.inr v) :: st) h := by
  show wB CL L K Rt t r (pc + l) (lset (clr (w0 :: w1 :: w2 :: w3 :: w4 :: w5 :: w6 :: w7 :: w8 :: w9 :: w10 :: w11 :: w12 :: w13 :: w14 :: w15 :: w16 :: w17 :: w18 :: ls) 18) 18 (some (.inr (.inr v)))) st h
  rw [clr_notL (ls := w0 :: w1 :: w2 :: w3 :: w4 :: w5 :: w6 :: w7 :: w8 :: w9 :: w10 :: w11 :: w12 :: w13 :: w14 :: w15 :: w16 :: w17 :: w18 :: ls) (m := 17) hp]; exact k
theorem i_lstore18 {w0 w1 w2 w3 w4 w5 w6 w7 w8 w9 w10 w11 w12 w13 w14 w15 w16 w17 w18 w19 : Option AV} {v : Int64} (hp : notL w17) (k : wB CL L K Rt t r (pc + l) (w0 :: w1 :: w2 :: w3 :: w4 :: w5 :: w6 :: w7 :: w8 :: w9 :: w10 :: w11 :: w12 :: w13 :: w14 :: w15 :: w16 :: w17 :: some (al v) :: none :: ls) st h) : wB CL L K Rt t ((.lstore 18, l, a, b, c) :: r) pc (w0 :: w1 :: w2 :: w3 :: w4 :: w5 :: w6 :: w7 :: w8 :: w9 :: w10 :: w11 :: w12 :: w13 :: w14 :: w15 :: w16 :: w17 :: w18 :: w19 :: ls) (al v :: st) h := by
  show wB CL L K Rt t r (pc + l) (lset (lset (clr (w0 :: w1 :: w2 :: w3 :: w4 :: w5 :: w6 :: w7 :: w8 :: w9 :: w10 :: w11 :: w12 :: w13 :: w14 :: w15 :: w16 :: w17 :: w18 :: w19 :: ls) 18) 18 (some (al v))) (18 + 1) none) st h
  rw [clr_notL (ls := w0 :: w1 :: w2 :: w3 :: w4 :: w5 :: w6 :: w7 :: w8 :: w9 :: w10 :: w11 :: w12 :: w13 :: w14 :: w15 :: w16 :: w17 :: w18 :: w19 :: ls) (m := 17) hp]; exact k
theorem i_iinc18 {w0 w1 w2 w3 w4 w5 w6 w7 w8 w9 w10 w11 w12 w13 w14 w15 w16 w17 : Option AV} {v : Int} (hp : notL w17) (hz : cst a b = I z) (k : wB CL L K Rt t r (pc + l) (w0 :: w1 :: w2 :: w3 :: w4 :: w5 :: w6 :: w7 :: w8 :: w9 :: w10 :: w11 :: w12 :: w13 :: w14 :: w15 :: w16 :: w17 :: some (ai (I (x + z))) :: ls) st h) : wB CL L K Rt t ((.iinc 18 v, l, a, b, c) :: r) pc (w0 :: w1 :: w2 :: w3 :: w4 :: w5 :: w6 :: w7 :: w8 :: w9 :: w10 :: w11 :: w12 :: w13 :: w14 :: w15 :: w16 :: w17 :: some (ai (I x)) :: ls) st h := by
  show wB CL L K Rt t r (pc + l) (lset (clr (w0 :: w1 :: w2 :: w3 :: w4 :: w5 :: w6 :: w7 :: w8 :: w9 :: w10 :: w11 :: w12 :: w13 :: w14 :: w15 :: w16 :: w17 :: some (ai (I x)) :: ls) 18) 18 (some (ai (I x + cst a b)))) st h
  rw [clr_notL (ls := w0 :: w1 :: w2 :: w3 :: w4 :: w5 :: w6 :: w7 :: w8 :: w9 :: w10 :: w11 :: w12 :: w13 :: w14 :: w15 :: w16 :: w17 :: some (ai (I x)) :: ls) (m := 17) hp, hz, I_add]; exact k
theorem i_istore19 {w0 w1 w2 w3 w4 w5 w6 w7 w8 w9 w10 w11 w12 w13 w14 w15 w16 w17 w18 w19 : Option AV} {v : Int32} (hp : notL w18) (k : wB CL L K Rt t r (pc + l) (w0 :: w1 :: w2 :: w3 :: w4 :: w5 :: w6 :: w7 :: w8 :: w9 :: w10 :: w11 :: w12 :: w13 :: w14 :: w15 :: w16 :: w17 :: w18 :: some (ai v) :: ls) st h) : wB CL L K Rt t ((.istore 19, l, a, b, c) :: r) pc (w0 :: w1 :: w2 :: w3 :: w4 :: w5 :: w6 :: w7 :: w8 :: w9 :: w10 :: w11 :: w12 :: w13 :: w14 :: w15 :: w16 :: w17 :: w18 :: w19 :: ls) (ai v :: st) h := by
  show wB CL L K Rt t r (pc + l) (lset (clr (w0 :: w1 :: w2 :: w3 :: w4 :: w5 :: w6 :: w7 :: w8 :: w9 :: w10 :: w11 :: w12 :: w13 :: w14 :: w15 :: w16 :: w17 :: w18 :: w19 :: ls) 19) 19 (some (ai v))) st h
  rw [clr_notL (ls := w0 :: w1 :: w2 :: w3 :: w4 :: w5 :: w6 :: w7 :: w8 :: w9 :: w10 :: w11 :: w12 :: w13 :: w14 :: w15 :: w16 :: w17 :: w18 :: w19 :: ls) (m := 18) hp]; exact k
theorem i_astore19 {w0 w1 w2 w3 w4 w5 w6 w7 w8 w9 w10 w11 w12 w13 w14 w15 w16 w17 w18 w19 : Option AV} {v : Option (Nat × Nat)} (hp : notL w18) (k : wB CL L K Rt t r (pc + l) (w0 :: w1 :: w2 :: w3 :: w4 :: w5 :: w6 :: w7 :: w8 :: w9 :: w10 :: w11 :: w12 :: w13 :: w14 :: w15 :: w16 :: w17 :: w18 :: some (.inr (.inr v)) :: ls) st h) : wB CL L K Rt t ((.astore 19, l, a, b, c) :: r) pc (w0 :: w1 :: w2 :: w3 :: w4 :: w5 :: w6 :: w7 :: w8 :: w9 :: w10 :: w11 :: w12 :: w13 :: w14 :: w15 :: w16 :: w17 :: w18 :: w19 :: ls) (.inr (.inr v) :: st) h := by
  show wB CL L K Rt t r (pc + l) (lset (clr (w0 :: w1 :: w2 :: w3 :: w4 :: w5 :: w6 :: w7 :: w8 :: w9 :: w10 :: w11 :: w12 :: w13 :: w14 :: w15 :: w16 :: w17 :: w18 :: w19 :: ls) 19) 19 (some (.inr (.inr v)))) st h
  rw [clr_notL (ls := w0 :: w1 :: w2 :: w3 :: w4 :: w5 :: w6 :: w7 :: w8 :: w9 :: w10 :: w11 :: w12 :: w13 :: w14 :: w15 :: w16 :: w17 :: w18 :: w19 :: ls) (m := 18) hp]; exact k
theorem i_lstore19 {w0 w1 w2 w3 w4 w5 w6 w7 w8 w9 w10 w11 w12 w13 w14 w15 w16 w17 w18 w19 w20 : Option AV} {v : Int64} (hp : notL w18) (k : wB CL L K Rt t r (pc + l) (w0 :: w1 :: w2 :: w3 :: w4 :: w5 :: w6 :: w7 :: w8 :: w9 :: w10 :: w11 :: w12 :: w13 :: w14 :: w15 :: w16 :: w17 :: w18 :: some (al v) :: none :: ls) st h) : wB CL L K Rt t ((.lstore 19, l, a, b, c) :: r) pc (w0 :: w1 :: w2 :: w3 :: w4 :: w5 :: w6 :: w7 :: w8 :: w9 :: w10 :: w11 :: w12 :: w13 :: w14 :: w15 :: w16 :: w17 :: w18 :: w19 :: w20 :: ls) (al v :: st) h := by
  show wB CL L K Rt t r (pc + l) (lset (lset (clr (w0 :: w1 :: w2 :: w3 :: w4 :: w5 :: w6 :: w7 :: w8 :: w9 :: w10 :: w11 :: w12 :: w13 :: w14 :: w15 :: w16 :: w17 :: w18 :: w19 :: w20 :: ls) 19) 19 (some (al v))) (19 + 1) none) st h
  rw [clr_notL (ls := w0 :: w1 :: w2 :: w3 :: w4 :: w5 :: w6 :: w7 :: w8 :: w9 :: w10 :: w11 :: w12 :: w13 :: w14 :: w15 :: w16 :: w17 :: w18 :: w19 :: w20 :: ls) (m := 18) hp]; exact k
theorem i_iinc19 {w0 w1 w2 w3 w4 w5 w6 w7 w8 w9 w10 w11 w12 w13 w14 w15 w16 w17 w18 : Option AV} {v : Int} (hp : notL w18) (hz : cst a b = I z) (k : wB CL L K Rt t r (pc + l) (w0 :: w1 :: w2 :: w3 :: w4 :: w5 :: w6 :: w7 :: w8 :: w9 :: w10 :: w11 :: w12 :: w13 :: w14 :: w15 :: w16 :: w17 :: w18 :: some (ai (I (x + z))) :: ls) st h) : wB CL L K Rt t ((.iinc 19 v, l, a, b, c) :: r) pc (w0 :: w1 :: w2 :: w3 :: w4 :: w5 :: w6 :: w7 :: w8 :: w9 :: w10 :: w11 :: w12 :: w13 :: w14 :: w15 :: w16 :: w17 :: w18 :: some (ai (I x)) :: ls) st h := by
  show wB CL L K Rt t r (pc + l) (lset (clr (w0 :: w1 :: w2 :: w3 :: w4 :: w5 :: w6 :: w7 :: w8 :: w9 :: w10 :: w11 :: w12 :: w13 :: w14 :: w15 :: w16 :: w17 :: w18 :: some (ai (I x)) :: ls) 19) 19 (some (ai (I x + cst a b)))) st h
  rw [clr_notL (ls := w0 :: w1 :: w2 :: w3 :: w4 :: w5 :: w6 :: w7 :: w8 :: w9 :: w10 :: w11 :: w12 :: w13 :: w14 :: w15 :: w16 :: w17 :: w18 :: some (ai (I x)) :: ls) (m := 18) hp, hz, I_add]; exact k
theorem i_istore20 {w0 w1 w2 w3 w4 w5 w6 w7 w8 w9 w10 w11 w12 w13 w14 w15 w16 w17 w18 w19 w20 : Option AV} {v : Int32} (hp : notL w19) (k : wB CL L K Rt t r (pc + l) (w0 :: w1 :: w2 :: w3 :: w4 :: w5 :: w6 :: w7 :: w8 :: w9 :: w10 :: w11 :: w12 :: w13 :: w14 :: w15 :: w16 :: w17 :: w18 :: w19 :: some (ai v) :: ls) st h) : wB CL L K Rt t ((.istore 20, l, a, b, c) :: r) pc (w0 :: w1 :: w2 :: w3 :: w4 :: w5 :: w6 :: w7 :: w8 :: w9 :: w10 :: w11 :: w12 :: w13 :: w14 :: w15 :: w16 :: w17 :: w18 :: w19 :: w20 :: ls) (ai v :: st) h := by
  show wB CL L K Rt t r (pc + l) (lset (clr (w0 :: w1 :: w2 :: w3 :: w4 :: w5 :: w6 :: w7 :: w8 :: w9 :: w10 :: w11 :: w12 :: w13 :: w14 :: w15 :: w16 :: w17 :: w18 :: w19 :: w20 :: ls) 20) 20 (some (ai v))) st h
  rw [clr_notL (ls := w0 :: w1 :: w2 :: w3 :: w4 :: w5 :: w6 :: w7 :: w8 :: w9 :: w10 :: w11 :: w12 :: w13 :: w14 :: w15 :: w16 :: w17 :: w18 :: w19 :: w20 :: ls) (m := 19) hp]; exact k
theorem i_astore20 {w0 w1 w2 w3 w4 w5 w6 w7 w8 w9 w10 w11 w12 w13 w14 w15 w16 w17 w18 w19 w20 : Option AV} {v : Option (Nat × Nat)} (hp : notL w19) (k : wB CL L K Rt t r (pc + l) (w0 :: w1 :: w2 :: w3 :: w4 :: w5 :: w6 :: w7 :: w8 :: w9 :: w10 :: w11 :: w12 :: w13 :: w14 :: w15 :: w16 :: w17 :: w18 :: w19 :: some (.inr (.inr v)) :: ls) st h) : wB CL L K Rt t ((.astore 20, l, a, b, c) :: r) pc (w0 :: w1 :: w2 :: w3 :: w4 :: w5 :: w6 :: w7 :: w8 :: w9 :: w10 :: w11 :: w12 :: w13 :: w14 :: w15 :: w16 :: w17 :: w18 :: w19 :: w20 :: ls) (.inr (.inr v) :: st) h := by
  show wB CL L K Rt t r (pc + l) (lset (clr (w0 :: w1 :: w2 :: w3 :: w4 :: w5 :: w6 :: w7 :: w8 :: w9 :: w10 :: w11 :: w12 :: w13 :: w14 :: w15 :: w16 :: w17 :: w18 :: w19 :: w20 :: ls) 20) 20 (some (.inr (.inr v)))) st h
  rw [clr_notL (ls := w0 :: w1 :: w2 :: w3 :: w4 :: w5 :: w6 :: w7 :: w8 :: w9 :: w10 :: w11 :: w12 :: w13 :: w14 :: w15 :: w16 :: w17 :: w18 :: w19 :: w20 :: ls) (m := 19) hp]; exact k
theorem i_lstore20 {w0 w1 w2 w3 w4 w5 w6 w7 w8 w9 w10 w11 w12 w13 w14 w15 w16 w17 w18 w19 w20 w21 : Option AV} {v : Int64} (hp : notL w19) (k : wB CL L K Rt t r (pc + l) (w0 :: w1 :: w2 :: w3 :: w4 :: w5 :: w6 :: w7 :: w8 :: w9 :: w10 :: w11 :: w12 :: w13 :: w14 :: w15 :: w16 :: w17 :: w18 :: w19 :: some (al v) :: none :: ls) st h) : wB CL L K Rt t ((.lstore 20, l, a, b, c) :: r) pc (w0 :: w1 :: w2 :: w3 :: w4 :: w5 :: w6 :: w7 :: w8 :: w9 :: w10 :: w11 :: w12 :: w13 :: w14 :: w15 :: w16 :: w17 :: w18 :: w19 :: w20 :: w21 :: ls) (al v :: st) h := by
  show wB CL L K Rt t r (pc + l) (lset (lset (clr (w0 :: w1 :: w2 :: w3 :: w4 :: w5 :: w6 :: w7 :: w8 :: w9 :: w10 :: w11 :: w12 :: w13 :: w14 :: w15 :: w16 :: w17 :: w18 :: w19 :: w20 :: w21 :: ls) 20) 20 (some (al v))) (20 + 1) none) st h
  rw [clr_notL (ls := w0 :: w1 :: w2 :: w3 :: w4 :: w5 :: w6 :: w7 :: w8 :: w9 :: w10 :: w11 :: w12 :: w13 :: w14 :: w15 :: w16 :: w17 :: w18 :: w19 :: w20 :: w21 :: ls) (m := 19) hp]; exact k
theorem i_iinc20 {w0 w1 w2 w3 w4 w5 w6 w7 w8 w9 w10 w11 w12 w13 w14 w15 w16 w17 w18 w19 : Option AV} {v : Int} (hp : notL w19) (hz : cst a b = I z) (k : wB CL L K Rt t r (pc + l) (w0 :: w1 :: w2 :: w3 :: w4 :: w5 :: w6 :: w7 :: w8 :: w9 :: w10 :: w11 :: w12 :: w13 :: w14 :: w15 :: w16 :: w17 :: w18 :: w19 :: some (ai (I (x + z))) :: ls) st h) : wB CL L K Rt t ((.iinc 20 v, l, a, b, c) :: r) pc (w0 :: w1 :: w2 :: w3 :: w4 :: w5 :: w6 :: w7 :: w8 :: w9 :: w10 :: w11 :: w12 :: w13 :: w14 :: w15 :: w16 :: w17 :: w18 :: w19 :: some (ai (I x)) :: ls) st h := by
  show wB CL L K Rt t r (pc + l) (lset (clr (w0 :: w1 :: w2 :: w3 :: w4 :: w5 :: w6 :: w7 :: w8 :: w9 :: w10 :: w11 :: w12 :: w13 :: w14 :: w15 :: w16 :: w17 :: w18 :: w19 :: some (ai (I x)) :: ls) 20) 20 (some (ai (I x + cst a b)))) st h
  rw [clr_notL (ls := w0 :: w1 :: w2 :: w3 :: w4 :: w5 :: w6 :: w7 :: w8 :: w9 :: w10 :: w11 :: w12 :: w13 :: w14 :: w15 :: w16 :: w17 :: w18 :: w19 :: some (ai (I x)) :: ls) (m := 19) hp, hz, I_add]; exact k
theorem i_istore21 {w0 w1 w2 w3 w4 w5 w6 w7 w8 w9 w10 w11 w12 w13 w14 w15 w16 w17 w18 w19 w20 w21 : Option AV} {v : Int32} (hp : notL w20) (k : wB CL L K Rt t r (pc + l) (w0 :: w1 :: w2 :: w3 :: w4 :: w5 :: w6 :: w7 :: w8 :: w9 :: w10 :: w11 :: w12 :: w13 :: w14 :: w15 :: w16 :: w17 :: w18 :: w19 :: w20 :: some (ai v) :: ls) st h) : wB CL L K Rt t ((.istore 21, l, a, b, c) :: r) pc (w0 :: w1 :: w2 :: w3 :: w4 :: w5 :: w6 :: w7 :: w8 :: w9 :: w10 :: w11 :: w12 :: w13 :: w14 :: w15 :: w16 :: w17 :: w18 :: w19 :: w20 :: w21 :: ls) (ai v :: st) h := by
  show wB CL L K Rt t r (pc + l) (lset (clr (w0 :: w1 :: w2 :: w3 :: w4 :: w5 :: w6 :: w7 :: w8 :: w9 :: w10 :: w11 :: w12 :: w13 :: w14 :: w15 :: w16 :: w17 :: w18 :: w19 :: w20 :: w21 :: ls) 21) 21 (some (ai v))) st h
  rw [clr_notL (ls := w0 :: w1 :: w2 :: w3 :: w4 :: w5 :: w6 :: w7 :: w8 :: w9 :: w10 :: w11 :: w12 :: w13 :: w14 :: w15 :: w16 :: w17 :: w18 :: w19 :: w20 :: w21 :: ls) (m := 20) hp]; exact k
theorem i_astore21 {w0 w1 w2 w3 w4 w5 w6 w7 w8 w9 w10 w11 w12 w13 w14 w15 w16 w17 w18 w19 w20 w21 : Option AV} {v : Option (Nat × Nat)} (hp : notL w20) (k : wB CL L K Rt t r (pc + l) (w0 :: w1 :: w2 :: w3 :: w4 :: w5 :: w6 :: w7 :: w8 :: w9 :: w10 :: w11 :: w12 :: w13 :: w14 :: w15 :: w16 :: w17 :: w18 :: w19 :: w20 :: some (.inr (.inr v)) :: ls) st h) : wB CL L K Rt t ((.astore 21, l, a, b, c) :: r) pc (w0 :: w1 :: w2 :: w3 :: w4 :: w5 :: w6 :: w7 :: w8 :: w9 :: w10 :: w11 :: w12 :: w13 :: w14 :: w15 :: w16 :: w17 :: w18 :: w19 :: w20 :: w21 :: ls) (.inr (.inr v) :: st) h := by
  show wB CL L K Rt t r (pc + l) (lset (clr (w0 :: w1 :: w2 :: w3 :: w4 :: w5 :: w6 :: w7 :: w8 :: w9 :: w10 :: w11 :: w12 :: w13 :: w14 :: w15 :: w16 :: w17 :: w18 :: w19 :: w20 :: w21 :: ls) 21) 21 (some (.inr (.inr v)))) st h
  rw [clr_notL (ls := w0 :: w1 :: w2 :: w3 :: w4 :: w5 :: w6 :: w7 :: w8 :: w9 :: w10 :: w11 :: w12 :: w13 :: w14 :: w15 :: w16 :: w17 :: w18 :: w19 :: w20 :: w21 :: ls) (m := 20) hp]; exact k
theorem i_lstore21 {w0 w1 w2 w3 w4 w5 w6 w7 w8 w9 w10 w11 w12 w13 w14 w15 w16 w17 w18 w19 w20 w21 w22 : Option AV} {v : Int64} (hp : notL w20) (k : wB CL L K Rt t r (pc + l) (w0 :: w1 :: w2 :: w3 :: w4 :: w5 :: w6 :: w7 :: w8 :: w9 :: w10 :: w11 :: w12 :: w13 :: w14 :: w15 :: w16 :: w17 :: w18 :: w19 :: w20 :: some (al v) :: none :: ls) st h) : wB CL L K Rt t ((.lstore 21, l, a, b, c) :: r) pc (w0 :: w1 :: w2 :: w3 :: w4 :: w5 :: w6 :: w7 :: w8 :: w9 :: w10 :: w11 :: w12 :: w13 :: w14 :: w15 :: w16 :: w17 :: w18 :: w19 :: w20 :: w21 :: w22 :: ls) (al v :: st) h := by
  show wB CL L K Rt t r (pc + l) (lset (lset (clr (w0 :: w1 :: w2 :: w3 :: w4 :: w5 :: w6 :: w7 :: w8 :: w9 :: w10 :: w11 :: w12 :: w13 :: w14 :: w15 :: w16 :: w17 :: w18 :: w19 :: w20 :: w21 :: w22 :: ls) 21) 21 (some (al v))) (21 + 1) none) st h
  rw [clr_notL (ls := w0 :: w1 :: w2 :: w3 :: w4 :: w5 :: w6 :: w7 :: w8 :: w9 :: w10 :: w11 :: w12 :: w13 :: w14 :: w15 :: w16 :: w17 :: w18 :: w19 :: w20 :: w21 :: w22 :: ls) (m := 20) hp]; exact k
theorem i_iinc21 {w0 w1 w2 w3 w4 w5 w6 w7 w8 w9 w10 w11 w12 w13 w14 w15 w16 w17 w18 w19 w20 : Option AV} {v : Int} (hp : notL w20) (hz : cst a b = I z) (k : wB CL L K Rt t r (pc + l) (w0 :: w1 :: w2 :: w3 :: w4 :: w5 :: w6 :: w7 :: w8 :: w9 :: w10 :: w11 :: w12 :: w13 :: w14 :: w15 :: w16 :: w17 :: w18 :: w19 :: w20 :: some (ai (I (x + z))) :: ls) st h) : wB CL L K Rt t ((.iinc 21 v, l, a, b, c) :: r) pc (w0 :: w1 :: w2 :: w3 :: w4 :: w5 :: w6 :: w7 :: w8 :: w9 :: w10 :: w11 :: w12 :: w13 :: w14 :: w15 :: w16 :: w17 :: w18 :: w19 :: w20 :: some (ai (I x)) :: ls) st h := by
  show wB CL L K Rt t r (pc + l) (lset (clr (w0 :: w1 :: w2 :: w3 :: w4 :: w5 :: w6 :: w7 :: w8 :: w9 :: w10 :: w11 :: w12 :: w13 :: w14 :: w15 :: w16 :: w17 :: w18 :: w19 :: w20 :: some (ai (I x)) :: ls) 21) 21 (some (ai (I x + cst a b)))) st h
  rw [clr_notL (ls := w0 :: w1 :: w2 :: w3 :: w4 :: w5 :: w6 :: w7 :: w8 :: w9 :: w10 :: w11 :: w12 :: w13 :: w14 :: w15 :: w16 :: w17 :: w18 :: w19 :: w20 :: some (ai (I x)) :: ls) (m := 20) hp, hz, I_add]; exact k
theorem i_istore22 {w0 w1 w2 w3 w4 w5 w6 w7 w8 w9 w10 w11 w12 w13 w14 w15 w16 w17 w18 w19 w20 w21 w22 : Option AV} {v : Int32} (hp : notL w21) (k : wB CL L K Rt t r (pc + l) (w0 :: w1 :: w2 :: w3 :: w4 :: w5 :: w6 :: w7 :: w8 :: w9 :: w10 :: w11 :: w12 :: w13 :: w14 :: w15 :: w16 :: w17 :: w18 :: w19 :: w20 :: w21 :: some (ai v) :: ls) st h) : wB CL L K Rt t ((.istore 22, l, a, b, c) :: r) pc (w0 :: w1 :: w2 :: w3 :: w4 :: w5 :: w6 :: w7 :: w8 :: w9 :: w10 :: w11 :: w12 :: w13 :: w14 :: w15 :: w16 :: w17 :: w18 :: w19 :: w20 :: w21 :: w22 :: ls) (ai v :: st) h := by
  show wB CL L K Rt t r (pc + l) (lset (clr (w0 :: w1 :: w2 :: w3 :: w4 :: w5 :: w6 :: w7 :: w8 :: w9 :: w10 :: w11 :: w12 :: w13 :: w14 :: w15 :: w16 :: w17 :: w18 :: w19 :: w20 :: w21 :: w22 :: ls) 22) 22 (some (ai v))) st h
  rw [clr_notL (ls := w0 :: w1 :: w2 :: w3 :: w4 :: w5 :: w6 :: w7 :: w8 :: w9 :: w10 :: w11 :: w12 :: w13 :: w14 :: w15 :: w16 :: w17 :: w18 :: w19 :: w20 :: w21 :: w22 :: ls) (m := 21) hp]; exact k
theorem i_astore22 {w0 w1 w2 w3 w4 w5 w6 w7 w8 w9 w10 w11 w12 w13 w14 w15 w16 w17 w18 w19 w20 w21 w22 : Option AV} {v : Option (Nat × Nat)} (hp : notL w21) (k : wB CL L K Rt t r (pc + l) (w0 :: w1 :: w2 :: w3 :: w4 :: w5 :: w6 :: w7 :: w8 :: w9 :: w10 :: w11 :: w12 :: w13 :: w14 :: w15 :: w16 :: w17 :: w18 :: w19 :: w20 :: w21 :: some (.inr (.inr v)) :: ls) st h) : wB CL L K Rt t ((.astore 22, l, a, b, c) :: r) pc (w0 :: w1 :: w2 :: w3 :: w4 :: w5 :: w6 :: w7 :: w8 :: w9 :: w10 :: w11 :: w12 :: w13 :: w14 :: w15 :: w16 :: w17 :: w18 :: w19 :: w20 :: w21 :: w22 :: ls) (.inr (.inr v) :: st) h := by
  show wB CL L K Rt t r (pc + l) (lset (clr (w0 :: w1 :: w2 :: w3 :: w4 :: w5 :: w6 :: w7 :: w8 :: w9 :: w10 :: w11 :: w12 :: w13 :: w14 :: w15 :: w16 :: w17 :: w18 :: w19 :: w20 :: w21 :: w22 :: ls) 22) 22 (some (.inr (.inr v)))) st h
  rw [clr_notL (ls := w0 :: w1 :: w2 :: w3 :: w4 :: w5 :: w6 :: w7 :: w8 :: w9 :: w10 :: w11 :: w12 :: w13 :: w14 :: w15 :: w16 :: w17 :: w18 :: w19 :: w20 :: w21 :: w22 :: ls) (m := 21) hp]; exact k
theorem i_lstore22 {w0 w1 w2 w3 w4 w5 w6 w7 w8 w9 w10 w11 w12 w13 w14 w15 w16 w17 w18 w19 w20 w21 w22 w23 : Option AV} {v : Int64} (hp : notL w21) (k : wB CL L K Rt t r (pc + l) (w0 :: w1 :: w2 :: w3 :: w4 :: w5 :: w6 :: w7 :: w8 :: w9 :: w10 :: w11 :: w12 :: w13 :: w14 :: w15 :: w16 :: w17 :: w18 :: w19 :: w20 :: w21 :: some (al v) :: none :: ls) st h) : wB CL L K Rt t ((.lstore 22, l, a, b, c) :: r) pc (w0 :: w1 :: w2 :: w3 :: w4 :: w5 :: w6 :: w7 :: w8 :: w9 :: w10 :: w11 :: w12 :: w13 :: w14 :: w15 :: w16 :: w17 :: w18 :: w19 :: w20 :: w21 :: w22 :: w23 :: ls) (al v :: st) h := by
  show wB CL L K Rt t r (pc + l) (lset (lset (clr (w0 :: w1 :: w2 :: w3 :: w4 :: w5 :: w6 :: w7 :: w8 :: w9 :: w10 :: w11 :: w12 :: w13 :: w14 :: w15 :: w16 :: w17 :: w18 :: w19 :: w20 :: w21 :: w22 :: w23 :: ls) 22) 22 (some (al v))) (22 + 1) none) st h
  rw [clr_notL (ls := w0 :: w1 :: w2 :: w3 :: w4 :: w5 :: w6 :: w7 :: w8 :: w9 :: w10 :: w11 :: w12 :: w13 :: w14 :: w15 :: w16 :: w17 :: w18 :: w19 :: w20 :: w21 :: w22 :: w23 :: ls) (m := 21) hp]; exact k
theorem i_iinc22 {w0 w1 w2 w3 w4 w5 w6 w7 w8 w9 w10 w11 w12 w13 w14 w15 w16 w17 w18 w19 w20 w21 : Option AV} {v : Int} (hp : notL w21) (hz : cst a b = I z) (k : wB CL L K Rt t r (pc + l) (w0 :: w1 :: w2 :: w3 :: w4 :: w5 :: w6 :: w7 :: w8 :: w9 :: w10 :: w11 :: w12 :: w13 :: w14 :: w15 :: w16 :: w17 :: w18 :: w19 :: w20 :: w21 :: some (ai (I (x + z))) :: ls) st h) : wB CL L K Rt t ((.iinc 22 v, l, a, b, c) :: r) pc (w0 :: w1 :: w2 :: w3 :: w4 :: w5 :: w6 :: w7 :: w8 :: w9 :: w10 :: w11 :: w12 :: w13 :: w14 :: w15 :: w16 :: w17 :: w18 :: w19 :: w20 :: w21 :: some (ai (I x)) :: ls) st h := by
  show wB CL L K Rt t r (pc + l) (lset (clr (w0 :: w1 :: w2 :: w3 :: w4 :: w5 :: w6 :: w7 :: w8 :: w9 :: w10 :: w11 :: w12 :: w13 :: w14 :: w15 :: w16 :: w17 :: w18 :: w19 :: w20 :: w21 :: some (ai (I x)) :: ls) 22) 22 (some (ai (I x + cst a b)))) st h
  rw [clr_notL (ls := w0 :: w1 :: w2 :: w3 :: w4 :: w5 :: w6 :: w7 :: w8 :: w9 :: w10 :: w11 :: w12 :: w13 :: w14 :: w15 :: w16 :: w17 :: w18 :: w19 :: w20 :: w21 :: some (ai (I x)) :: ls) (m := 21) hp, hz, I_add]; exact k
/-! last instructions -/
variable {q q1 q2 : Nat} {o : Int} {fr : List AV}
theorem t_none (k : K pc ls st h) : wB CL L K Rt none [] pc ls st h := k
theorem t_goto (q : Nat) (hq : tgt pc o = q) (k : K q ls st h) : wB CL L K Rt (some (.goto o, l, a, b, c)) [] pc ls st h := by subst hq; exact k
theorem br {P P' : Prop} {A A' B B' : Prop} (e : P ↔ P') (k1 : P' → A) (k2 : ¬ P' → B) (e1 : A = A') (e2 : B = B') : (P → A') ∧ (¬ P → B') := by
  subst e1; subst e2
  exact ⟨fun z => k1 (e.mp z), fun z => k2 (fun w => z (e.mpr w))⟩
theorem t_ic_eq (q1 q2 : Nat) (h1 : tgt pc o = q1) (h2 : pc + 3 = q2) (hx : inR x) (hy : inR y) (k1 : x = y → K q1 ls st h) (k2 : ¬ (x = y) → K q2 ls st h) : wB CL L K Rt (some (.if_icmp .eq o, l, a, b, c)) [] pc ls (ai (I y) :: ai (I x) :: st) h := by
  subst h1; subst h2
  exact br (I_inj hx hy) k1 k2 rfl rfl
theorem t_if_eq (q1 q2 : Nat) (h1 : tgt pc o = q1) (h2 : pc + 3 = q2) (hx : inR x) (k1 : x = 0 → K q1 ls st h) (k2 : ¬ (x = 0) → K q2 ls st h) : wB CL L K Rt (some (.ifCond .eq o, l, a, b, c)) [] pc ls (ai (I x) :: st) h := by
  subst h1; subst h2
  have hy : inR 0 := ⟨by omega, by omega⟩
  exact br (I_inj hx hy) k1 k2 rfl rfl
theorem t_ic_ne (q1 q2 : Nat) (h1 : tgt pc o = q1) (h2 : pc + 3 = q2) (hx : inR x) (hy : inR y) (k1 : ¬ x = y → K q1 ls st h) (k2 : x = y → K q2 ls st h) : wB CL L K Rt (some (.if_icmp .ne o, l, a, b, c)) [] pc ls (ai (I y) :: ai (I x) :: st) h := by
  subst h1; subst h2
  exact br (not_congr (I_inj hx hy)) k1 (fun z => k2 (Classical.byContradiction z)) rfl rfl
theorem t_if_ne (q1 q2 : Nat) (h1 : tgt pc o = q1) (h2 : pc + 3 = q2) (hx : inR x) (k1 : ¬ x = 0 → K q1 ls st h) (k2 : x = 0 → K q2 ls st h) : wB CL L K Rt (some (.ifCond .ne o, l, a, b, c)) [] pc ls (ai (I x) :: st) h := by
  subst h1; subst h2
  have hy : inR 0 := ⟨by omega, by omega⟩
  exact br (not_congr (I_inj hx hy)) k1 (fun z => k2 (Classical.byContradiction z)) rfl rfl
theorem t_ic_lt (q1 q2 : Nat) (h1 : tgt pc o = q1) (h2 : pc + 3 = q2) (hx : inR x) (hy : inR y) (k1 : x < y → K q1 ls st h) (k2 : ¬ (x < y) → K q2 ls st h) : wB CL L K Rt (some (.if_icmp .lt o, l, a, b, c)) [] pc ls (ai (I y) :: ai (I x) :: st) h := by
  subst h1; subst h2
  exact br (I_lt hx hy) k1 k2 rfl rfl
theorem t_if_lt (q1 q2 : Nat) (h1 : tgt pc o = q1) (h2 : pc + 3 = q2) (hx : inR x) (k1 : x < 0 → K q1 ls st h) (k2 : ¬ (x < 0) → K q2 ls st h) : wB CL L K Rt (some (.ifCond .lt o, l, a, b, c)) [] pc ls (ai (I x) :: st) h := by
  subst h1; subst h2
  have hy : inR 0 := ⟨by omega, by omega⟩
  exact br (I_lt hx hy) k1 k2 rfl rfl
theorem t_ic_ge (q1 q2 : Nat) (h1 : tgt pc o = q1) (h2 : pc + 3 = q2) (hx : inR x) (hy : inR y) (k1 : y ≤ x → K q1 ls st h) (k2 : ¬ (y ≤ x) → K q2 ls st h) : wB CL L K Rt (some (.if_icmp .ge o, l, a, b, c)) [] pc ls (ai (I y) :: ai (I x) :: st) h := by
  subst h1; subst h2
  exact br (I_le hy hx) k1 k2 rfl rfl
theorem t_if_ge (q1 q2 : Nat) (h1 : tgt pc o = q1) (h2 : pc + 3 = q2) (hx : inR x) (k1 : 0 ≤ x → K q1 ls st h) (k2 : ¬ (0 ≤ x) → K q2 ls st h) : wB CL L K Rt (some (.ifCond .ge o, l, a, b, c)) [] pc ls (ai (I x) :: st) h := by
  subst h1; subst h2
  have hy : inR 0 := ⟨by omega, by omega⟩
  exact br (I_le hy hx) k1 k2 rfl rfl
theorem t_ic_gt (q1 q2 : Nat) (h1 : tgt pc o = q1) (h2 : pc + 3 = q2) (hx : inR x) (hy : inR y) (k1 : y < x → K q1 ls st h) (k2 : ¬ (y < x) → K q2 ls st h) : wB CL L K Rt (some (.if_icmp .gt o, l, a, b, c)) [] pc ls (ai (I y) :: ai (I x) :: st) h := by
  subst h1; subst h2
  exact br (I_lt hy hx) k1 k2 rfl rfl
theorem t_if_gt (q1 q2 : Nat) (h1 : tgt pc o = q1) (h2 : pc + 3 = q2) (hx : inR x) (k1 : 0 < x → K q1 ls st h) (k2 : ¬ (0 < x) → K q2 ls st h) : wB CL L K Rt (some (.ifCond .gt o, l, a, b, c)) [] pc ls (ai (I x) :: st) h := by
  subst h1; subst h2
  have hy : inR 0 := ⟨by omega, by omega⟩
  exact br (I_lt hy hx) k1 k2 rfl rfl
theorem t_ic_le (q1 q2 : Nat) (h1 : tgt pc o = q1) (h2 : pc + 3 = q2) (hx : inR x) (hy : inR y) (k1 : x ≤ y → K q1 ls st h) (k2 : ¬ (x ≤ y) → K q2 ls st h) : wB CL L K Rt (some (.if_icmp .le o, l, a, b, c)) [] pc ls (ai (I y) :: ai (I x) :: st) h := by
  subst h1; subst h2
  exact br (I_le hx hy) k1 k2 rfl rfl
theorem t_if_le (q1 q2 : Nat) (h1 : tgt pc o = q1) (h2 : pc + 3 = q2) (hx : inR x) (k1 : x ≤ 0 → K q1 ls st h) (k2 : ¬ (x ≤ 0) → K q2 ls st h) : wB CL L K Rt (some (.ifCond .le o, l, a, b, c)) [] pc ls (ai (I x) :: st) h := by
  subst h1; subst h2
  have hy : inR 0 := ⟨by omega, by omega⟩
  exact br (I_le hx hy) k1 k2 rfl rfl
theorem t_ifnull_n (q1 : Nat) (h1 : tgt pc o = q1) (k : K q1 ls st h) : wB CL L K Rt (some (.ifnull o, l, a, b, c)) [] pc ls (an :: st) h := by subst h1; exact k
theorem t_ifnull_s {w : Nat × Nat} (q2 : Nat) (h2 : pc + 3 = q2) (k : K q2 ls st h) : wB CL L K Rt (some (.ifnull o, l, a, b, c)) [] pc ls (.inr (.inr (some w)) :: st) h := by subst h2; exact k
theorem t_ifnonnull_s {w : Nat × Nat} (q1 : Nat) (h1 : tgt pc o = q1) (k : K q1 ls st h) : wB CL L K Rt (some (.ifnonnull o, l, a, b, c)) [] pc ls (.inr (.inr (some w)) :: st) h := by subst h1; exact k
theorem t_ifnonnull_n (q2 : Nat) (h2 : pc + 3 = q2) (k : K q2 ls st h) : wB CL L K Rt (some (.ifnonnull o, l, a, b, c)) [] pc ls (an :: st) h := by subst h2; exact k
theorem I_nn {n : Nat} {z : Int} (hz : (n : Int) = z) : Int32.ofNat n = I z := by subst hz; exact (Int32.ofInt_eq_ofNat).symm
theorem t_tsw {d lo hi : Int} {offs : Array Int} (n1 n2 qd : Nat) (e1 : lo.toNat = n1) (e2 : hi.toNat = n2) (hn : n2 < 1000) (hq : tgt pc d = qd) (hx : inR x) (h12 : n1 < 1000) (ks : swT pc (I x) (fun q => K q ls st h) offs.toList n1) (kd : x < (n1 : Int) ∨ (n2 : Int) < x → K qd ls st h) : wB CL L K Rt (some (.tableswitch d lo hi offs, l, a, b, c)) [] pc ls (ai (I x) :: st) h := by
  subst e1; subst e2; subst hq
  refine ⟨ks, fun hh => kd ?_⟩
  rcases hh with hh | hh
  · rw [I_nn rfl, I_lt hx ⟨by omega, by omega⟩] at hh; exact Or.inl hh
  · rw [I_nn rfl, I_lt ⟨by omega, by omega⟩ hx] at hh; exact Or.inr hh
theorem sw_c {K : Nat → Prop} {rr : List Int} {n : Nat} (z : Int) (q n' : Nat) (hz : (n : Int) = z) (hq : tgt pc o = q) (hx : inR x) (hn : inR z) (hn' : n + 1 = n') (k : x = z → K q) (ks : swT pc (I x) K rr n') : swT pc (I x) K (o :: rr) n := by
  subst hq; subst hn'
  exact ⟨fun e => k ((I_inj hx hn).mp (by rw [I_nn hz] at e; exact e)), ks⟩
theorem sw_n {K : Nat → Prop} {n : Nat} : swT pc (I x) K [] n := trivial
theorem t_lsw {d : Int} {ps : Array (Int × Int)} (qd : Nat) (hq : tgt pc d = qd) (ks : lkT pc (I x) (fun q => K q ls st h) ps.toList) (kd : lkN (I x) ps.toList → K qd ls st h) : wB CL L K Rt (some (.lookupswitch d ps, l, a, b, c)) [] pc ls (ai (I x) :: st) h := by
  subst hq
  exact ⟨ks, kd⟩
theorem lk_c {K : Nat → Prop} {rr : List (Int × Int)} {u : Int} (q : Nat) (h0 : ((u.toNat : Nat) : Int) = u) (hq : tgt pc o = q) (hx : inR x) (hn : inR u) (k : x = u → K q) (ks : lkT pc (I x) K rr) : lkT pc (I x) K ((u, o) :: rr) := by
  subst hq
  exact ⟨fun e => k ((I_inj hx hn).mp (by rw [I_nn h0] at e; exact e)), ks⟩
theorem lk_n {K : Nat → Prop} : lkT pc (I x) K [] := trivial
theorem ln_c {rr : List (Int × Int)} {u : Int} (h0 : ((u.toNat : Nat) : Int) = u) (hx : inR x) (hn : inR u) (hh : lkN (I x) ((u, o) :: rr)) : ¬ x = u ∧ lkN (I x) rr := by
  refine ⟨fun e => hh.1 ?_, hh.2⟩
  rw [I_nn h0, e]
theorem t_iret (k : Rt (some (ai (I x))) h) : wB CL L K Rt (some (.ireturn, l, 0, b, c)) [] pc ls [ai (I x)] h := k
theorem t_zret (hx : x = 0 ∨ x = 1) (k : Rt (some (ai (I x))) h) : wB CL L K Rt (some (.ireturn, l, 1, b, c)) [] pc ls [ai (I x)] h := ⟨by rcases hx with rfl | rfl <;> simp [I], k⟩
theorem t_lret {v : Int64} (k : Rt (some (al v)) h) : wB CL L K Rt (some (.lreturn, l, a, b, c)) [] pc ls [al v] h := k
theorem t_aret {v : Option (Nat × Nat)} (k : Rt (some (.inr (.inr v))) h) : wB CL L K Rt (some (.areturn, l, a, b, c)) [] pc ls [.inr (.inr v)] h := k
theorem t_vret (k : Rt none h) : wB CL L K Rt (some (.return_, l, a, b, c)) [] pc ls [] h := k
theorem t_cs0 {u j : Nat} (hC : CLmono CL) (q2 : Nat) (h2 : pc + 3 = q2) (hc : catS fr ≤ 8) (k : CL j [] h (kc (fun st h => K q2 ls st h) fr)) : wB CL L K Rt (some (.invokestatic u, l, j, 0, c)) [] pc ls (fr) h := by
  subst h2
  show ifB (Nat.ble 0 (fr).length && Nat.ble (catS fr) 8) (CL j [] h fun v h' => K (pc + 3) ls (v.toList ++ fr) h')
  rw [show Nat.ble (catS fr) 8 = true from Nat.ble_eq.mpr hc, show Nat.ble 0 (fr).length = true from Nat.ble_eq.mpr (by simp)]
  exact hC _ _ _ _ _ (fun v h' => kc_ok v h') k
theorem t_cs1 {u j : Nat} {v0 : AV} (hC : CLmono CL) (q2 : Nat) (h2 : pc + 3 = q2) (hc : catS fr ≤ 8) (k : CL j [v0] h (kc (fun st h => K q2 ls st h) fr)) : wB CL L K Rt (some (.invokestatic u, l, j, 1, c)) [] pc ls (v0 :: fr) h := by
  subst h2
  show ifB (Nat.ble 1 (v0 :: fr).length && Nat.ble (catS fr) 8) (CL j [v0] h fun v h' => K (pc + 3) ls (v.toList ++ fr) h')
  rw [show Nat.ble (catS fr) 8 = true from Nat.ble_eq.mpr hc, show Nat.ble 1 (v0 :: fr).length = true from Nat.ble_eq.mpr (by simp)]
  exact hC _ _ _ _ _ (fun v h' => kc_ok v h') k
theorem t_cs2 {u j : Nat} {v0 v1 : AV} (hC : CLmono CL) (q2 : Nat) (h2 : pc + 3 = q2) (hc : catS fr ≤ 8) (k : CL j [v0, v1] h (kc (fun st h => K q2 ls st h) fr)) : wB CL L K Rt (some (.invokestatic u, l, j, 2, c)) [] pc ls (v1 :: v0 :: fr) h := by
  subst h2
  show ifB (Nat.ble 2 (v1 :: v0 :: fr).length && Nat.ble (catS fr) 8) (CL j [v0, v1] h fun v h' => K (pc + 3) ls (v.toList ++ fr) h')
  rw [show Nat.ble (catS fr) 8 = true from Nat.ble_eq.mpr hc, show Nat.ble 2 (v1 :: v0 :: fr).length = true from Nat.ble_eq.mpr (by simp)]
  exact hC _ _ _ _ _ (fun v h' => kc_ok v h') k
theorem t_cs3 {u j : Nat} {v0 v1 v2 : AV} (hC : CLmono CL) (q2 : Nat) (h2 : pc + 3 = q2) (hc : catS fr ≤ 8) (k : CL j [v0, v1, v2] h (kc (fun st h => K q2 ls st h) fr)) : wB CL L K Rt (some (.invokestatic u, l, j, 3, c)) [] pc ls (v2 :: v1 :: v0 :: fr) h := by
  subst h2
  show ifB (Nat.ble 3 (v2 :: v1 :: v0 :: fr).length && Nat.ble (catS fr) 8) (CL j [v0, v1, v2] h fun v h' => K (pc + 3) ls (v.toList ++ fr) h')
  rw [show Nat.ble (catS fr) 8 = true from Nat.ble_eq.mpr hc, show Nat.ble 3 (v2 :: v1 :: v0 :: fr).length = true from Nat.ble_eq.mpr (by simp)]
  exact hC _ _ _ _ _ (fun v h' => kc_ok v h') k
theorem t_cs4 {u j : Nat} {v0 v1 v2 v3 : AV} (hC : CLmono CL) (q2 : Nat) (h2 : pc + 3 = q2) (hc : catS fr ≤ 8) (k : CL j [v0, v1, v2, v3] h (kc (fun st h => K q2 ls st h) fr)) : wB CL L K Rt (some (.invokestatic u, l, j, 4, c)) [] pc ls (v3 :: v2 :: v1 :: v0 :: fr) h := by
  subst h2
  show ifB (Nat.ble 4 (v3 :: v2 :: v1 :: v0 :: fr).length && Nat.ble (catS fr) 8) (CL j [v0, v1, v2, v3] h fun v h' => K (pc + 3) ls (v.toList ++ fr) h')
  rw [show Nat.ble (catS fr) 8 = true from Nat.ble_eq.mpr hc, show Nat.ble 4 (v3 :: v2 :: v1 :: v0 :: fr).length = true from Nat.ble_eq.mpr (by simp)]
  exact hC _ _ _ _ _ (fun v h' => kc_ok v h') k
theorem t_cs5 {u j : Nat} {v0 v1 v2 v3 v4 : AV} (hC : CLmono CL) (q2 : Nat) (h2 : pc + 3 = q2) (hc : catS fr ≤ 8) (k : CL j [v0, v1, v2, v3, v4] h (kc (fun st h => K q2 ls st h) fr)) : wB CL L K Rt (some (.invokestatic u, l, j, 5, c)) [] pc ls (v4 :: v3 :: v2 :: v1 :: v0 :: fr) h := by
  subst h2
  show ifB (Nat.ble 5 (v4 :: v3 :: v2 :: v1 :: v0 :: fr).length && Nat.ble (catS fr) 8) (CL j [v0, v1, v2, v3, v4] h fun v h' => K (pc + 3) ls (v.toList ++ fr) h')
  rw [show Nat.ble (catS fr) 8 = true from Nat.ble_eq.mpr hc, show Nat.ble 5 (v4 :: v3 :: v2 :: v1 :: v0 :: fr).length = true from Nat.ble_eq.mpr (by simp)]
  exact hC _ _ _ _ _ (fun v h' => kc_ok v h') k
theorem t_cs6 {u j : Nat} {v0 v1 v2 v3 v4 v5 : AV} (hC : CLmono CL) (q2 : Nat) (h2 : pc + 3 = q2) (hc : catS fr ≤ 8) (k : CL j [v0, v1, v2, v3, v4, v5] h (kc (fun st h => K q2 ls st h) fr)) : wB CL L K Rt (some (.invokestatic u, l, j, 6, c)) [] pc ls (v5 :: v4 :: v3 :: v2 :: v1 :: v0 :: fr) h := by
  subst h2
  show ifB (Nat.ble 6 (v5 :: v4 :: v3 :: v2 :: v1 :: v0 :: fr).length && Nat.ble (catS fr) 8) (CL j [v0, v1, v2, v3, v4, v5] h fun v h' => K (pc + 3) ls (v.toList ++ fr) h')
  rw [show Nat.ble (catS fr) 8 = true from Nat.ble_eq.mpr hc, show Nat.ble 6 (v5 :: v4 :: v3 :: v2 :: v1 :: v0 :: fr).length = true from Nat.ble_eq.mpr (by simp)]
  exact hC _ _ _ _ _ (fun v h' => kc_ok v h') k
theorem t_cs7 {u j : Nat} {v0 v1 v2 v3 v4 v5 v6 : AV} (hC : CLmono CL) (q2 : Nat) (h2 : pc + 3 = q2) (hc : catS fr ≤ 8) (k : CL j [v0, v1, v2, v3, v4, v5, v6] h (kc (fun st h => K q2 ls st h) fr)) : wB CL L K Rt (some (.invokestatic u, l, j, 7, c)) [] pc ls (v6 :: v5 :: v4 :: v3 :: v2 :: v1 :: v0 :: fr) h := by
  subst h2
  show ifB (Nat.ble 7 (v6 :: v5 :: v4 :: v3 :: v2 :: v1 :: v0 :: fr).length && Nat.ble (catS fr) 8) (CL j [v0, v1, v2, v3, v4, v5, v6] h fun v h' => K (pc + 3) ls (v.toList ++ fr) h')
  rw [show Nat.ble (catS fr) 8 = true from Nat.ble_eq.mpr hc, show Nat.ble 7 (v6 :: v5 :: v4 :: v3 :: v2 :: v1 :: v0 :: fr).length = true from Nat.ble_eq.mpr (by simp)]
  exact hC _ _ _ _ _ (fun v h' => kc_ok v h') k
theorem t_cv1 {u j : Nat} (hC : CLmono CL) (q2 : Nat) (h2 : pc + 3 = q2) (hc : catS fr ≤ 8) (k : CL j [ar c b1] h (kc (fun st h => K q2 ls st h) fr)) : wB CL L K Rt (some (.invokevirtual u, l, j, 1, c)) [] pc ls (ar c b1 :: fr) h := by
  subst h2
  show ifB (Nat.ble 1 (ar c b1 :: fr).length && Nat.ble (catS fr) 8 && Nat.beq c c) (CL j [ar c b1] h fun v h' => K (pc + 3) ls (v.toList ++ fr) h')
  rw [show Nat.ble (catS fr) 8 = true from Nat.ble_eq.mpr hc, show Nat.ble 1 (ar c b1 :: fr).length = true from Nat.ble_eq.mpr (by simp), beq_rf]
  exact hC _ _ _ _ _ (fun v h' => kc_ok v h') k
theorem t_cv2 {u j : Nat} {v1 : AV} (hC : CLmono CL) (q2 : Nat) (h2 : pc + 3 = q2) (hc : catS fr ≤ 8) (k : CL j [ar c b1, v1] h (kc (fun st h => K q2 ls st h) fr)) : wB CL L K Rt (some (.invokevirtual u, l, j, 2, c)) [] pc ls (v1 :: ar c b1 :: fr) h := by
  subst h2
  show ifB (Nat.ble 2 (v1 :: ar c b1 :: fr).length && Nat.ble (catS fr) 8 && Nat.beq c c) (CL j [ar c b1, v1] h fun v h' => K (pc + 3) ls (v.toList ++ fr) h')
  rw [show Nat.ble (catS fr) 8 = true from Nat.ble_eq.mpr hc, show Nat.ble 2 (v1 :: ar c b1 :: fr).length = true from Nat.ble_eq.mpr (by simp), beq_rf]
  exact hC _ _ _ _ _ (fun v h' => kc_ok v h') k
theorem t_cv3 {u j : Nat} {v1 v2 : AV} (hC : CLmono CL) (q2 : Nat) (h2 : pc + 3 = q2) (hc : catS fr ≤ 8) (k : CL j [ar c b1, v1, v2] h (kc (fun st h => K q2 ls st h) fr)) : wB CL L K Rt (some (.invokevirtual u, l, j, 3, c)) [] pc ls (v2 :: v1 :: ar c b1 :: fr) h := by
  subst h2
  show ifB (Nat.ble 3 (v2 :: v1 :: ar c b1 :: fr).length && Nat.ble (catS fr) 8 && Nat.beq c c) (CL j [ar c b1, v1, v2] h fun v h' => K (pc + 3) ls (v.toList ++ fr) h')
  rw [show Nat.ble (catS fr) 8 = true from Nat.ble_eq.mpr hc, show Nat.ble 3 (v2 :: v1 :: ar c b1 :: fr).length = true from Nat.ble_eq.mpr (by simp), beq_rf]
  exact hC _ _ _ _ _ (fun v h' => kc_ok v h') k
theorem t_cv4 {u j : Nat} {v1 v2 v3 : AV} (hC : CLmono CL) (q2 : Nat) (h2 : pc + 3 = q2) (hc : catS fr ≤ 8) (k : CL j [ar c b1, v1, v2, v3] h (kc (fun st h => K q2 ls st h) fr)) : wB CL L K Rt (some (.invokevirtual u, l, j, 4, c)) [] pc ls (v3 :: v2 :: v1 :: ar c b1 :: fr) h := by
  subst h2
  show ifB (Nat.ble 4 (v3 :: v2 :: v1 :: ar c b1 :: fr).length && Nat.ble (catS fr) 8 && Nat.beq c c) (CL j [ar c b1, v1, v2, v3] h fun v h' => K (pc + 3) ls (v.toList ++ fr) h')
  rw [show Nat.ble (catS fr) 8 = true from Nat.ble_eq.mpr hc, show Nat.ble 4 (v3 :: v2 :: v1 :: ar c b1 :: fr).length = true from Nat.ble_eq.mpr (by simp), beq_rf]
  exact hC _ _ _ _ _ (fun v h' => kc_ok v h') k
theorem t_cv5 {u j : Nat} {v1 v2 v3 v4 : AV} (hC : CLmono CL) (q2 : Nat) (h2 : pc + 3 = q2) (hc : catS fr ≤ 8) (k : CL j [ar c b1, v1, v2, v3, v4] h (kc (fun st h => K q2 ls st h) fr)) : wB CL L K Rt (some (.invokevirtual u, l, j, 5, c)) [] pc ls (v4 :: v3 :: v2 :: v1 :: ar c b1 :: fr) h := by
  subst h2
  show ifB (Nat.ble 5 (v4 :: v3 :: v2 :: v1 :: ar c b1 :: fr).length && Nat.ble (catS fr) 8 && Nat.beq c c) (CL j [ar c b1, v1, v2, v3, v4] h fun v h' => K (pc + 3) ls (v.toList ++ fr) h')
  rw [show Nat.ble (catS fr) 8 = true from Nat.ble_eq.mpr hc, show Nat.ble 5 (v4 :: v3 :: v2 :: v1 :: ar c b1 :: fr).length = true from Nat.ble_eq.mpr (by simp), beq_rf]
  exact hC _ _ _ _ _ (fun v h' => kc_ok v h') k
theorem t_cv6 {u j : Nat} {v1 v2 v3 v4 v5 : AV} (hC : CLmono CL) (q2 : Nat) (h2 : pc + 3 = q2) (hc : catS fr ≤ 8) (k : CL j [ar c b1, v1, v2, v3, v4, v5] h (kc (fun st h => K q2 ls st h) fr)) : wB CL L K Rt (some (.invokevirtual u, l, j, 6, c)) [] pc ls (v5 :: v4 :: v3 :: v2 :: v1 :: ar c b1 :: fr) h := by
  subst h2
  show ifB (Nat.ble 6 (v5 :: v4 :: v3 :: v2 :: v1 :: ar c b1 :: fr).length && Nat.ble (catS fr) 8 && Nat.beq c c) (CL j [ar c b1, v1, v2, v3, v4, v5] h fun v h' => K (pc + 3) ls (v.toList ++ fr) h')
  rw [show Nat.ble (catS fr) 8 = true from Nat.ble_eq.mpr hc, show Nat.ble 6 (v5 :: v4 :: v3 :: v2 :: v1 :: ar c b1 :: fr).length = true from Nat.ble_eq.mpr (by simp), beq_rf]
  exact hC _ _ _ _ _ (fun v h' => kc_ok v h') k
theorem t_cv7 {u j : Nat} {v1 v2 v3 v4 v5 v6 : AV} (hC : CLmono CL) (q2 : Nat) (h2 : pc + 3 = q2) (hc : catS fr ≤ 8) (k : CL j [ar c b1, v1, v2, v3, v4, v5, v6] h (kc (fun st h => K q2 ls st h) fr)) : wB CL L K Rt (some (.invokevirtual u, l, j, 7, c)) [] pc ls (v6 :: v5 :: v4 :: v3 :: v2 :: v1 :: ar c b1 :: fr) h := by
  subst h2
  show ifB (Nat.ble 7 (v6 :: v5 :: v4 :: v3 :: v2 :: v1 :: ar c b1 :: fr).length && Nat.ble (catS fr) 8 && Nat.beq c c) (CL j [ar c b1, v1, v2, v3, v4, v5, v6] h fun v h' => K (pc + 3) ls (v.toList ++ fr) h')
  rw [show Nat.ble (catS fr) 8 = true from Nat.ble_eq.mpr hc, show Nat.ble 7 (v6 :: v5 :: v4 :: v3 :: v2 :: v1 :: ar c b1 :: fr).length = true from Nat.ble_eq.mpr (by simp), beq_rf]
  exact hC _ _ _ _ _ (fun v h' => kc_ok v h') k
end IN
theorem k_0 : cst 0 0 = I (0) := by decide +kernel
theorem k_1 : cst 1 0 = I (1) := by decide +kernel
theorem k_m1 : cst 1 1 = I (-1) := by decide +kernel
theorem k_2 : cst 2 0 = I (2) := by decide +kernel
theorem k_m2 : cst 2 1 = I (-2) := by decide +kernel
theorem k_3 : cst 3 0 = I (3) := by decide +kernel
theorem k_m3 : cst 3 1 = I (-3) := by decide +kernel
theorem k_4 : cst 4 0 = I (4) := by decide +kernel
theorem k_m4 : cst 4 1 = I (-4) := by decide +kernel
theorem k_5 : cst 5 0 = I (5) := by decide +kernel
theorem k_6 : cst 6 0 = I (6) := by decide +kernel
theorem k_m6 : cst 6 1 = I (-6) := by decide +kernel
theorem k_7 : cst 7 0 = I (7) := by decide +kernel
theorem k_8 : cst 8 0 = I (8) := by decide +kernel
theorem k_9 : cst 9 0 = I (9) := by decide +kernel
theorem k_m9 : cst 9 1 = I (-9) := by decide +kernel
theorem k_10 : cst 10 0 = I (10) := by decide +kernel
theorem k_11 : cst 11 0 = I (11) := by decide +kernel
theorem k_m11 : cst 11 1 = I (-11) := by decide +kernel
theorem k_12 : cst 12 0 = I (12) := by decide +kernel
theorem k_m12 : cst 12 1 = I (-12) := by decide +kernel
theorem k_13 : cst 13 0 = I (13) := by decide +kernel
theorem k_15 : cst 15 0 = I (15) := by decide +kernel
theorem k_16 : cst 16 0 = I (16) := by decide +kernel
theorem k_20 : cst 20 0 = I (20) := by decide +kernel
theorem k_21 : cst 21 0 = I (21) := by decide +kernel
theorem k_22 : cst 22 0 = I (22) := by decide +kernel
theorem k_23 : cst 23 0 = I (23) := by decide +kernel
theorem k_24 : cst 24 0 = I (24) := by decide +kernel
theorem k_25 : cst 25 0 = I (25) := by decide +kernel
theorem k_30 : cst 30 0 = I (30) := by decide +kernel
theorem k_36 : cst 36 0 = I (36) := by decide +kernel
theorem k_40 : cst 40 0 = I (40) := by decide +kernel
theorem k_48 : cst 48 0 = I (48) := by decide +kernel
theorem k_57 : cst 57 0 = I (57) := by decide +kernel
theorem k_59 : cst 59 0 = I (59) := by decide +kernel
theorem k_60 : cst 60 0 = I (60) := by decide +kernel
theorem k_63 : cst 63 0 = I (63) := by decide +kernel
theorem k_100 : cst 100 0 = I (100) := by decide +kernel
theorem k_999 : cst 999 0 = I (999) := by decide +kernel
theorem k_m1000 : cst 1000 1 = I (-1000) := by decide +kernel
theorem k_1009 : cst 1009 0 = I (1009) := by decide +kernel
theorem k_m2000 : cst 2000 1 = I (-2000) := by decide +kernel
theorem k_9999 : cst 9999 0 = I (9999) := by decide +kernel
theorem k_12345 : cst 12345 0 = I (12345) := by decide +kernel
theorem k_69069 : cst 69069 0 = I (69069) := by decide +kernel
theorem k_252645135 : cst 252645135 0 = I (252645135) := by decide +kernel
theorem k_858993459 : cst 858993459 0 = I (858993459) := by decide +kernel
theorem k_1103515245 : cst 1103515245 0 = I (1103515245) := by decide +kernel
theorem k_1431655765 : cst 1431655765 0 = I (1431655765) := by decide +kernel


