/-! SHELVES: both sides -/
abbrev Sv : Type := (Int → Int) × (Int → Int) × (Int → Int) × (Int → Int) × (Int → Int) × (Int → Int → Int)
def ho (S : Sv) : Int → Int := S.1
def sk (S : Sv) : Int → Int := S.2.1
def sf (S : Sv) : Int → Int := S.2.2.1
def so (S : Sv) : Int → Int := S.2.2.2.1
def sz (S : Sv) : Int → Int := S.2.2.2.2.1
def el (S : Sv) : Int → Int → Int := S.2.2.2.2.2
def fu (g : Int → Int) (d v : Int) : Int → Int := fun i => if i = d then v else g i
theorem fu_s {g : Int → Int} {d v : Int} : fu g d v d = v := if_pos rfl
theorem fu_o {g : Int → Int} {d v i : Int} (h : ¬ i = d) : fu g d v i = g i := if_neg h
def OKS (S : Sv) : Prop := ∀ d : Int, 0 ≤ d → d < 8 → (ho S d = 0 ∨ ho S d = 1 ∨ ho S d = 2) ∧ (ho S d = 1 → (0 ≤ sk S d ∧ sk S d < 8) ∧ 0 ≤ sf S d ∧ sf S d < 10) ∧ (ho S d = 2 → (0 ≤ so S d ∧ so S d ≤ 2) ∧ 0 ≤ sz S d ∧ sz S d ≤ 100)
def SC (h : Mem) (S : Sv) : Prop := ∀ d : Int, 0 ≤ d → d < 8 → hI h 1 d.toNat 0 = ho S d ∧ (ho S d = 1 → hI h 1 d.toNat 1 = sk S d ∧ hI h 1 d.toNat 2 = sf S d) ∧ (ho S d = 2 → hI h 1 d.toNat 3 = so S d ∧ hI h 1 d.toNat 4 = sz S d ∧ ∀ i : Int, 0 ≤ i → i < 100 → hI h 9 d.toNat i.toNat = el S d i)
def SR (h : Mem) (S : Sv) : Prop := ∀ d : Int, 0 ≤ d → d < 8 → hI h 14 0 d.toNat = ho S d ∧ (ho S d = 1 → hI h 15 0 d.toNat = sk S d ∧ hI h 16 0 d.toNat = sf S d) ∧ (ho S d = 2 → hI h 17 0 d.toNat = so S d ∧ hI h 18 0 d.toNat = sz S d ∧ ∀ i : Int, 0 ≤ i → i < 100 → hI h 19 0 (100 * d + i).toNat = el S d i)
def FrS (h h' : Mem) : Prop := ∀ (t b k : Nat), ¬ (t = 1 ∨ t = 9) → hI h' t b k = hI h t b k
def FrT (h h' : Mem) : Prop := ∀ (t b k : Nat), ¬ (14 ≤ t ∧ t ≤ 19) → hI h' t b k = hI h t b k
theorem FrS.rf {h : Mem} : FrS h h := fun _ _ _ _ => rfl
theorem FrT.rf {h : Mem} : FrT h h := fun _ _ _ _ => rfl
theorem FrS.ms {h h' : Mem} {t b k : Nat} {x : Int32} (a : FrS h h') (ht : t = 1 ∨ t = 9) : FrS h (mset h' t b k x) := fun t' b' k' hn => (hI_nt (fun z => hn (by rw [z]; exact ht))).trans (a t' b' k' hn)
theorem FrT.ms {h h' : Mem} {t b k : Nat} {x : Int32} (a : FrT h h') (ht : 14 ≤ t ∧ t ≤ 19) : FrT h (mset h' t b k x) := fun t' b' k' hn => (hI_nt (fun z => hn (by rw [z]; exact ht))).trans (a t' b' k' hn)
section S0
variable {mm : Mem} {S : Sv} {x i : Int}
theorem SC.h (H : SC mm S) (h0 : 0 ≤ x) (h8 : x < 8) : hI mm 1 x.toNat 0 = ho S x := (H x h0 h8).1
theorem SC.k (H : SC mm S) (h0 : 0 ≤ x) (h8 : x < 8) (e : ho S x = 1) : hI mm 1 x.toNat 1 = sk S x := ((H x h0 h8).2.1 e).1
theorem SC.f (H : SC mm S) (h0 : 0 ≤ x) (h8 : x < 8) (e : ho S x = 1) : hI mm 1 x.toNat 2 = sf S x := ((H x h0 h8).2.1 e).2
theorem SC.s (H : SC mm S) (h0 : 0 ≤ x) (h8 : x < 8) (e : ho S x = 2) : hI mm 1 x.toNat 3 = so S x := ((H x h0 h8).2.2 e).1
theorem SC.z (H : SC mm S) (h0 : 0 ≤ x) (h8 : x < 8) (e : ho S x = 2) : hI mm 1 x.toNat 4 = sz S x := ((H x h0 h8).2.2 e).2.1
theorem SC.e (H : SC mm S) (h0 : 0 ≤ x) (h8 : x < 8) (e : ho S x = 2) (i0 : 0 ≤ i) (i1 : i < 100) : hI mm 9 x.toNat i.toNat = el S x i := ((H x h0 h8).2.2 e).2.2 i i0 i1
theorem SR.h (H : SR mm S) (h0 : 0 ≤ x) (h8 : x < 8) : hI mm 14 0 x.toNat = ho S x := (H x h0 h8).1
theorem SR.k (H : SR mm S) (h0 : 0 ≤ x) (h8 : x < 8) (e : ho S x = 1) : hI mm 15 0 x.toNat = sk S x := ((H x h0 h8).2.1 e).1
theorem SR.f (H : SR mm S) (h0 : 0 ≤ x) (h8 : x < 8) (e : ho S x = 1) : hI mm 16 0 x.toNat = sf S x := ((H x h0 h8).2.1 e).2
theorem SR.s (H : SR mm S) (h0 : 0 ≤ x) (h8 : x < 8) (e : ho S x = 2) : hI mm 17 0 x.toNat = so S x := ((H x h0 h8).2.2 e).1
theorem SR.z (H : SR mm S) (h0 : 0 ≤ x) (h8 : x < 8) (e : ho S x = 2) : hI mm 18 0 x.toNat = sz S x := ((H x h0 h8).2.2 e).2.1
theorem SR.e (H : SR mm S) (h0 : 0 ≤ x) (h8 : x < 8) (e : ho S x = 2) (i0 : 0 ≤ i) (i1 : i < 100) : hI mm 19 0 (100 * x + i).toNat = el S x i := ((H x h0 h8).2.2 e).2.2 i i0 i1
end S0
theorem SC.fr {h h' : Mem} {S : Sv} (H : SC h S) (hF : ∀ t b k, t = 1 ∨ t = 9 → hI h' t b k = hI h t b k) : SC h' S := by
  intro d d0 d1
  obtain ⟨a, b, c⟩ := H d d0 d1
  refine ⟨(hF 1 _ _ (by omega)).trans a, fun e => ⟨(hF 1 _ _ (by omega)).trans (b e).1, (hF 1 _ _ (by omega)).trans (b e).2⟩, fun e => ⟨(hF 1 _ _ (by omega)).trans (c e).1, (hF 1 _ _ (by omega)).trans (c e).2.1, fun i i0 i1 => (hF 9 _ _ (by omega)).trans ((c e).2.2 i i0 i1)⟩⟩
theorem SR.fr {h h' : Mem} {S : Sv} (H : SR h S) (hF : ∀ t b k, 14 ≤ t ∧ t ≤ 19 → hI h' t b k = hI h t b k) : SR h' S := by
  intro d d0 d1
  obtain ⟨a, b, c⟩ := H d d0 d1
  refine ⟨(hF 14 _ _ (by omega)).trans a, fun e => ⟨(hF 15 _ _ (by omega)).trans (b e).1, (hF 16 _ _ (by omega)).trans (b e).2⟩, fun e => ⟨(hF 17 _ _ (by omega)).trans (c e).1, (hF 18 _ _ (by omega)).trans (c e).2.1, fun i i0 i1 => (hF 19 _ _ (by omega)).trans ((c e).2.2 i i0 i1)⟩⟩
/-! meanings -/
def rfu (S : Sv) (d x : Int) : Int := if 0 ≤ d ∧ d < 8 then (if ho S d = 0 then -11 else if ho S d = x then 0 else -12) else -1
def oKeep (S : Sv) (d w k f : Int) : Int × Sv := if (0 ≤ d ∧ d < 8) ∧ w = 0 then (0, (fu (ho S) d 0, sk S, sf S, so S, sz S, el S)) else if (0 ≤ d ∧ d < 8) ∧ w = 1 ∧ (0 ≤ k ∧ k < 8) ∧ 0 ≤ f ∧ f < 10 then (0, (fu (ho S) d 1, fu (sk S) d k, fu (sf S) d f, so S, sz S, el S)) else (-1, S)
def oRow (S : Sv) (d s n : Int) : Int × Sv := if (0 ≤ d ∧ d < 8) ∧ (0 ≤ s ∧ s ≤ 2) ∧ n ≤ 100 then (if n < 0 then (-14, S) else (0, (fu (ho S) d 2, sk S, sf S, fu (so S) d s, fu (sz S) d n, fun a i => if a = d then 0 else el S a i))) else (-1, S)
def nar (s v : Int) : Int := if s = 0 then (I v).toInt8.toInt else if s = 1 then (I v).toInt16.toInt else v
def setE (S : Sv) (d i v : Int) : Sv := (ho S, sk S, sf S, so S, sz S, fun a j => if a = d ∧ j = i then v else el S a j)
def oPut (S : Sv) (d i v : Int) : Int × Sv := if rfu S d 2 = 0 then (if 0 ≤ i ∧ i < sz S d then (0, setE S d i (nar (so S d) v)) else (-13, S)) else (rfu S d 2, S)
def vCost (S : Sv) (d : Int) : Int := if rfu S d 1 = 0 then co (sk S d) (sf S d) else rfu S d 1
section C11
variable {d L : Nat} {h : Mem} {Q : Option AV → Mem → Prop} {S : Sv}
theorem c_X3_shelfAt {z : Int} (hz : inR z) (h1 : 0 ≤ z → z < 8 → Q (some (ar 1 z.toNat)) h) (h0 : ¬ (0 ≤ z ∧ z < 8) → Q (some an) h) : Rn mt L (d + 1) 48 [ar 2 0, ai (I z)] h Q := by
  refine Rn.intro iX3_shelfAt rfl rfl ?_
  show Rch bX3_shelfAt _ _ _ _ 0 [some (ar 2 0), some (ai (I z))] [] _
  repeat' (first
    | exact h1 (by omega) (by omega)
    | exact h0 (by omega)
    | (show Rch _ _ _ _ _ 0 _ _ _; refine Rch.blk' (Rn_mono mt _ _) bl_X3_shelfAt_0 (i_iload_n rfl (t_if_lt 22 4 rfl rfl (by first | exact hI_R | exact band_R | exact bor_R | exact bshr_R | exact lcm_R | omega) (fun hc => ?_) (fun hc => ?_))) <;> (first | (exfalso; omega) | skip))
    | (show Rch _ _ _ _ _ 4 _ _ _; refine Rch.blk' (Rn_mono mt _ _) bl_X3_shelfAt_4 (i_iload_n rfl (i_aload_n rfl (i_gfs rfl (i_alen rfl (I_nn rfl) (t_ic_ge 22 13 rfl rfl (by first | exact hI_R | exact band_R | exact bor_R | exact bshr_R | exact lcm_R | omega) (by first | exact hI_R | exact band_R | exact bor_R | exact bshr_R | exact lcm_R | omega) (fun hc => ?_) (fun hc => ?_)))))) <;> (first | (exfalso; omega) | skip))
    | (show Rch _ _ _ _ _ 13 _ _ _; refine Rch.blk' (Rn_mono mt _ _) bl_X3_shelfAt_13 (i_aload_n rfl (i_gfs rfl (i_iload_n rfl (i_aald20 (by omega) (by omega) (t_goto 23 rfl ?_))))))
    | (show Rch _ _ _ _ _ 22 _ _ _; refine Rch.blk' (Rn_mono mt _ _) bl_X3_shelfAt_22 (i_null (t_none ?_)))
    | (show Rch _ _ _ _ _ 23 _ _ _; refine Rch.blk' (Rn_mono mt _ _) bl_X3_shelfAt_23 (t_aret ?_)))
theorem c_X3_refusalUnless_n {x : Int} (hq : Q (some (ai (I (-1)))) h) : Rn mt L (d + 1) 49 [an, ai (I x)] h Q := by
  refine Rn.intro iX3_refusalUnless rfl rfl ?_
  show Rch bX3_refusalUnless _ _ _ _ 0 [some (an), some (ai (I x))] [] _
  repeat' (first
    | exact hq
    | (show Rch _ _ _ _ _ 0 _ _ _; refine Rch.blk' (Rn_mono mt _ _) bl_X3_refusalUnless_0 (i_aload_n rfl (t_ifnonnull_n 4 rfl ?_)))
    | (show Rch _ _ _ _ _ 0 _ _ _; refine Rch.blk' (Rn_mono mt _ _) bl_X3_refusalUnless_0 (i_aload_n rfl (t_ifnonnull_s 6 rfl ?_)))
    | (show Rch _ _ _ _ _ 4 _ _ _; refine Rch.blk' (Rn_mono mt _ _) bl_X3_refusalUnless_4 (i_iconst k_m1 (t_iret ?_)))
    | (show Rch _ _ _ _ _ 6 _ _ _; refine Rch.blk' (Rn_mono mt _ _) bl_X3_refusalUnless_6 (i_aload_n rfl (i_gfi rfl (t_if_ne 16 13 rfl rfl (by first | exact hI_R | exact band_R | exact bor_R | exact bshr_R | exact lcm_R | omega) (fun hc => ?_) (fun hc => ?_)))) <;> (first | (exfalso; omega) | skip))
    | (show Rch _ _ _ _ _ 13 _ _ _; refine Rch.blk' (Rn_mono mt _ _) bl_X3_refusalUnless_13 (i_bipush k_m11 (t_iret ?_)))
    | (show Rch _ _ _ _ _ 16 _ _ _; refine Rch.blk' (Rn_mono mt _ _) bl_X3_refusalUnless_16 (i_aload_n rfl (i_gfi rfl (i_iload_n rfl (t_ic_ne 28 24 rfl rfl (by first | exact hI_R | exact band_R | exact bor_R | exact bshr_R | exact lcm_R | omega) (by first | exact hI_R | exact band_R | exact bor_R | exact bshr_R | exact lcm_R | omega) (fun hc => ?_) (fun hc => ?_))))) <;> (first | (exfalso; omega) | skip))
    | (show Rch _ _ _ _ _ 24 _ _ _; refine Rch.blk' (Rn_mono mt _ _) bl_X3_refusalUnless_24 (i_iconst k_0 (t_goto 30 rfl ?_)))
    | (show Rch _ _ _ _ _ 28 _ _ _; refine Rch.blk' (Rn_mono mt _ _) bl_X3_refusalUnless_28 (i_bipush k_m12 (t_none ?_)))
    | (show Rch _ _ _ _ _ 30 _ _ _; refine Rch.blk' (Rn_mono mt _ _) bl_X3_refusalUnless_30 (t_iret ?_)))
theorem c_X3_refusalUnless_s (hS : SC h S) {z x : Int} (hx : inR x) (z0 : 0 ≤ z) (z1 : z < 8) (h1 : ho S z = 0 → Q (some (ai (I (-11)))) h) (h2 : ¬ ho S z = 0 → ho S z = x → Q (some (ai (I 0))) h) (h3 : ¬ ho S z = 0 → ¬ ho S z = x → Q (some (ai (I (-12)))) h) : Rn mt L (d + 1) 49 [ar 1 z.toNat, ai (I x)] h Q := by
  refine Rn.intro iX3_refusalUnless rfl rfl ?_
  show Rch bX3_refusalUnless _ _ _ _ 0 [some (ar 1 z.toNat), some (ai (I x))] [] _
  have e_h := @SC.h _ _ _ hS z0 z1
  repeat' (first
    | exact h1 (by omega)
    | exact h2 (by omega) (by omega)
    | exact h3 (by omega) (by omega)
    | (show Rch _ _ _ _ _ 0 _ _ _; refine Rch.blk' (Rn_mono mt _ _) bl_X3_refusalUnless_0 (i_aload_n rfl (t_ifnonnull_n 4 rfl ?_)))
    | (show Rch _ _ _ _ _ 0 _ _ _; refine Rch.blk' (Rn_mono mt _ _) bl_X3_refusalUnless_0 (i_aload_n rfl (t_ifnonnull_s 6 rfl ?_)))
    | (show Rch _ _ _ _ _ 4 _ _ _; refine Rch.blk' (Rn_mono mt _ _) bl_X3_refusalUnless_4 (i_iconst k_m1 (t_iret ?_)))
    | (show Rch _ _ _ _ _ 6 _ _ _; refine Rch.blk' (Rn_mono mt _ _) bl_X3_refusalUnless_6 (i_aload_n rfl (i_gfi rfl (t_if_ne 16 13 rfl rfl (by first | exact hI_R | exact band_R | exact bor_R | exact bshr_R | exact lcm_R | omega | (simp (disch := omega) only [e_h]; omega)) (fun hc => ?_) (fun hc => ?_)))) <;> (try (simp (disch := omega) only [e_h] at hc ⊢)) <;> (first | (exfalso; omega) | skip))
    | (show Rch _ _ _ _ _ 13 _ _ _; refine Rch.blk' (Rn_mono mt _ _) bl_X3_refusalUnless_13 (i_bipush k_m11 (t_iret ?_)))
    | (show Rch _ _ _ _ _ 16 _ _ _; refine Rch.blk' (Rn_mono mt _ _) bl_X3_refusalUnless_16 (i_aload_n rfl (i_gfi rfl (i_iload_n rfl (t_ic_ne 28 24 rfl rfl (by first | exact hI_R | exact band_R | exact bor_R | exact bshr_R | exact lcm_R | omega | (simp (disch := omega) only [e_h]; omega)) (by first | exact hI_R | exact band_R | exact bor_R | exact bshr_R | exact lcm_R | omega | (simp (disch := omega) only [e_h]; omega)) (fun hc => ?_) (fun hc => ?_))))) <;> (try (simp (disch := omega) only [e_h] at hc ⊢)) <;> (first | (exfalso; omega) | skip))
    | (show Rch _ _ _ _ _ 24 _ _ _; refine Rch.blk' (Rn_mono mt _ _) bl_X3_refusalUnless_24 (i_iconst k_0 (t_goto 30 rfl ?_)))
    | (show Rch _ _ _ _ _ 28 _ _ _; refine Rch.blk' (Rn_mono mt _ _) bl_X3_refusalUnless_28 (i_bipush k_m12 (t_none ?_)))
    | (show Rch _ _ _ _ _ 30 _ _ _; refine Rch.blk' (Rn_mono mt _ _) bl_X3_refusalUnless_30 (t_iret ?_)))
theorem c_X2_hasPlace (hS : SC h S) (hK : OKS S) {z i : Int} (hi : inR i) (z0 : 0 ≤ z) (z1 : z < 8) (hh : ho S z = 2) (h1 : 0 ≤ i → i < sz S z → i < 100 → Q (some (ai (I 1))) h) (h0 : ¬ (0 ≤ i ∧ i < sz S z) → Q (some (ai (I 0))) h) : Rn mt L (d + 1) 42 [ar 1 z.toNat, ai (I i)] h Q := by
  refine Rn.intro iX2_hasPlace rfl rfl ?_
  show Rch bX2_hasPlace _ _ _ _ 0 [some (ar 1 z.toNat), some (ai (I i))] [] _
  have e_z := hS.z z0 z1 hh
  have g := (hK z z0 z1).2.2 hh
  repeat' (first
    | exact h1 (by omega) (by omega) (by omega)
    | exact h0 (by omega)
    | (show Rch _ _ _ _ _ 0 _ _ _; refine Rch.blk' (Rn_mono mt _ _) bl_X2_hasPlace_0 (i_iload_n rfl (t_if_lt 22 4 rfl rfl (by first | exact hI_R | exact band_R | exact bor_R | exact bshr_R | exact lcm_R | omega | (simp (disch := omega) only [e_z]; omega)) (fun hc => ?_) (fun hc => ?_))) <;> (first | (exfalso; omega) | skip))
    | (show Rch _ _ _ _ _ 4 _ _ _; refine Rch.blk' (Rn_mono mt _ _) bl_X2_hasPlace_4 (i_iload_n rfl (i_aload_n rfl (i_gfi rfl (t_ic_ge 22 12 rfl rfl (by first | exact hI_R | exact band_R | exact bor_R | exact bshr_R | exact lcm_R | omega | (simp (disch := omega) only [e_z]; omega)) (by first | exact hI_R | exact band_R | exact bor_R | exact bshr_R | exact lcm_R | omega | (simp (disch := omega) only [e_z]; omega)) (fun hc => ?_) (fun hc => ?_))))) <;> (try (simp (disch := omega) only [e_z] at hc ⊢)) <;> (first | (exfalso; omega) | skip))
    | (show Rch _ _ _ _ _ 12 _ _ _; refine Rch.blk' (Rn_mono mt _ _) bl_X2_hasPlace_12 (i_iload_n rfl (i_bipush k_100 (t_ic_ge 22 18 rfl rfl (by first | exact hI_R | exact band_R | exact bor_R | exact bshr_R | exact lcm_R | omega | (simp (disch := omega) only [e_z]; omega)) (by first | exact hI_R | exact band_R | exact bor_R | exact bshr_R | exact lcm_R | omega | (simp (disch := omega) only [e_z]; omega)) (fun hc => ?_) (fun hc => ?_)))) <;> (first | (exfalso; omega) | skip))
    | (show Rch _ _ _ _ _ 18 _ _ _; refine Rch.blk' (Rn_mono mt _ _) bl_X2_hasPlace_18 (i_iconst k_1 (t_goto 23 rfl ?_)))
    | (show Rch _ _ _ _ _ 22 _ _ _; refine Rch.blk' (Rn_mono mt _ _) bl_X2_hasPlace_22 (i_iconst k_0 (t_none ?_)))
    | (show Rch _ _ _ _ _ 23 _ _ _; refine Rch.blk' (Rn_mono mt _ _) bl_X2_hasPlace_23 (t_zret (by omega) ?_)))
theorem c_X2_elementAt (hS : SC h S) (hK : OKS S) {z i : Int} (hi : inR i) (z0 : 0 ≤ z) (z1 : z < 8) (hh : ho S z = 2) (h1 : 0 ≤ i → i < sz S z → inR (el S z i) → Q (some (ai (I (el S z i)))) h) (h0 : ¬ (0 ≤ i ∧ i < sz S z) → Q (some (ai (I 0))) h) : Rn mt L (d + 2) 43 [ar 1 z.toNat, ai (I i)] h Q := by
  refine Rn.intro iX2_elementAt rfl rfl ?_
  show Rch bX2_elementAt _ _ _ _ 0 [some (ar 1 z.toNat), some (ai (I i))] [] _
  have e_e := fun a b => @SC.e _ _ _ i hS z0 z1 hh a b
  have k1 : 0 ≤ i → i < sz S z → i < 100 → Q (some (ai (I (el S z i)))) h := fun a b c => h1 a b (by rw [← e_e a c]; exact hI_R)
  repeat' (first
    | exact k1 (by omega) (by omega) (by omega)
    | exact h0 (by omega)
    | (show Rn _ _ _ 42 _ _ _; refine c_X2_hasPlace (by assumption) (by assumption) (by first | omega | exact hI_R) (by assumption) (by assumption) (by assumption) (fun _ _ _ => ?_) (fun _ => ?_))
    | (show Rch _ _ _ _ _ 0 _ _ _; refine Rch.blk' (Rn_mono mt _ _) bl_X2_elementAt_0 (i_aload_n rfl (i_iload_n rfl (t_cv2 (Rn_mono mt _ _) 5 rfl (Nat.le_of_ble_eq_true rfl) ?_))))
    | (show Rch _ _ _ _ _ 5 _ _ _; refine Rch.blk' (Rn_mono mt _ _) bl_X2_elementAt_5 (t_if_eq 17 8 rfl rfl (by first | exact hI_R | exact band_R | exact bor_R | exact bshr_R | exact lcm_R | omega | (simp (disch := omega) only [e_e]; omega)) (fun hc => ?_) (fun hc => ?_)) <;> (first | (exfalso; omega) | skip))
    | (show Rch _ _ _ _ _ 8 _ _ _; refine Rch.blk' (Rn_mono mt _ _) bl_X2_elementAt_8 (i_aload_n rfl (i_gfr rfl (i_iload_n rfl (i_iald (n := 100) rfl (by first | omega | (simp (disch := omega) only [e_e]; omega)) (by first | omega | (simp (disch := omega) only [e_e]; omega)) (by first | omega | (simp (disch := omega) only [e_e]; omega)) (t_goto 18 rfl ?_))))) <;> (try (simp (disch := omega) only [e_e])))
    | (show Rch _ _ _ _ _ 17 _ _ _; refine Rch.blk' (Rn_mono mt _ _) bl_X2_elementAt_17 (i_iconst k_0 (t_none ?_)))
    | (show Rch _ _ _ _ _ 18 _ _ _; refine Rch.blk' (Rn_mono mt _ _) bl_X2_elementAt_18 (t_iret ?_)))
theorem SC_setE {S : Sv} (hS : SC h S) {z i v : Int} (z0 : 0 ≤ z) (i0 : 0 ≤ i) (hv : inR v) : SC (mset h 9 z.toNat i.toNat (I v)) (setE S z i v) := by
  intro a a0 a1
  obtain ⟨p, q, r⟩ := hS a a0 a1
  refine ⟨(hI_nt (by omega)).trans p, fun e => ⟨(hI_nt (by omega)).trans (q e).1, (hI_nt (by omega)).trans (q e).2⟩, fun e => ⟨(hI_nt (by omega)).trans (r e).1, (hI_nt (by omega)).trans (r e).2.1, fun j j0 j1 => ?_⟩⟩
  show _ = if a = z ∧ j = i then v else el S a j
  by_cases c : a = z
  · by_cases c2 : j = i
    · subst c; subst c2; rw [if_pos ⟨rfl, rfl⟩, hI_eq hv]
    · rw [if_neg (fun q => c2 q.2), hI_nk (by omega)]; exact (r e).2.2 j j0 j1
  · rw [if_neg (fun q => c q.1), hI_nb (by omega)]; exact (r e).2.2 j j0 j1
theorem nar_R {s v : Int} (hv : inR v) : inR (nar s v) := by
  have h8a := Int8.le_toInt (I v).toInt8
  have h8b := Int8.toInt_lt (I v).toInt8
  have h16a := Int16.le_toInt (I v).toInt16
  have h16b := Int16.toInt_lt (I v).toInt16
  unfold nar
  omega
theorem c_J7_fill_53178 {s : Nat} {v : Int} (hv : inR v) (hq : ∀ h', (∀ i : Int, 0 ≤ i → i < 100 → hI h' 9 s i.toNat = v) → (∀ t b k : Nat, ¬ (t = 9 ∧ b = s) → hI h' t b k = hI h t b k) → Q none h') : Rn mt L (d + 1) 76 [ar 9 s, ai (I v)] h Q := by
  refine Rn.intro iJ7_fill_53178 rfl rfl ?_
  show Rch bJ7_fill_53178 _ _ _ _ 0 [some (ar 9 s), some (ai (I v)), none, none] [] _
  have key : ∀ k : Int, k ≤ 100 → 0 ≤ k → ∀ h', (∀ i : Int, 0 ≤ i → i < k → hI h' 9 s i.toNat = v) → (∀ t b k : Nat, ¬ (t = 9 ∧ b = s) → hI h' t b k = hI h t b k) → RH L bJ7_fill_53178 d Q 5 [some (ar 9 s), some (ai (I v)), some (ai (I k)), some (ai (I ((100 : Nat) : Int)))] h' := by
    refine up_ind (fun k hk ih hk0 h' hj hF => ?_)
    by_cases hk1 : k < 100
    · have ih := ih hk1 (by omega) (mset h' 9 s k.toNat (I v)) (fun i i0 i1 => by
        by_cases e : i = k
        · subst e; rw [hI_eq hv]
        · rw [hI_nk (by omega)]; exact hj i i0 (by omega)) (fun t b j hn => by
        by_cases e : t = 9
        · rw [hI_nb (fun z => hn ⟨e, z⟩)]; exact hF t b j hn
        · rw [hI_nt e]; exact hF t b j hn)
      refine Rch.blk' (Rn_mono mt _ _) bl_J7_fill_53178_5 (i_iload_n rfl (i_iload_n rfl (t_ic_ge 20 10 rfl rfl (by first | exact hI_R | exact band_R | exact bor_R | exact bshr_R | exact lcm_R | omega) (by first | exact hI_R | exact band_R | exact bor_R | exact bshr_R | exact lcm_R | omega) (fun hc => ?_) (fun hc => ?_)))) <;> (first | (exfalso; omega) | skip)
      repeat' (first
        | exact ih
        | (show Rch _ _ _ _ _ 0 _ _ _; refine Rch.blk' (Rn_mono mt _ _) bl_J7_fill_53178_0 (i_iconst k_0 (i_istore2 trivial (i_aload_n rfl (i_alen rfl (I_nn rfl) (i_istore3 trivial (t_none ?_)))))))
        | (show Rch _ _ _ _ _ 10 _ _ _; refine Rch.blk' (Rn_mono mt _ _) bl_J7_fill_53178_10 (i_aload_n rfl (i_iload_n rfl (i_iload_n rfl (i_iast (n := 100) rfl rfl (by omega) (by omega) (by omega) (i_iinc2 trivial k_1 (t_goto 5 rfl ?_)))))))
        | (show Rch _ _ _ _ _ 20 _ _ _; refine Rch.blk' (Rn_mono mt _ _) bl_J7_fill_53178_20 (t_vret ?_)))
    · obtain rfl : k = 100 := by omega
      refine Rch.blk' (Rn_mono mt _ _) bl_J7_fill_53178_5 (i_iload_n rfl (i_iload_n rfl (t_ic_ge 20 10 rfl rfl (by first | exact hI_R | exact band_R | exact bor_R | exact bshr_R | exact lcm_R | omega) (by first | exact hI_R | exact band_R | exact bor_R | exact bshr_R | exact lcm_R | omega) (fun hc => ?_) (fun hc => ?_)))) <;> (first | (exfalso; omega) | skip)
      repeat' (first
        | exact hq _ hj hF
        | (show Rch _ _ _ _ _ 0 _ _ _; refine Rch.blk' (Rn_mono mt _ _) bl_J7_fill_53178_0 (i_iconst k_0 (i_istore2 trivial (i_aload_n rfl (i_alen rfl (I_nn rfl) (i_istore3 trivial (t_none ?_)))))))
        | (show Rch _ _ _ _ _ 10 _ _ _; refine Rch.blk' (Rn_mono mt _ _) bl_J7_fill_53178_10 (i_aload_n rfl (i_iload_n rfl (i_iload_n rfl (i_iast (n := 100) rfl rfl (by omega) (by omega) (by omega) (i_iinc2 trivial k_1 (t_goto 5 rfl ?_)))))))
        | (show Rch _ _ _ _ _ 20 _ _ _; refine Rch.blk' (Rn_mono mt _ _) bl_J7_fill_53178_20 (t_vret ?_)))
  repeat' (first
    | exact key 0 (by omega) (by omega) h (fun i _ _ => by omega) (fun _ _ _ _ => rfl)
    | (show Rch _ _ _ _ _ 0 _ _ _; refine Rch.blk' (Rn_mono mt _ _) bl_J7_fill_53178_0 (i_iconst k_0 (i_istore2 trivial (i_aload_n rfl (i_alen rfl (I_nn rfl) (i_istore3 trivial (t_none ?_)))))))
    | (show Rch _ _ _ _ _ 10 _ _ _; refine Rch.blk' (Rn_mono mt _ _) bl_J7_fill_53178_10 (i_aload_n rfl (i_iload_n rfl (i_iload_n rfl (i_iast (n := 100) rfl rfl (by omega) (by omega) (by omega) (i_iinc2 trivial k_1 (t_goto 5 rfl ?_)))))))
    | (show Rch _ _ _ _ _ 20 _ _ _; refine Rch.blk' (Rn_mono mt _ _) bl_J7_fill_53178_20 (t_vret ?_)))
theorem c_X3_keep (hS : SC h S) {z w k f : Int} (hz : inR z) (hw : inR w) (hk : inR k) (hf : inR f) (hq : ∀ v S' h', oKeep S z w k f = (v, S') → SC h' S' → FrS h h' → Q (some (ai (I v))) h') : Rn mt L (d + 2) 75 [ar 2 0, ai (I z), ai (I w), ai (I k), ai (I f)] h Q := by
  refine Rn.intro iX3_keep rfl rfl ?_
  show Rch bX3_keep _ _ _ _ 0 [some (ar 2 0), some (ai (I z)), some (ai (I w)), some (ai (I k)), some (ai (I f)), none] [] _
  have k0 : (0 ≤ z ∧ z < 8) → w = 0 → Q (some (ai (I 0))) (mset h 1 z.toNat 0 (I 0)) := by
    intro a b
    refine hq _ _ _ (by unfold oKeep; rw [if_pos ⟨a, b⟩]) (fun c c0 c1 => ?_) (FrS.rf.ms (by omega))
    obtain ⟨p, q, r⟩ := hS c c0 c1
    by_cases e : c = z
    · subst e
      refine ⟨?_, fun e => ?_, fun e => ?_⟩
      · rw [hI_eq ⟨by omega, by omega⟩]; exact fu_s.symm
      · have e : fu (ho S) c 0 c = 1 := e
        rw [fu_s] at e; omega
      · have e : fu (ho S) c 0 c = 2 := e
        rw [fu_s] at e; omega
    · refine ⟨?_, fun e2 => ?_, fun e2 => ?_⟩
      · rw [hI_nb (by omega), p]; exact (fu_o e).symm
      · have e2 : fu (ho S) z 0 c = 1 := e2
        rw [fu_o e] at e2
        rw [hI_nb (by omega), hI_nb (by omega)]; exact q e2
      · have e2 : fu (ho S) z 0 c = 2 := e2
        rw [fu_o e] at e2
        rw [hI_nb (by omega), hI_nb (by omega)]
        exact ⟨(r e2).1, (r e2).2.1, fun i i0 i1 => by rw [hI_nt (by omega)]; exact (r e2).2.2 i i0 i1⟩
  have k1 : (0 ≤ z ∧ z < 8) → w = 1 → (0 ≤ k ∧ k < 8) → (0 ≤ f ∧ f < 10) → Q (some (ai (I 0))) (mset (mset (mset h 1 z.toNat 0 (I 1)) 1 z.toNat 1 (I k)) 1 z.toNat 2 (I f)) := by
    intro a b c1 c2
    refine hq _ _ _ (by unfold oKeep; rw [if_neg (by omega), if_pos ⟨a, b, c1, c2⟩]) (fun c c0 c1 => ?_) (((FrS.rf.ms (by omega)).ms (by omega)).ms (by omega))
    obtain ⟨p, q, r⟩ := hS c c0 c1
    by_cases e : c = z
    · subst e
      refine ⟨?_, fun _ => ⟨?_, ?_⟩, fun e => ?_⟩
      · rw [hI_nk (by omega), hI_nk (by omega), hI_eq ⟨by omega, by omega⟩]; exact fu_s.symm
      · rw [hI_nk (by omega), hI_eq hk]; exact fu_s.symm
      · rw [hI_eq hf]; exact fu_s.symm
      · have e : fu (ho S) c 1 c = 2 := e
        rw [fu_s] at e; omega
    · have e0 : ∀ j, hI (mset (mset (mset h 1 z.toNat 0 (I 1)) 1 z.toNat 1 (I k)) 1 z.toNat 2 (I f)) 1 c.toNat j = hI h 1 c.toNat j := fun j => by rw [hI_nb (by omega), hI_nb (by omega), hI_nb (by omega)]
      refine ⟨?_, fun e2 => ⟨?_, ?_⟩, fun e2 => ⟨?_, ?_, fun i i0 i1 => ?_⟩⟩
      · rw [e0, p]; exact (fu_o e).symm
      · have e2 : fu (ho S) z 1 c = 1 := e2
        rw [fu_o e] at e2
        rw [e0, (q e2).1]; exact (fu_o e).symm
      · have e2 : fu (ho S) z 1 c = 1 := e2
        rw [fu_o e] at e2
        rw [e0, (q e2).2]; exact (fu_o e).symm
      · have e2 : fu (ho S) z 1 c = 2 := e2
        rw [fu_o e] at e2
        rw [e0]; exact (r e2).1
      · have e2 : fu (ho S) z 1 c = 2 := e2
        rw [fu_o e] at e2
        rw [e0]; exact (r e2).2.1
      · have e2 : fu (ho S) z 1 c = 2 := e2
        rw [fu_o e] at e2
        rw [hI_nt (by omega), hI_nt (by omega), hI_nt (by omega)]; exact (r e2).2.2 i i0 i1
  have k2 : ¬ ((0 ≤ z ∧ z < 8) ∧ w = 0) → ¬ ((0 ≤ z ∧ z < 8) ∧ w = 1 ∧ (0 ≤ k ∧ k < 8) ∧ 0 ≤ f ∧ f < 10) → Q (some (ai (I (-1)))) h := fun a b => hq _ _ _ (by unfold oKeep; rw [if_neg a, if_neg b]) hS FrS.rf
  repeat' (first
    | exact k0 (by omega) (by omega)
    | exact k1 (by omega) (by omega) (by omega) (by omega)
    | exact k2 (by omega) (by omega)
    | (show Rn _ _ _ 48 _ _ _; refine c_X3_shelfAt (by first | omega | exact hI_R) (fun _ _ => ?_) (fun _ => ?_))
    | (show Rn _ _ _ 7 _ _ _; refine c_X3_isKind (by first | omega | exact hI_R) (fun _ _ => ?_) (fun _ => ?_))
    | (show Rn _ _ _ 8 _ _ _; refine c_X3_isFigure (by first | omega | exact hI_R) (fun _ _ => ?_) (fun _ => ?_))
    | (show Rch _ _ _ _ _ 0 _ _ _; refine Rch.blk' (Rn_mono mt _ _) bl_X3_keep_0 (i_aload_n rfl (i_iload_n rfl (t_cv2 (Rn_mono mt _ _) 5 rfl (Nat.le_of_ble_eq_true rfl) ?_))))
    | (show Rch _ _ _ _ _ 5 _ _ _; refine Rch.blk' (Rn_mono mt _ _) bl_X3_keep_5 (i_astore5 trivial (i_aload rfl (t_ifnull_n 21 rfl ?_))))
    | (show Rch _ _ _ _ _ 5 _ _ _; refine Rch.blk' (Rn_mono mt _ _) bl_X3_keep_5 (i_astore5 trivial (i_aload rfl (t_ifnull_s 12 rfl ?_))))
    | (show Rch _ _ _ _ _ 12 _ _ _; refine Rch.blk' (Rn_mono mt _ _) bl_X3_keep_12 (i_iload_n rfl (t_if_lt 21 16 rfl rfl (by first | exact hI_R | exact band_R | exact bor_R | exact bshr_R | exact lcm_R | omega) (fun hc => ?_) (fun hc => ?_))) <;> (first | (exfalso; omega) | skip))
    | (show Rch _ _ _ _ _ 16 _ _ _; refine Rch.blk' (Rn_mono mt _ _) bl_X3_keep_16 (i_iload_n rfl (i_iconst k_1 (t_ic_le 23 21 rfl rfl (by first | exact hI_R | exact band_R | exact bor_R | exact bshr_R | exact lcm_R | omega) (by first | exact hI_R | exact band_R | exact bor_R | exact bshr_R | exact lcm_R | omega) (fun hc => ?_) (fun hc => ?_)))) <;> (first | (exfalso; omega) | skip))
    | (show Rch _ _ _ _ _ 21 _ _ _; refine Rch.blk' (Rn_mono mt _ _) bl_X3_keep_21 (i_iconst k_m1 (t_iret ?_)))
    | (show Rch _ _ _ _ _ 23 _ _ _; refine Rch.blk' (Rn_mono mt _ _) bl_X3_keep_23 (i_iload_n rfl (t_if_ne 35 27 rfl rfl (by first | exact hI_R | exact band_R | exact bor_R | exact bshr_R | exact lcm_R | omega) (fun hc => ?_) (fun hc => ?_))) <;> (first | (exfalso; omega) | skip))
    | (show Rch _ _ _ _ _ 27 _ _ _; refine Rch.blk' (Rn_mono mt _ _) bl_X3_keep_27 (i_aload rfl (i_iconst k_0 (i_pfi rfl (i_iconst k_0 (t_iret ?_))))))
    | (show Rch _ _ _ _ _ 35 _ _ _; refine Rch.blk' (Rn_mono mt _ _) bl_X3_keep_35 (i_iload_n rfl (t_cs1 (Rn_mono mt _ _) 39 rfl (Nat.le_of_ble_eq_true rfl) ?_)))
    | (show Rch _ _ _ _ _ 39 _ _ _; refine Rch.blk' (Rn_mono mt _ _) bl_X3_keep_39 (t_if_eq 50 42 rfl rfl (by first | exact hI_R | exact band_R | exact bor_R | exact bshr_R | exact lcm_R | omega) (fun hc => ?_) (fun hc => ?_)) <;> (first | (exfalso; omega) | skip))
    | (show Rch _ _ _ _ _ 42 _ _ _; refine Rch.blk' (Rn_mono mt _ _) bl_X3_keep_42 (i_iload rfl (t_cs1 (Rn_mono mt _ _) 47 rfl (Nat.le_of_ble_eq_true rfl) ?_)))
    | (show Rch _ _ _ _ _ 47 _ _ _; refine Rch.blk' (Rn_mono mt _ _) bl_X3_keep_47 (t_if_ne 52 50 rfl rfl (by first | exact hI_R | exact band_R | exact bor_R | exact bshr_R | exact lcm_R | omega) (fun hc => ?_) (fun hc => ?_)) <;> (first | (exfalso; omega) | skip))
    | (show Rch _ _ _ _ _ 50 _ _ _; refine Rch.blk' (Rn_mono mt _ _) bl_X3_keep_50 (i_iconst k_m1 (t_iret ?_)))
    | (show Rch _ _ _ _ _ 52 _ _ _; refine Rch.blk' (Rn_mono mt _ _) bl_X3_keep_52 (i_aload rfl (i_iconst k_1 (i_pfi rfl (i_aload rfl (i_iload_n rfl (i_pfi rfl (i_aload rfl (i_iload rfl (i_pfi rfl (i_iconst k_0 (t_iret ?_)))))))))))))
end C11


