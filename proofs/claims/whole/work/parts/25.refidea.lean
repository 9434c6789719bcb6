/-! THE REFERENCE'S ROW AS A VALUE, and its ideas -/
def m4 (q : Int) : Int := if q = 36 then -4 else q
/-- row k holds G; mute: M; rains: ra -/
def RR (h : Mem) (k : Nat) (G : Bd) (M : Int → Prop) (ra : Int) : Prop := hI h 12 k 0 = nn G ∧ hI h 12 k 1 = dy G ∧ hI h 12 k 2 = tn G ∧ hI h 12 k 3 = th G ∧ hI h 12 k 4 = BT M ∧ hI h 12 k 5 = ra ∧ ∀ p : Int, 0 ≤ p → p < nn G → hI h 12 k (6 + 4 * p + 0).toNat = kd G p ∧ hI h 12 k (6 + 4 * p + 1).toNat = fg G p ∧ hI h 12 k (6 + 4 * p + 2).toNat = sd G p ∧ hI h 12 k (6 + 4 * p + 3).toNat = m4 (sq G p)
section R0
variable {h : Mem} {w : Nat} {G : Bd} {M : Int → Prop} {ra : Int}
theorem RR.n (H : RR h w G M ra) : hI h 12 w (Int.toNat 0) = nn G := H.1
theorem RR.d (H : RR h w G M ra) : hI h 12 w (Int.toNat 1) = dy G := H.2.1
theorem RR.t (H : RR h w G M ra) : hI h 12 w (Int.toNat 2) = tn G := H.2.2.1
theorem RR.o (H : RR h w G M ra) : hI h 12 w (Int.toNat 3) = th G := H.2.2.2.1
theorem RR.m (H : RR h w G M ra) : hI h 12 w (Int.toNat 4) = BT M := H.2.2.2.2.1
theorem RR.r (H : RR h w G M ra) : hI h 12 w (Int.toNat 5) = ra := H.2.2.2.2.2.1
theorem RR.k (H : RR h w G M ra) {p : Int} (h0 : 0 ≤ p) (h1 : p < nn G) : hI h 12 w (6 + 4 * p + 0).toNat = kd G p := (H.2.2.2.2.2.2 p h0 h1).1
theorem RR.f (H : RR h w G M ra) {p : Int} (h0 : 0 ≤ p) (h1 : p < nn G) : hI h 12 w (6 + 4 * p + 1).toNat = fg G p := (H.2.2.2.2.2.2 p h0 h1).2.1
theorem RR.s (H : RR h w G M ra) {p : Int} (h0 : 0 ≤ p) (h1 : p < nn G) : hI h 12 w (6 + 4 * p + 2).toNat = sd G p := (H.2.2.2.2.2.2 p h0 h1).2.2.1
theorem RR.q (H : RR h w G M ra) {p : Int} (h0 : 0 ≤ p) (h1 : p < nn G) : hI h 12 w (6 + 4 * p + 3).toNat = m4 (sq G p) := (H.2.2.2.2.2.2 p h0 h1).2.2.2
theorem m4_p {q : Int} (h : q < 36) : m4 q = q := by unfold m4; omega
theorem m4_n {q : Int} (h : q = 36) : m4 q = -4 := by unfold m4; omega
theorem m4_R {q : Int} : (¬ q = 36 ∧ m4 q = q) ∨ (q = 36 ∧ m4 q = -4) := by unfold m4; omega
end R0
section C3
variable {d : Nat} {h : Mem} {Q : Option AV → Mem → Prop} {b : Nat} {G : Bd} {M : Int → Prop} {ra : Int}
theorem c_X4_isIn {x y w : Int} (hx : inR x) (hy : inR y) (hw : inR w) (h1 : y ≤ x → x ≤ w → Q (some (ai (I 1))) h) (h0 : ¬ (y ≤ x ∧ x ≤ w) → Q (some (ai (I 0))) h) : Rn mt (d + 1) 105 [ai (I x), ai (I y), ai (I w)] h Q := by
  refine Rn.intro iX4_isIn rfl rfl ?_
  show Rch bX4_isIn _ _ _ _ 0 [some (ai (I x)), some (ai (I y)), some (ai (I w))] [] _
  repeat' (first
    | exact h1 (by omega) (by omega)
    | exact h0 (by omega)
    | (show Rch _ _ _ _ _ 0 _ _ _; refine Rch.blk' (Rn_mono mt _) bl_X4_isIn_0 (i_iload_n rfl (i_iload_n rfl (t_ic_lt 14 5 rfl rfl (by first | exact hI_R | exact band_R | exact bor_R | exact bshr_R | exact lcm_R | omega) (by first | exact hI_R | exact band_R | exact bor_R | exact bshr_R | exact lcm_R | omega) (fun hc => ?_) (fun hc => ?_)))) <;> (first | (exfalso; omega) | skip))
    | (show Rch _ _ _ _ _ 5 _ _ _; refine Rch.blk' (Rn_mono mt _) bl_X4_isIn_5 (i_iload_n rfl (i_iload_n rfl (t_ic_gt 14 10 rfl rfl (by first | exact hI_R | exact band_R | exact bor_R | exact bshr_R | exact lcm_R | omega) (by first | exact hI_R | exact band_R | exact bor_R | exact bshr_R | exact lcm_R | omega) (fun hc => ?_) (fun hc => ?_)))) <;> (first | (exfalso; omega) | skip))
    | (show Rch _ _ _ _ _ 10 _ _ _; refine Rch.blk' (Rn_mono mt _) bl_X4_isIn_10 (i_iconst k_1 (t_goto 15 rfl ?_)))
    | (show Rch _ _ _ _ _ 14 _ _ _; refine Rch.blk' (Rn_mono mt _) bl_X4_isIn_14 (i_iconst k_0 (t_none ?_)))
    | (show Rch _ _ _ _ _ 15 _ _ _; refine Rch.blk' (Rn_mono mt _) bl_X4_isIn_15 (t_zret (by omega) ?_)))
theorem c_X4_sized {x : Int} (hx : -1000 ≤ x ∧ x ≤ 1000) (hq : 0 ≤ ab x → ab x ≤ 1000 → Q (some (ai (I (ab x)))) h) : Rn mt (d + 1) 106 [ai (I x)] h Q := by
  refine Rn.intro iX4_sized rfl rfl ?_
  show Rch bX4_sized _ _ _ _ 0 [some (ai (I x))] [] _
  have hq := hq (by unfold ab; omega) (by unfold ab; omega)
  unfold ab at hq
  repeat' (first
    | (refine Eq.mp ?_ hq; congr 4; omega)
    | (show Rch _ _ _ _ _ 0 _ _ _; refine Rch.blk' (Rn_mono mt _) bl_X4_sized_0 (i_iload_n rfl (t_if_ge 9 4 rfl rfl (by first | exact hI_R | exact band_R | exact bor_R | exact bshr_R | exact lcm_R | omega) (fun hc => ?_) (fun hc => ?_))) <;> (first | (exfalso; omega) | skip))
    | (show Rch _ _ _ _ _ 4 _ _ _; refine Rch.blk' (Rn_mono mt _) bl_X4_sized_4 (i_iload_n rfl (i_ineg (t_goto 10 rfl ?_))))
    | (show Rch _ _ _ _ _ 9 _ _ _; refine Rch.blk' (Rn_mono mt _) bl_X4_sized_9 (i_iload_n rfl (t_none ?_)))
    | (show Rch _ _ _ _ _ 10 _ _ _; refine Rch.blk' (Rn_mono mt _) bl_X4_sized_10 (t_iret ?_)))
theorem c_X4_least {x y : Int} (hx : inR x) (hy : inR y) (h1 : x < y → Q (some (ai (I x))) h) (h0 : y ≤ x → Q (some (ai (I y))) h) : Rn mt (d + 1) 107 [ai (I x), ai (I y)] h Q := by
  refine Rn.intro iX4_least rfl rfl ?_
  show Rch bX4_least _ _ _ _ 0 [some (ai (I x)), some (ai (I y))] [] _
  repeat' (first
    | exact h1 (by omega)
    | exact h0 (by omega)
    | (show Rch _ _ _ _ _ 0 _ _ _; refine Rch.blk' (Rn_mono mt _) bl_X4_least_0 (i_iload_n rfl (i_iload_n rfl (t_ic_ge 9 5 rfl rfl (by first | exact hI_R | exact band_R | exact bor_R | exact bshr_R | exact lcm_R | omega) (by first | exact hI_R | exact band_R | exact bor_R | exact bshr_R | exact lcm_R | omega) (fun hc => ?_) (fun hc => ?_)))) <;> (first | (exfalso; omega) | skip))
    | (show Rch _ _ _ _ _ 5 _ _ _; refine Rch.blk' (Rn_mono mt _) bl_X4_least_5 (i_iload_n rfl (t_goto 10 rfl ?_)))
    | (show Rch _ _ _ _ _ 9 _ _ _; refine Rch.blk' (Rn_mono mt _) bl_X4_least_9 (i_iload_n rfl (t_none ?_)))
    | (show Rch _ _ _ _ _ 10 _ _ _; refine Rch.blk' (Rn_mono mt _) bl_X4_least_10 (t_iret ?_)))
theorem c_X4_of {x y : Int} (hq : Q (some (ai (I (6 + 4 * x + y)))) h) : Rn mt (d + 1) 109 [ai (I x), ai (I y)] h Q := by
  refine Rn.intro iX4_of rfl rfl ?_
  show Rch bX4_of _ _ _ _ 0 [some (ai (I x)), some (ai (I y))] [] _
  repeat' (first
    | exact hq
    | (show Rch _ _ _ _ _ 0 _ _ _; refine Rch.blk' (Rn_mono mt _) bl_X4_of_0 (i_bipush k_6 (i_iconst k_4 (i_iload_n rfl (i_imul (i_iadd (i_iload_n rfl (i_iadd (t_iret ?_))))))))))
theorem c_X4_isSquare {x : Int} (hx : inR x) (h1 : 0 ≤ x → x < 36 → Q (some (ai (I 1))) h) (h0 : ¬ (0 ≤ x ∧ x < 36) → Q (some (ai (I 0))) h) : Rn mt (d + 2) 112 [ai (I x)] h Q := by
  refine Rn.intro iX4_isSquare rfl rfl ?_
  show Rch bX4_isSquare _ _ _ _ 0 [some (ai (I x))] [] _
  repeat' (first
    | exact h1 (by omega) (by omega)
    | exact h0 (by omega)
    | (show Rn _ _ 105 _ _ _; refine c_X4_isIn (by first | omega | exact hI_R) (by first | omega | exact hI_R) (by first | omega | exact hI_R) (fun _ _ => ?_) (fun _ => ?_))
    | (show Rch _ _ _ _ _ 0 _ _ _; refine Rch.blk' (Rn_mono mt _) bl_X4_isSquare_0 (i_iload_n rfl (i_iconst k_0 (i_bipush k_35 (t_cs3 (Rn_mono mt _) 7 rfl (Nat.le_of_ble_eq_true rfl) ?_)))))
    | (show Rch _ _ _ _ _ 7 _ _ _; refine Rch.blk' (Rn_mono mt _) bl_X4_isSquare_7 (t_zret (by omega) ?_)))
theorem c_X4_isSide {x : Int} (hx : inR x) (h1 : x = 0 ∨ x = 1 → Q (some (ai (I 1))) h) (h0 : ¬ (x = 0 ∨ x = 1) → Q (some (ai (I 0))) h) : Rn mt (d + 2) 113 [ai (I x)] h Q := by
  refine Rn.intro iX4_isSide rfl rfl ?_
  show Rch bX4_isSide _ _ _ _ 0 [some (ai (I x))] [] _
  repeat' (first
    | exact h1 (by omega)
    | exact h0 (by omega)
    | (show Rn _ _ 105 _ _ _; refine c_X4_isIn (by first | omega | exact hI_R) (by first | omega | exact hI_R) (by first | omega | exact hI_R) (fun _ _ => ?_) (fun _ => ?_))
    | (show Rch _ _ _ _ _ 0 _ _ _; refine Rch.blk' (Rn_mono mt _) bl_X4_isSide_0 (i_iload_n rfl (i_iconst k_0 (i_iconst k_1 (t_cs3 (Rn_mono mt _) 6 rfl (Nat.le_of_ble_eq_true rfl) ?_)))))
    | (show Rch _ _ _ _ _ 6 _ _ _; refine Rch.blk' (Rn_mono mt _) bl_X4_isSide_6 (t_zret (by omega) ?_)))
theorem c_X4_isHere (hG : RR h b G M ra) (hO : OKB G) {z : Int} (z0 : 0 ≤ z) (z1 : z < nn G) (h1 : 0 ≤ sq G z → sq G z < 36 → Q (some (ai (I 1))) h) (h0 : sq G z = 36 → Q (some (ai (I 0))) h) : Rn mt (d + 2) 114 [ar 12 b, ai (I z)] h Q := by
  refine Rn.intro iX4_isHere rfl rfl ?_
  show Rch bX4_isHere _ _ _ _ 0 [some (ar 12 b), some (ai (I z))] [] _
  have e_q := @RR.q _ _ _ _ _ hG
  have g_n := hO.n
  have g_p := hO.pc z z0 z1
  have g_m := @m4_R (sq G z)
  repeat' (first
    | exact h1 (by omega) (by omega)
    | exact h0 (by omega)
    | (show Rn _ _ 109 _ _ _; refine c_X4_of ?_)
    | (show Rch _ _ _ _ _ 0 _ _ _; refine Rch.blk' (Rn_mono mt _) bl_X4_isHere_0 (i_aload_n rfl (i_iload_n rfl (i_iconst k_3 (t_cs2 (Rn_mono mt _) 6 rfl (Nat.le_of_ble_eq_true rfl) ?_)))))
    | (show Rch _ _ _ _ _ 6 _ _ _; refine Rch.blk' (Rn_mono mt _) bl_X4_isHere_6 (i_iald rfl (by first | omega | (simp (disch := omega) only [e_q]; omega)) (by simp only [aln]; omega) (by simp only [aln]; omega) (t_if_lt 14 10 rfl rfl (by first | exact hI_R | exact band_R | exact bor_R | exact bshr_R | exact lcm_R | omega | (simp (disch := omega) only [e_q]; omega)) (fun hc => ?_) (fun hc => ?_))) <;> (try (simp (disch := omega) only [e_q] at hc ⊢)) <;> (first | (exfalso; omega) | skip))
    | (show Rch _ _ _ _ _ 10 _ _ _; refine Rch.blk' (Rn_mono mt _) bl_X4_isHere_10 (i_iconst k_1 (t_goto 15 rfl ?_)))
    | (show Rch _ _ _ _ _ 14 _ _ _; refine Rch.blk' (Rn_mono mt _) bl_X4_isHere_14 (i_iconst k_0 (t_none ?_)))
    | (show Rch _ _ _ _ _ 15 _ _ _; refine Rch.blk' (Rn_mono mt _) bl_X4_isHere_15 (t_zret (by omega) ?_)))
theorem c_X4_has {P : Int → Prop} {z : Int} (z0 : 0 ≤ z) (z1 : z < 10) (h1 : P z → Q (some (ai (I 1))) h) (h0 : ¬ P z → Q (some (ai (I 0))) h) : Rn mt (d + 1) 115 [ai (I (BT P)), ai (I z)] h Q := by
  refine Rn.intro iX4_has rfl rfl ?_
  show Rch bX4_has _ _ _ _ 0 [some (ai (I (BT P))), some (ai (I z))] [] _
  have e := b_has (P := P) z0 z1
  by_cases hP : P z
  · have h1 := h1 hP
    rw [ifp_p hP] at e
    repeat' (first
      | exact h1
      | (show Rch _ _ _ _ _ 0 _ _ _; refine Rch.blk' (Rn_mono mt _) bl_X4_has_0 (i_iload_n rfl (i_iload_n rfl (i_ishr (i_iconst k_1 (i_iand (i_iconst k_1 (t_ic_ne 13 9 rfl rfl (by first | exact hI_R | exact band_R | exact bor_R | exact bshr_R | exact lcm_R | omega | (simp (disch := omega) only [e]; omega)) (by first | exact hI_R | exact band_R | exact bor_R | exact bshr_R | exact lcm_R | omega | (simp (disch := omega) only [e]; omega)) (fun hc => ?_) (fun hc => ?_)))))))) <;> (first | (exfalso; omega) | skip))
      | (show Rch _ _ _ _ _ 9 _ _ _; refine Rch.blk' (Rn_mono mt _) bl_X4_has_9 (i_iconst k_1 (t_goto 14 rfl ?_)))
      | (show Rch _ _ _ _ _ 13 _ _ _; refine Rch.blk' (Rn_mono mt _) bl_X4_has_13 (i_iconst k_0 (t_none ?_)))
      | (show Rch _ _ _ _ _ 14 _ _ _; refine Rch.blk' (Rn_mono mt _) bl_X4_has_14 (t_zret (by omega) ?_)))
  · have h0 := h0 hP
    rw [ifp_n hP] at e
    repeat' (first
      | exact h0
      | (show Rch _ _ _ _ _ 0 _ _ _; refine Rch.blk' (Rn_mono mt _) bl_X4_has_0 (i_iload_n rfl (i_iload_n rfl (i_ishr (i_iconst k_1 (i_iand (i_iconst k_1 (t_ic_ne 13 9 rfl rfl (by first | exact hI_R | exact band_R | exact bor_R | exact bshr_R | exact lcm_R | omega | (simp (disch := omega) only [e]; omega)) (by first | exact hI_R | exact band_R | exact bor_R | exact bshr_R | exact lcm_R | omega | (simp (disch := omega) only [e]; omega)) (fun hc => ?_) (fun hc => ?_)))))))) <;> (first | (exfalso; omega) | skip))
      | (show Rch _ _ _ _ _ 9 _ _ _; refine Rch.blk' (Rn_mono mt _) bl_X4_has_9 (i_iconst k_1 (t_goto 14 rfl ?_)))
      | (show Rch _ _ _ _ _ 13 _ _ _; refine Rch.blk' (Rn_mono mt _) bl_X4_has_13 (i_iconst k_0 (t_none ?_)))
      | (show Rch _ _ _ _ _ 14 _ _ _; refine Rch.blk' (Rn_mono mt _) bl_X4_has_14 (t_zret (by omega) ?_)))
theorem c_X4_bits {P : Int → Prop} (hq : 0 ≤ cnt P 10 → cnt P 10 ≤ 10 → Q (some (ai (I (cnt P 10)))) h) : Rn mt (d + 1) 116 [ai (I (BT P))] h Q := by
  refine Rn.intro iX4_bits rfl rfl ?_
  show Rch bX4_bits _ _ _ _ 0 [some (ai (I (BT P))), none, none] [] _
  have g_c := cnt_R (C := P) (k := 10) (by omega)
  have key : ∀ k : Int, k ≤ 10 → 0 ≤ k → RH bX4_bits d Q 4 [some (ai (I (BT P))), some (ai (I (cnt P k))), some (ai (I k))] h := by
    refine up_ind (fun k hk ih hk0 => ?_)
    by_cases hk1 : k < 10
    · have e := b_has (P := P) hk0 hk1
      have e2 : cnt P k + band (bshr (BT P) k) 1 = cnt P (k + 1) := by
        rw [e]
        by_cases hP : P k
        · rw [ifp_p hP, cnt_u1 hk0 hP]
        · rw [ifp_n hP, cnt_u0 hk0 hP]; omega
      have ih := ih hk1 (by omega)
      rw [← e2] at ih
      refine Rch.blk' (Rn_mono mt _) bl_X4_bits_4 (i_iload_n rfl (i_bipush k_10 (t_ic_ge 24 10 rfl rfl (by first | exact hI_R | exact band_R | exact bor_R | exact bshr_R | exact lcm_R | omega) (by first | exact hI_R | exact band_R | exact bor_R | exact bshr_R | exact lcm_R | omega) (fun hc => ?_) (fun hc => ?_)))) <;> (first | (exfalso; omega) | skip)
      repeat' (first
        | exact ih
        | (show Rch _ _ _ _ _ 0 _ _ _; refine Rch.blk' (Rn_mono mt _) bl_X4_bits_0 (i_iconst k_0 (i_istore1 trivial (i_iconst k_0 (i_istore2 trivial (t_none ?_))))))
        | (show Rch _ _ _ _ _ 10 _ _ _; refine Rch.blk' (Rn_mono mt _) bl_X4_bits_10 (i_iload_n rfl (i_iload_n rfl (i_iload_n rfl (i_ishr (i_iconst k_1 (i_iand (i_iadd (i_istore1 trivial (i_iinc2 trivial k_1 (t_goto 4 rfl ?_)))))))))))
        | (show Rch _ _ _ _ _ 24 _ _ _; refine Rch.blk' (Rn_mono mt _) bl_X4_bits_24 (i_iload_n rfl (t_iret ?_))))
    · obtain rfl : k = 10 := by omega
      have hq := hq g_c.1 g_c.2
      refine Rch.blk' (Rn_mono mt _) bl_X4_bits_4 (i_iload_n rfl (i_bipush k_10 (t_ic_ge 24 10 rfl rfl (by first | exact hI_R | exact band_R | exact bor_R | exact bshr_R | exact lcm_R | omega) (by first | exact hI_R | exact band_R | exact bor_R | exact bshr_R | exact lcm_R | omega) (fun hc => ?_) (fun hc => ?_)))) <;> (first | (exfalso; omega) | skip)
      repeat' (first
        | exact hq
        | (show Rch _ _ _ _ _ 0 _ _ _; refine Rch.blk' (Rn_mono mt _) bl_X4_bits_0 (i_iconst k_0 (i_istore1 trivial (i_iconst k_0 (i_istore2 trivial (t_none ?_))))))
        | (show Rch _ _ _ _ _ 10 _ _ _; refine Rch.blk' (Rn_mono mt _) bl_X4_bits_10 (i_iload_n rfl (i_iload_n rfl (i_iload_n rfl (i_ishr (i_iconst k_1 (i_iand (i_iadd (i_istore1 trivial (i_iinc2 trivial k_1 (t_goto 4 rfl ?_)))))))))))
        | (show Rch _ _ _ _ _ 24 _ _ _; refine Rch.blk' (Rn_mono mt _) bl_X4_bits_24 (i_iload_n rfl (t_iret ?_))))
  repeat' (first
    | exact key 0 (by omega) (by omega)
    | (show Rch _ _ _ _ _ 0 _ _ _; refine Rch.blk' (Rn_mono mt _) bl_X4_bits_0 (i_iconst k_0 (i_istore1 trivial (i_iconst k_0 (i_istore2 trivial (t_none ?_))))))
    | (show Rch _ _ _ _ _ 10 _ _ _; refine Rch.blk' (Rn_mono mt _) bl_X4_bits_10 (i_iload_n rfl (i_iload_n rfl (i_iload_n rfl (i_ishr (i_iconst k_1 (i_iand (i_iadd (i_istore1 trivial (i_iinc2 trivial k_1 (t_goto 4 rfl ?_)))))))))))
    | (show Rch _ _ _ _ _ 24 _ _ _; refine Rch.blk' (Rn_mono mt _) bl_X4_bits_24 (i_iload_n rfl (t_iret ?_))))
theorem c_X4_onSquare (hG : RR h b G M ra) (hO : OKB G) {q : Int} (hq0 : 0 ≤ q) (hq1 : q < 36) (h1 : 0 ≤ ons G q → ons G q < nn G → sq G (ons G q) = q → Q (some (ai (I (ons G q)))) h) (h0 : ons G q = -4 → Q (some (ai (I (-1)))) h) : Rn mt (d + 2) 117 [ar 12 b, ai (I q)] h Q := by
  refine Rn.intro iX4_onSquare rfl rfl ?_
  show Rch bX4_onSquare _ _ _ _ 0 [some (ar 12 b), some (ai (I q)), none] [] _
  have e_q := @RR.q _ _ _ _ _ hG
  have e_n := hG.n
  have g_n := hO.n
  have key : ∀ k : Int, k ≤ nn G → 0 ≤ k → (∀ o, 0 ≤ o → o < k → ¬ sq G o = q) → RH bX4_onSquare (d + 1) Q 2 [some (ar 12 b), some (ai (I q)), some (ai (I k))] h := by
    refine up_ind (fun k hk ih hk0 hi => ?_)
    have g_m := @m4_R (sq G k)
    have hn : ¬ sq G k = q → ∀ o, 0 ≤ o → o < k + 1 → ¬ sq G o = q := by
      intro hx o o0 o1
      by_cases ho : o = k
      · subst ho; exact hx
      · exact hi o o0 (by omega)
    have hend : nn G ≤ k → Q (some (ai (I (-1)))) h := by
      intro hx
      rcases ons_c G q with ⟨g, -⟩ | ⟨g, g', g''⟩
      · exact h0 g
      · exact absurd g'' (hi _ g (by omega))
    have hit : k < nn G → sq G k = q → Q (some (ai (I k))) h := by
      intro hx hy
      have e := ons_at hO hk0 hx (by omega)
      rw [hy] at e
      rw [e] at h1
      exact h1 hk0 hx hy
    refine Rch.blk' (Rn_mono mt _) bl_X4_onSquare_2 (i_iload_n rfl (i_aload_n rfl (i_iconst k_0 (i_iald (n := 46) rfl (by first | omega | (simp (disch := omega) only [e_n, e_q]; omega)) (by first | omega | (simp (disch := omega) only [e_n, e_q]; omega)) (by first | omega | (simp (disch := omega) only [e_n, e_q]; omega)) (t_ic_ge 28 9 rfl rfl (by first | exact hI_R | exact band_R | exact bor_R | exact bshr_R | exact lcm_R | omega | (simp (disch := omega) only [e_n, e_q]; omega)) (by first | exact hI_R | exact band_R | exact bor_R | exact bshr_R | exact lcm_R | omega | (simp (disch := omega) only [e_n, e_q]; omega)) (fun hc => ?_) (fun hc => ?_)))))) <;> (try (simp (disch := omega) only [e_n, e_q] at hc ⊢)) <;> (first | (exfalso; omega) | skip)
    repeat' (first
      | exact hend (by omega)
      | exact hit (by omega) (by omega)
      | exact ih (by omega) (by omega) (hn (by omega))
      | (show Rn _ _ 109 _ _ _; refine c_X4_of ?_)
      | (show Rch _ _ _ _ _ 0 _ _ _; refine Rch.blk' (Rn_mono mt _) bl_X4_onSquare_0 (i_iconst k_0 (i_istore2 trivial (t_none ?_))))
      | (show Rch _ _ _ _ _ 9 _ _ _; refine Rch.blk' (Rn_mono mt _) bl_X4_onSquare_9 (i_aload_n rfl (i_iload_n rfl (i_iconst k_3 (t_cs2 (Rn_mono mt _) 15 rfl (Nat.le_of_ble_eq_true rfl) ?_)))))
      | (show Rch _ _ _ _ _ 15 _ _ _; refine Rch.blk' (Rn_mono mt _) bl_X4_onSquare_15 (i_iald rfl (by first | omega | (simp (disch := omega) only [e_n, e_q]; omega)) (by simp only [aln]; omega) (by simp only [aln]; omega) (i_iload_n rfl (t_ic_ne 22 20 rfl rfl (by first | exact hI_R | exact band_R | exact bor_R | exact bshr_R | exact lcm_R | omega | (simp (disch := omega) only [e_n, e_q]; omega)) (by first | exact hI_R | exact band_R | exact bor_R | exact bshr_R | exact lcm_R | omega | (simp (disch := omega) only [e_n, e_q]; omega)) (fun hc => ?_) (fun hc => ?_)))) <;> (try (simp (disch := omega) only [e_n, e_q] at hc ⊢)) <;> (first | (exfalso; omega) | skip))
      | (show Rch _ _ _ _ _ 20 _ _ _; refine Rch.blk' (Rn_mono mt _) bl_X4_onSquare_20 (i_iload_n rfl (t_iret ?_)))
      | (show Rch _ _ _ _ _ 22 _ _ _; refine Rch.blk' (Rn_mono mt _) bl_X4_onSquare_22 (i_iinc2 trivial k_1 (t_goto 2 rfl ?_)))
      | (show Rch _ _ _ _ _ 28 _ _ _; refine Rch.blk' (Rn_mono mt _) bl_X4_onSquare_28 (i_iconst k_m1 (t_iret ?_))))
  repeat' (first
    | exact key 0 (by omega) (by omega) (fun o _ _ => by omega)
    | (show Rn _ _ 109 _ _ _; refine c_X4_of ?_)
    | (show Rch _ _ _ _ _ 0 _ _ _; refine Rch.blk' (Rn_mono mt _) bl_X4_onSquare_0 (i_iconst k_0 (i_istore2 trivial (t_none ?_))))
    | (show Rch _ _ _ _ _ 9 _ _ _; refine Rch.blk' (Rn_mono mt _) bl_X4_onSquare_9 (i_aload_n rfl (i_iload_n rfl (i_iconst k_3 (t_cs2 (Rn_mono mt _) 15 rfl (Nat.le_of_ble_eq_true rfl) ?_)))))
    | (show Rch _ _ _ _ _ 15 _ _ _; refine Rch.blk' (Rn_mono mt _) bl_X4_onSquare_15 (i_iald rfl (by omega) (by simp only [aln]; omega) (by simp only [aln]; omega) (i_iload_n rfl (t_ic_ne 22 20 rfl rfl (by first | exact hI_R | exact band_R | exact bor_R | exact bshr_R | exact lcm_R | omega) (by first | exact hI_R | exact band_R | exact bor_R | exact bshr_R | exact lcm_R | omega) (fun hc => ?_) (fun hc => ?_)))) <;> (first | (exfalso; omega) | skip))
    | (show Rch _ _ _ _ _ 20 _ _ _; refine Rch.blk' (Rn_mono mt _) bl_X4_onSquare_20 (i_iload_n rfl (t_iret ?_)))
    | (show Rch _ _ _ _ _ 22 _ _ _; refine Rch.blk' (Rn_mono mt _) bl_X4_onSquare_22 (i_iinc2 trivial k_1 (t_goto 2 rfl ?_)))
    | (show Rch _ _ _ _ _ 28 _ _ _; refine Rch.blk' (Rn_mono mt _) bl_X4_onSquare_28 (i_iconst k_m1 (t_iret ?_))))
theorem c_X4_squareOn {x r c : Int} (x0 : 0 ≤ x) (x1 : x < 36) (hr : -1000 ≤ r ∧ r ≤ 1000) (hc : -1000 ≤ c ∧ c ≤ 1000) (h1 : 0 ≤ sqO x r c → sqO x r c < 36 → Q (some (ai (I (sqO x r c)))) h) (h0 : sqO x r c = -4 → Q (some (ai (I (-2)))) h) : Rn mt (d + 2) 118 [ai (I x), ai (I r), ai (I c)] h Q := by
  refine Rn.intro iX4_squareOn rfl rfl ?_
  show Rch bX4_squareOn _ _ _ _ 0 [some (ai (I x)), some (ai (I r)), some (ai (I c)), none, none] [] _
  have h1' : 0 ≤ x / 6 + r → x / 6 + r ≤ 5 → 0 ≤ x % 6 + c → x % 6 + c ≤ 5 → Q (some (ai (I (6 * (x / 6 + r) + (x % 6 + c))))) h := by
    intro a1 a2 a3 a4
    have e : sqO x r c = 6 * (x / 6 + r) + (x % 6 + c) := by unfold sqO; omega
    rw [← e]
    exact h1 (by omega) (by omega)
  have h0' : ¬ (0 ≤ x / 6 + r ∧ x / 6 + r ≤ 5 ∧ 0 ≤ x % 6 + c ∧ x % 6 + c ≤ 5) → Q (some (ai (I (-2)))) h := fun a => h0 (by unfold sqO; omega)
  repeat' (first
    | exact h1' (by omega) (by omega) (by omega) (by omega)
    | exact h0' (by omega)
    | (show Rn _ _ 105 _ _ _; refine c_X4_isIn (by first | omega | exact hI_R) (by first | omega | exact hI_R) (by first | omega | exact hI_R) (fun _ _ => ?_) (fun _ => ?_))
    | (show Rch _ _ _ _ _ 0 _ _ _; refine Rch.blk' (Rn_mono mt _) bl_X4_squareOn_0 (i_iload_n rfl (i_bipush k_6 (i_idiv (by omega) (by omega) (by omega) (by omega) (i_iload_n rfl (i_iadd (i_istore3 trivial (i_iload_n rfl (i_bipush k_6 (i_irem (by omega) (by omega) (by omega) (by omega) (i_iload_n rfl (i_iadd (i_istore4 trivial (i_iload_n rfl (i_iconst k_0 (i_iconst k_5 (t_cs3 (Rn_mono mt _) 21 rfl (Nat.le_of_ble_eq_true rfl) ?_)))))))))))))))))
    | (show Rch _ _ _ _ _ 21 _ _ _; refine Rch.blk' (Rn_mono mt _) bl_X4_squareOn_21 (t_if_eq 44 24 rfl rfl (by first | exact hI_R | exact band_R | exact bor_R | exact bshr_R | exact lcm_R | omega) (fun hc => ?_) (fun hc => ?_)) <;> (first | (exfalso; omega) | skip))
    | (show Rch _ _ _ _ _ 24 _ _ _; refine Rch.blk' (Rn_mono mt _) bl_X4_squareOn_24 (i_iload rfl (i_iconst k_0 (i_iconst k_5 (t_cs3 (Rn_mono mt _) 31 rfl (Nat.le_of_ble_eq_true rfl) ?_)))))
    | (show Rch _ _ _ _ _ 31 _ _ _; refine Rch.blk' (Rn_mono mt _) bl_X4_squareOn_31 (t_if_eq 44 34 rfl rfl (by first | exact hI_R | exact band_R | exact bor_R | exact bshr_R | exact lcm_R | omega) (fun hc => ?_) (fun hc => ?_)) <;> (first | (exfalso; omega) | skip))
    | (show Rch _ _ _ _ _ 34 _ _ _; refine Rch.blk' (Rn_mono mt _) bl_X4_squareOn_34 (i_bipush k_6 (i_iload_n rfl (i_imul (i_iload rfl (i_iadd (t_goto 46 rfl ?_)))))))
    | (show Rch _ _ _ _ _ 44 _ _ _; refine Rch.blk' (Rn_mono mt _) bl_X4_squareOn_44 (i_bipush k_m2 (t_none ?_)))
    | (show Rch _ _ _ _ _ 46 _ _ _; refine Rch.blk' (Rn_mono mt _) bl_X4_squareOn_46 (t_iret ?_)))
theorem c_X4_isFree (hG : RR h b G M ra) (hO : OKB G) {q : Int} (hz : inR q) (hq1 : q < 36) (h1 : 0 ≤ q → q < 36 → ons G q = -4 → Q (some (ai (I 1))) h) (h0 : ¬ (0 ≤ q ∧ q < 36 ∧ ons G q = -4) → Q (some (ai (I 0))) h) : Rn mt (d + 3) 119 [ar 12 b, ai (I q)] h Q := by
  refine Rn.intro iX4_isFree rfl rfl ?_
  show Rch bX4_isFree _ _ _ _ 0 [some (ar 12 b), some (ai (I q))] [] _
  have g_n := hO.n
  repeat' (first
    | exact h1 (by omega) (by omega) (by omega)
    | exact h0 (by omega)
    | (show Rn _ _ 117 _ _ _; refine c_X4_onSquare (by assumption) (by assumption) (by omega) (by omega) (fun _ _ _ => ?_) (fun _ => ?_))
    | (show Rch _ _ _ _ _ 0 _ _ _; refine Rch.blk' (Rn_mono mt _) bl_X4_isFree_0 (i_iload_n rfl (t_if_lt 16 4 rfl rfl (by first | exact hI_R | exact band_R | exact bor_R | exact bshr_R | exact lcm_R | omega) (fun hc => ?_) (fun hc => ?_))) <;> (first | (exfalso; omega) | skip))
    | (show Rch _ _ _ _ _ 4 _ _ _; refine Rch.blk' (Rn_mono mt _) bl_X4_isFree_4 (i_aload_n rfl (i_iload_n rfl (t_cs2 (Rn_mono mt _) 9 rfl (Nat.le_of_ble_eq_true rfl) ?_))))
    | (show Rch _ _ _ _ _ 9 _ _ _; refine Rch.blk' (Rn_mono mt _) bl_X4_isFree_9 (t_if_ge 16 12 rfl rfl (by first | exact hI_R | exact band_R | exact bor_R | exact bshr_R | exact lcm_R | omega) (fun hc => ?_) (fun hc => ?_)) <;> (first | (exfalso; omega) | skip))
    | (show Rch _ _ _ _ _ 12 _ _ _; refine Rch.blk' (Rn_mono mt _) bl_X4_isFree_12 (i_iconst k_1 (t_goto 17 rfl ?_)))
    | (show Rch _ _ _ _ _ 16 _ _ _; refine Rch.blk' (Rn_mono mt _) bl_X4_isFree_16 (i_iconst k_0 (t_none ?_)))
    | (show Rch _ _ _ _ _ 17 _ _ _; refine Rch.blk' (Rn_mono mt _) bl_X4_isFree_17 (t_zret (by omega) ?_)))
theorem c_X4_isOfSide (hG : RR h b G M ra) (hO : OKB G) {q s : Int} (hz : inR q) (hs : inR s) (hq1 : q < 36) (h1 : 0 ≤ q → q < 36 → 0 ≤ ons G q → ons G q < nn G → sd G (ons G q) = s → Q (some (ai (I 1))) h) (h0 : ¬ (0 ≤ q ∧ q < 36 ∧ 0 ≤ ons G q ∧ sd G (ons G q) = s) → Q (some (ai (I 0))) h) : Rn mt (d + 3) 120 [ar 12 b, ai (I q), ai (I s)] h Q := by
  refine Rn.intro iX4_isOfSide rfl rfl ?_
  show Rch bX4_isOfSide _ _ _ _ 0 [some (ar 12 b), some (ai (I q)), some (ai (I s)), none] [] _
  have e_s := @RR.s _ _ _ _ _ hG
  have g_n := hO.n
  repeat' (first
    | exact h1 (by omega) (by omega) (by omega) (by omega) (by omega)
    | exact h0 (by omega)
    | (show Rn _ _ 117 _ _ _; refine c_X4_onSquare (by assumption) (by assumption) (by omega) (by omega) (fun _ _ _ => ?_) (fun _ => ?_))
    | (show Rn _ _ 109 _ _ _; refine c_X4_of ?_)
    | (show Rch _ _ _ _ _ 0 _ _ _; refine Rch.blk' (Rn_mono mt _) bl_X4_isOfSide_0 (i_iload_n rfl (t_if_ge 8 4 rfl rfl (by first | exact hI_R | exact band_R | exact bor_R | exact bshr_R | exact lcm_R | omega | (simp (disch := omega) only [e_s]; omega)) (fun hc => ?_) (fun hc => ?_))) <;> (first | (exfalso; omega) | skip))
    | (show Rch _ _ _ _ _ 4 _ _ _; refine Rch.blk' (Rn_mono mt _) bl_X4_isOfSide_4 (i_iconst k_m1 (t_goto 13 rfl ?_)))
    | (show Rch _ _ _ _ _ 8 _ _ _; refine Rch.blk' (Rn_mono mt _) bl_X4_isOfSide_8 (i_aload_n rfl (i_iload_n rfl (t_cs2 (Rn_mono mt _) 13 rfl (Nat.le_of_ble_eq_true rfl) ?_))))
    | (show Rch _ _ _ _ _ 13 _ _ _; refine Rch.blk' (Rn_mono mt _) bl_X4_isOfSide_13 (i_istore3 trivial (i_iload_n rfl (t_if_lt 33 18 rfl rfl (by first | exact hI_R | exact band_R | exact bor_R | exact bshr_R | exact lcm_R | omega | (simp (disch := omega) only [e_s]; omega)) (fun hc => ?_) (fun hc => ?_)))) <;> (first | (exfalso; omega) | skip))
    | (show Rch _ _ _ _ _ 18 _ _ _; refine Rch.blk' (Rn_mono mt _) bl_X4_isOfSide_18 (i_aload_n rfl (i_iload_n rfl (i_iconst k_2 (t_cs2 (Rn_mono mt _) 24 rfl (Nat.le_of_ble_eq_true rfl) ?_)))))
    | (show Rch _ _ _ _ _ 24 _ _ _; refine Rch.blk' (Rn_mono mt _) bl_X4_isOfSide_24 (i_iald rfl (by first | omega | (simp (disch := omega) only [e_s]; omega)) (by simp only [aln]; omega) (by simp only [aln]; omega) (i_iload_n rfl (t_ic_ne 33 29 rfl rfl (by first | exact hI_R | exact band_R | exact bor_R | exact bshr_R | exact lcm_R | omega | (simp (disch := omega) only [e_s]; omega)) (by first | exact hI_R | exact band_R | exact bor_R | exact bshr_R | exact lcm_R | omega | (simp (disch := omega) only [e_s]; omega)) (fun hc => ?_) (fun hc => ?_)))) <;> (try (simp (disch := omega) only [e_s] at hc ⊢)) <;> (first | (exfalso; omega) | skip))
    | (show Rch _ _ _ _ _ 29 _ _ _; refine Rch.blk' (Rn_mono mt _) bl_X4_isOfSide_29 (i_iconst k_1 (t_goto 34 rfl ?_)))
    | (show Rch _ _ _ _ _ 33 _ _ _; refine Rch.blk' (Rn_mono mt _) bl_X4_isOfSide_33 (i_iconst k_0 (t_none ?_)))
    | (show Rch _ _ _ _ _ 34 _ _ _; refine Rch.blk' (Rn_mono mt _) bl_X4_isOfSide_34 (t_zret (by omega) ?_)))
theorem c_X4_farOf {x y : Int} (h0 : 0 ≤ x) (h1 : x ≤ 36) (h2 : 0 ≤ y) (h3 : y ≤ 36) (hq : 0 ≤ fr x y → fr x y ≤ 6 → Q (some (ai (I (fr x y)))) h) : Rn mt (d + 2) 121 [ai (I x), ai (I y)] h Q := by
  refine Rn.intro iX4_farOf rfl rfl ?_
  show Rch bX4_farOf _ _ _ _ 0 [some (ai (I x)), some (ai (I y)), none, none] [] _
  have hq := hq (by unfold fr ab; omega) (by unfold fr ab; omega)
  unfold fr at hq
  repeat' (first
    | (refine Eq.mp ?_ hq; congr 4; omega)
    | (show Rn _ _ 106 _ _ _; refine c_X4_sized (by omega) (fun _ _ => ?_))
    | (show Rch _ _ _ _ _ 0 _ _ _; refine Rch.blk' (Rn_mono mt _) bl_X4_farOf_0 (i_iload_n rfl (i_bipush k_6 (i_idiv (by omega) (by omega) (by omega) (by omega) (i_iload_n rfl (i_bipush k_6 (i_idiv (by omega) (by omega) (by omega) (by omega) (i_isub (t_cs1 (Rn_mono mt _) 12 rfl (Nat.le_of_ble_eq_true rfl) ?_)))))))))
    | (show Rch _ _ _ _ _ 12 _ _ _; refine Rch.blk' (Rn_mono mt _) bl_X4_farOf_12 (i_istore2 trivial (i_iload_n rfl (i_bipush k_6 (i_irem (by omega) (by omega) (by omega) (by omega) (i_iload_n rfl (i_bipush k_6 (i_irem (by omega) (by omega) (by omega) (by omega) (i_isub (t_cs1 (Rn_mono mt _) 25 rfl (Nat.le_of_ble_eq_true rfl) ?_))))))))))
    | (show Rch _ _ _ _ _ 25 _ _ _; refine Rch.blk' (Rn_mono mt _) bl_X4_farOf_25 (i_istore3 trivial (i_iload_n rfl (i_iload_n rfl (t_ic_le 35 31 rfl rfl (by first | exact hI_R | exact band_R | exact bor_R | exact bshr_R | exact lcm_R | omega) (by first | exact hI_R | exact band_R | exact bor_R | exact bshr_R | exact lcm_R | omega) (fun hc => ?_) (fun hc => ?_))))) <;> (first | (exfalso; omega) | skip))
    | (show Rch _ _ _ _ _ 31 _ _ _; refine Rch.blk' (Rn_mono mt _) bl_X4_farOf_31 (i_iload_n rfl (t_goto 36 rfl ?_)))
    | (show Rch _ _ _ _ _ 35 _ _ _; refine Rch.blk' (Rn_mono mt _) bl_X4_farOf_35 (i_iload_n rfl (t_none ?_)))
    | (show Rch _ _ _ _ _ 36 _ _ _; refine Rch.blk' (Rn_mono mt _) bl_X4_farOf_36 (t_iret ?_)))
theorem c_X4_forward (hG : RR h b G M ra) (hO : OKB G) {z : Int} (z0 : 0 ≤ z) (z1 : z < nn G) (h0 : sd G z = 0 → sg G z 1 = 1 → Q (some (ai (I 1))) h) (h1 : sd G z = 1 → sg G z 1 = -1 → Q (some (ai (I (-1)))) h) : Rn mt (d + 2) 122 [ar 12 b, ai (I z)] h Q := by
  refine Rn.intro iX4_forward rfl rfl ?_
  show Rch bX4_forward _ _ _ _ 0 [some (ar 12 b), some (ai (I z))] [] _
  have e_s := @RR.s _ _ _ _ _ hG
  have g_n := hO.n
  have g_p := hO.pc z z0 z1
  repeat' (first
    | exact h0 (by omega) (by unfold sg; omega)
    | exact h1 (by omega) (by unfold sg; omega)
    | (show Rn _ _ 109 _ _ _; refine c_X4_of ?_)
    | (show Rch _ _ _ _ _ 0 _ _ _; refine Rch.blk' (Rn_mono mt _) bl_X4_forward_0 (i_aload_n rfl (i_iload_n rfl (i_iconst k_2 (t_cs2 (Rn_mono mt _) 6 rfl (Nat.le_of_ble_eq_true rfl) ?_)))))
    | (show Rch _ _ _ _ _ 6 _ _ _; refine Rch.blk' (Rn_mono mt _) bl_X4_forward_6 (i_iald rfl (by first | omega | (simp (disch := omega) only [e_s]; omega)) (by simp only [aln]; omega) (by simp only [aln]; omega) (t_if_ne 14 10 rfl rfl (by first | exact hI_R | exact band_R | exact bor_R | exact bshr_R | exact lcm_R | omega | (simp (disch := omega) only [e_s]; omega)) (fun hc => ?_) (fun hc => ?_))) <;> (try (simp (disch := omega) only [e_s] at hc ⊢)) <;> (first | (exfalso; omega) | skip))
    | (show Rch _ _ _ _ _ 10 _ _ _; refine Rch.blk' (Rn_mono mt _) bl_X4_forward_10 (i_iconst k_1 (t_goto 15 rfl ?_)))
    | (show Rch _ _ _ _ _ 14 _ _ _; refine Rch.blk' (Rn_mono mt _) bl_X4_forward_14 (i_iconst k_m1 (t_none ?_)))
    | (show Rch _ _ _ _ _ 15 _ _ _; refine Rch.blk' (Rn_mono mt _) bl_X4_forward_15 (t_iret ?_)))
theorem c_X4_earsBy {x y : Int} (hx : inR x) (h2 : 0 ≤ y) (h3 : y ≤ 10) (hq : 0 ≤ ea x y → ea x y ≤ 20 → Q (some (ai (I (ea x y)))) h) : Rn mt (d + 1) 129 [ai (I x), ai (I y)] h Q := by
  refine Rn.intro iX4_earsBy rfl rfl ?_
  show Rch bX4_earsBy _ _ _ _ 0 [some (ai (I x)), some (ai (I y))] [] _
  have hq := hq (by unfold ea; omega) (by unfold ea; omega)
  unfold ea at hq
  repeat' (first
    | (refine Eq.mp ?_ hq; congr 4; omega)
    | (show Rch _ _ _ _ _ 0 _ _ _; refine Rch.blk' (Rn_mono mt _) bl_X4_earsBy_0 (i_iload_n rfl (t_tsw 1 7 58 rfl rfl (by omega) rfl (by first | exact hI_R | exact band_R | exact bor_R | exact bshr_R | exact lcm_R | omega) (by omega) (sw_c 1 44 2 rfl rfl (by first | exact hI_R | exact band_R | exact bor_R | exact bshr_R | exact lcm_R | omega) (by omega) rfl (fun hc => ?_) (sw_c 2 46 3 rfl rfl (by first | exact hI_R | exact band_R | exact bor_R | exact bshr_R | exact lcm_R | omega) (by omega) rfl (fun hc => ?_) (sw_c 3 48 4 rfl rfl (by first | exact hI_R | exact band_R | exact bor_R | exact bshr_R | exact lcm_R | omega) (by omega) rfl (fun hc => ?_) (sw_c 4 50 5 rfl rfl (by first | exact hI_R | exact band_R | exact bor_R | exact bshr_R | exact lcm_R | omega) (by omega) rfl (fun hc => ?_) (sw_c 5 54 6 rfl rfl (by first | exact hI_R | exact band_R | exact bor_R | exact bshr_R | exact lcm_R | omega) (by omega) rfl (fun hc => ?_) (sw_c 6 56 7 rfl rfl (by first | exact hI_R | exact band_R | exact bor_R | exact bshr_R | exact lcm_R | omega) (by omega) rfl (fun hc => ?_) (sw_c 7 48 8 rfl rfl (by first | exact hI_R | exact band_R | exact bor_R | exact bshr_R | exact lcm_R | omega) (by omega) rfl (fun hc => ?_) sw_n))))))) (fun hc => ?_))) <;> (first | (exfalso; omega) | skip))
    | (show Rch _ _ _ _ _ 44 _ _ _; refine Rch.blk' (Rn_mono mt _) bl_X4_earsBy_44 (i_iconst k_3 (t_iret ?_)))
    | (show Rch _ _ _ _ _ 46 _ _ _; refine Rch.blk' (Rn_mono mt _) bl_X4_earsBy_46 (i_iload_n rfl (t_iret ?_)))
    | (show Rch _ _ _ _ _ 48 _ _ _; refine Rch.blk' (Rn_mono mt _) bl_X4_earsBy_48 (i_iconst k_4 (t_iret ?_)))
    | (show Rch _ _ _ _ _ 50 _ _ _; refine Rch.blk' (Rn_mono mt _) bl_X4_earsBy_50 (i_iload_n rfl (i_iconst k_3 (i_iadd (t_iret ?_)))))
    | (show Rch _ _ _ _ _ 54 _ _ _; refine Rch.blk' (Rn_mono mt _) bl_X4_earsBy_54 (i_iconst k_5 (t_iret ?_)))
    | (show Rch _ _ _ _ _ 56 _ _ _; refine Rch.blk' (Rn_mono mt _) bl_X4_earsBy_56 (i_iconst k_0 (t_iret ?_)))
    | (show Rch _ _ _ _ _ 58 _ _ _; refine Rch.blk' (Rn_mono mt _) bl_X4_earsBy_58 (i_iconst k_2 (t_iret ?_))))
theorem c_X4_worthBy {x y : Int} (hx : inR x) (h2 : 0 ≤ y) (h3 : y ≤ 10) (hq : 1 ≤ wo x y → wo x y ≤ 9 → Q (some (ai (I (wo x y)))) h) : Rn mt (d + 1) 130 [ai (I x), ai (I y)] h Q := by
  refine Rn.intro iX4_worthBy rfl rfl ?_
  show Rch bX4_worthBy _ _ _ _ 0 [some (ai (I x)), some (ai (I y))] [] _
  have hq := hq (by unfold wo; omega) (by unfold wo; omega)
  unfold wo at hq
  repeat' (first
    | (refine Eq.mp ?_ hq; congr 4; omega)
    | (show Rch _ _ _ _ _ 0 _ _ _; refine Rch.blk' (Rn_mono mt _) bl_X4_worthBy_0 (i_iload_n rfl (t_tsw 1 7 59 rfl rfl (by omega) rfl (by first | exact hI_R | exact band_R | exact bor_R | exact bshr_R | exact lcm_R | omega) (by omega) (sw_c 1 44 2 rfl rfl (by first | exact hI_R | exact band_R | exact bor_R | exact bshr_R | exact lcm_R | omega) (by omega) rfl (fun hc => ?_) (sw_c 2 46 3 rfl rfl (by first | exact hI_R | exact band_R | exact bor_R | exact bshr_R | exact lcm_R | omega) (by omega) rfl (fun hc => ?_) (sw_c 3 48 4 rfl rfl (by first | exact hI_R | exact band_R | exact bor_R | exact bshr_R | exact lcm_R | omega) (by omega) rfl (fun hc => ?_) (sw_c 4 54 5 rfl rfl (by first | exact hI_R | exact band_R | exact bor_R | exact bshr_R | exact lcm_R | omega) (by omega) rfl (fun hc => ?_) (sw_c 5 54 6 rfl rfl (by first | exact hI_R | exact band_R | exact bor_R | exact bshr_R | exact lcm_R | omega) (by omega) rfl (fun hc => ?_) (sw_c 6 57 7 rfl rfl (by first | exact hI_R | exact band_R | exact bor_R | exact bshr_R | exact lcm_R | omega) (by omega) rfl (fun hc => ?_) (sw_c 7 48 8 rfl rfl (by first | exact hI_R | exact band_R | exact bor_R | exact bshr_R | exact lcm_R | omega) (by omega) rfl (fun hc => ?_) sw_n))))))) (fun hc => ?_))) <;> (first | (exfalso; omega) | skip))
    | (show Rch _ _ _ _ _ 44 _ _ _; refine Rch.blk' (Rn_mono mt _) bl_X4_worthBy_44 (i_iconst k_3 (t_iret ?_)))
    | (show Rch _ _ _ _ _ 46 _ _ _; refine Rch.blk' (Rn_mono mt _) bl_X4_worthBy_46 (i_iconst k_5 (t_iret ?_)))
    | (show Rch _ _ _ _ _ 48 _ _ _; refine Rch.blk' (Rn_mono mt _) bl_X4_worthBy_48 (i_iconst k_1 (i_iload_n rfl (i_iconst k_3 (i_idiv (by omega) (by omega) (by omega) (by omega) (i_iadd (t_iret ?_)))))))
    | (show Rch _ _ _ _ _ 54 _ _ _; refine Rch.blk' (Rn_mono mt _) bl_X4_worthBy_54 (i_bipush k_9 (t_iret ?_)))
    | (show Rch _ _ _ _ _ 57 _ _ _; refine Rch.blk' (Rn_mono mt _) bl_X4_worthBy_57 (i_iconst k_4 (t_iret ?_)))
    | (show Rch _ _ _ _ _ 59 _ _ _; refine Rch.blk' (Rn_mono mt _) bl_X4_worthBy_59 (i_iconst k_1 (t_iret ?_))))
theorem c_X4_costBy {x y : Int} (hx : inR x) (h2 : 0 ≤ y) (h3 : y ≤ 10) (hq : 0 ≤ co x y → co x y ≤ 30 → Q (some (ai (I (co x y)))) h) : Rn mt (d + 1) 205 [ai (I x), ai (I y)] h Q := by
  refine Rn.intro iX4_costBy rfl rfl ?_
  show Rch bX4_costBy _ _ _ _ 0 [some (ai (I x)), some (ai (I y))] [] _
  have hq := hq (by unfold co; omega) (by unfold co; omega)
  unfold co at hq
  repeat' (first
    | (refine Eq.mp ?_ hq; congr 4; omega)
    | (show Rch _ _ _ _ _ 0 _ _ _; refine Rch.blk' (Rn_mono mt _) bl_X4_costBy_0 (i_iload_n rfl (t_tsw 1 6 56 rfl rfl (by omega) rfl (by first | exact hI_R | exact band_R | exact bor_R | exact bshr_R | exact lcm_R | omega) (by omega) (sw_c 1 40 2 rfl rfl (by first | exact hI_R | exact band_R | exact bor_R | exact bshr_R | exact lcm_R | omega) (by omega) rfl (fun hc => ?_) (sw_c 2 42 3 rfl rfl (by first | exact hI_R | exact band_R | exact bor_R | exact bshr_R | exact lcm_R | omega) (by omega) rfl (fun hc => ?_) (sw_c 3 46 4 rfl rfl (by first | exact hI_R | exact band_R | exact bor_R | exact bshr_R | exact lcm_R | omega) (by omega) rfl (fun hc => ?_) (sw_c 4 48 5 rfl rfl (by first | exact hI_R | exact band_R | exact bor_R | exact bshr_R | exact lcm_R | omega) (by omega) rfl (fun hc => ?_) (sw_c 5 54 6 rfl rfl (by first | exact hI_R | exact band_R | exact bor_R | exact bshr_R | exact lcm_R | omega) (by omega) rfl (fun hc => ?_) (sw_c 6 42 7 rfl rfl (by first | exact hI_R | exact band_R | exact bor_R | exact bshr_R | exact lcm_R | omega) (by omega) rfl (fun hc => ?_) sw_n)))))) (fun hc => ?_))) <;> (first | (exfalso; omega) | skip))
    | (show Rch _ _ _ _ _ 40 _ _ _; refine Rch.blk' (Rn_mono mt _) bl_X4_costBy_40 (i_iconst k_3 (t_iret ?_)))
    | (show Rch _ _ _ _ _ 42 _ _ _; refine Rch.blk' (Rn_mono mt _) bl_X4_costBy_42 (i_iconst k_1 (i_iload_n rfl (i_iadd (t_iret ?_)))))
    | (show Rch _ _ _ _ _ 46 _ _ _; refine Rch.blk' (Rn_mono mt _) bl_X4_costBy_46 (i_iconst k_2 (t_iret ?_)))
    | (show Rch _ _ _ _ _ 48 _ _ _; refine Rch.blk' (Rn_mono mt _) bl_X4_costBy_48 (i_iconst k_2 (i_iconst k_1 (i_iload_n rfl (i_iadd (i_imul (t_iret ?_)))))))
    | (show Rch _ _ _ _ _ 54 _ _ _; refine Rch.blk' (Rn_mono mt _) bl_X4_costBy_54 (i_iconst k_0 (t_iret ?_)))
    | (show Rch _ _ _ _ _ 56 _ _ _; refine Rch.blk' (Rn_mono mt _) bl_X4_costBy_56 (i_iconst k_1 (t_iret ?_))))
end C3

